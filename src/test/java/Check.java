import java.util.NoSuchElementException;

/** What the tests share: comparing answers, telling a text. */
final class Check {
    /** Four people, two posts, three knowings' worth of everything: the tests' usual beach. */
    static final String USUAL = "beach limit 12 heat 2 slips 20;"
        + "person a reader at 10 thought 9 by 50;person b talker at 13 thought 4 by 100;"
        + "person c sleeper at 30 thought 9 by 0;person d child at 50 thought 5 by 20;"
        + "post x at 12 off 4;post y at 40 off 8;manned x;knows a b;knows b c;waved b;still a;still c";

    /** What led() answers here when it throws. */
    static final int THREW = -77;

    private static int wrong = 0;

    private Check() {
    }

    static void due(String call, long got, long want) {
        if (got != want) {
            wrong++;
            if (wrong <= 40) {
                System.out.println(call + " answered " + got + ", due is " + want);
            }
        }
    }

    static void due(String call, boolean got, boolean want) {
        due(call, got ? 1 : 0, want ? 1 : 0);
    }

    /** An answer that refuses, with its TROUBLE. */
    static void refused(ShoreGuards x, String call, long got, long want, int trouble) {
        due(call, got, want);
        due("trouble() after " + call, x.trouble(), trouble);
    }

    /** An answer that doesn't refuse. */
    static void granted(ShoreGuards x, String call, long got, long want) {
        due(call, got, want);
        due("trouble() after " + call, x.trouble(), 0);
    }

    static void granted(ShoreGuards x, String call, boolean got, boolean want) {
        granted(x, call, got ? 1 : 0, want ? 1 : 0);
    }

    static void refused(ShoreGuards x, String call, boolean got, int trouble) {
        refused(x, call, got ? 1 : 0, 0, trouble);
    }

    static void feedText(ShoreGuards x, String text) {
        int[] n = new int[5];
        for (int from = 0; from < text.length(); from += 20) {
            for (int i = 0; i < 5; i++) {
                n[i] = 0;
                for (int k = 0; k < 4; k++) {
                    int at = from + 4 * i + k;
                    n[i] = n[i] << 8 | (at < text.length() ? text.charAt(at) & 255 : ' ');
                }
            }
            x.feed(n[0], n[1], n[2], n[3], n[4]);
        }
    }

    static int tell(ShoreGuards x, String text) {
        feedText(x, text);
        return x.beach(text.length());
    }

    /** A new object with this beach, which must be without a FAULT. */
    static ShoreGuards beachOf(String text) {
        ShoreGuards x = new ShoreGuards();
        if (tell(x, text) < 1) {
            due("fault of " + text + " at " + x.where(), x.fault(), 0);
        }
        return x;
    }

    static int led(ShoreGuards x, int i) {
        try {
            return x.led(i);
        } catch (NoSuchElementException e) {
            return THREW;
        }
    }

    static void finish() {
        if (wrong != 0) {
            System.out.println(wrong + " answers are not as due");
            System.exit(1);
        }
    }
}
