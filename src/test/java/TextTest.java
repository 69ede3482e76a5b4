/** Promises 1 to 5: a new object, feed, beach, fault, where. */
public final class TextTest {
    private static final String HEAD = "beach limit 5 heat 2 slips 5";
    private static final String ONE = HEAD + ";person a reader at 5 thought 5 by 5";
    private static final String TWO = ONE + ";person b child at 6 thought 5 by 5";
    private static final String BOTH = TWO + ";post q at 5 off 5";

    private TextTest() {
    }

    public static void main(String[] args) {
        newObject();
        feeding();
        taking();
        form();
        names();
        bounds();
        many();
        lacks();
        firstFromTheLeft();
        tokens();
        words();
        staying();
        reporting();
        Check.finish();
    }

    private static void newObject() {
        ShoreGuards x = new ShoreGuards();
        for (int what = 0; what <= 11; what++) {
            Check.due("new size(" + what + ")", x.size(what), 0);
        }
        Check.due("new trouble()", x.trouble(), 0);
        Check.due("new fault()", x.fault(), 0);
        Check.due("new where()", x.where(), -1);
        Check.refused(x, "new sinkers()", x.sinkers(), -1, 1);
        Check.refused(x, "new person(0, 0)", x.person(0, 0), -1, 1);
        Check.refused(x, "new image()", x.image(), -1, 1);
        Check.due("NONE", ShoreGuards.NONE, -1);
    }

    private static void feeding() {
        ShoreGuards x = new ShoreGuards();
        for (int i = 1; i <= 45; i++) {
            Check.due("feed " + i, x.feed(0, 0, 0, 0, 0), 20 * i);
        }
        Check.due("feed 46", x.feed(0, 0, 0, 0, 0), -1);
        Check.due("size(11) of a full tape", x.size(11), 900);
        // The highest byte comes first: 'b' 'e' 'a' 'c' and a sign above 127 that begins no TOKEN.
        ShoreGuards y = new ShoreGuards();
        y.feed(0x62656163, 0x68ff2020, 0, 0, 0);
        Check.refused(y, "beach(20)", y.beach(20), -1, 4);
        Check.due("fault()", y.fault(), 1);
        Check.due("where()", y.where(), 5);
        // feed tells no number, so it changes no TROUBLE.
        y.feed(0, 0, 0, 0, 0);
        Check.due("trouble() after feed", y.trouble(), 4);
        Check.due("where() after feed", y.where(), 5);
    }

    private static void taking() {
        ShoreGuards x = new ShoreGuards();
        Check.feedText(x, ONE);
        int length = x.size(11);
        Check.refused(x, "beach(-1)", x.beach(-1), -1, 2);
        Check.refused(x, "beach(above)", x.beach(length + 1), -1, 2);
        Check.due("size(11) after a refused number", x.size(11), length);
        Check.granted(x, "beach(all)", x.beach(length), 1);
        Check.due("size(11) behind beach()", x.size(11), 0);
        Check.granted(x, "the usual beach", Check.tell(x, Check.USUAL), 4);
        // Only the first bytes count, and the rest is gone too.
        Check.feedText(x, ONE + ";;;");
        Check.granted(x, "beach(first bytes)", x.beach(ONE.length()), 1);
        Check.due("size(11)", x.size(11), 0);
        // Blanks part TOKENS and mean nothing else.
        Check.granted(x, "blanks", Check.tell(x, "  beach   limit 5heat 2 slips5 ; person a reader at5thought 5by 5  "), 1);
        Check.granted(x, "three digits", Check.tell(x, "beach limit 005 heat 002 slips 100;person a reader at 099 thought 099 by 100"), 1);
        Check.due("size(2)", x.size(2), 100);
        Check.granted(x, "names like labels", Check.tell(x, HEAD + ";person reader reader at 5 thought 5 by 5;person at child at 1 thought 1 by 1;knows at reader"), 2);
        Check.due("person(1, 8)", x.person(1, 8), 1);
        Check.granted(x, "longest name", Check.tell(x, HEAD + ";person abcdefgh reader at 5 thought 5 by 5;waved abcdefgh"), 1);
        Check.granted(x, "names alike at first", Check.tell(x, HEAD + ";person a reader at 5 thought 5 by 5;person ab reader at 7 thought 5 by 5;knows ab a"), 2);
        Check.due("person(1, 8)", x.person(1, 8), 1);
        // What stands behind the n bytes is cut off amid digits and letters too.
        Check.feedText(x, ONE + "0");
        Check.granted(x, "cut amid digits", x.beach(ONE.length()), 1);
        Check.due("person(0, 3)", x.person(0, 3), 5);
        Check.feedText(x, TWO + ";waved ab");
        Check.granted(x, "cut amid letters", x.beach(TWO.length() + 8), 2);
        Check.granted(x, "manned ahead of a person", Check.tell(x, HEAD + ";post q at 5 off 5;manned q;person a reader at 5 thought 5 by 5"), 1);
    }

    private static void fault(String text, int fault, int where) {
        ShoreGuards x = new ShoreGuards();
        Check.refused(x, "beach of " + text, Check.tell(x, text), -1, 4);
        Check.due("fault of " + text, x.fault(), fault);
        Check.due("where of " + text, x.where(), where);
        Check.due("size(11) behind " + text, x.size(11), 0);
        Check.due("size(3) behind " + text, x.size(3), 0);
    }

    private static void form() {
        fault("", 1, 0);
        fault("   ", 1, 3);
        fault("5", 1, 0);
        fault(";", 1, 0);
        fault("foo", 1, 0);
        fault(" beaches limit", 1, 1);
        fault("Beach limit", 1, 0);
        fault("beach", 1, 5);
        fault("beach  ", 1, 7);
        fault("beach heat 5", 1, 6);
        fault("beach limit heat", 1, 12);
        fault("beach limit 5 5", 1, 14);
        fault("beach limit 5 heat 2 slips", 1, 26);
        fault(HEAD + " ;", 1, 30);
        fault(HEAD + " x", 1, 29);
        fault(HEAD + " person", 1, 29);
        fault(HEAD + ";;", 1, 29);
        fault(HEAD + ";person", 1, 35);
        fault(HEAD + ";person 5", 1, 36);
        fault(HEAD + ";person ;", 1, 36);
        fault(HEAD + ";person person", 1, 36);
        fault(HEAD + ";person a swimmer", 1, 38);
        fault(HEAD + ";person a 5", 1, 38);
        fault(HEAD + ";person a reader 5", 1, 45);
        fault(HEAD + ";person a reader at x", 1, 48);
        fault(HEAD + ";person a reader at 5 by 5", 1, 50);
        fault(ONE + ",", 1, ONE.length());
        fault(ONE + (char) 200, 1, ONE.length());
        fault(ONE + (char) 9, 1, ONE.length());
        // No WORD has nine letters and no WHOLE four digits.
        fault(HEAD + ";person abcdefghi reader at 5", 1, 36);
        fault("beach limit 0005", 1, 12);
        fault("beach limit @", 1, 12);
        fault("beach limit 5 heat =2", 1, 19);
        fault(HEAD + ";post q off", 1, 36);
        fault(HEAD + ";post q at 5 at 5", 1, 41);
        for (String word : new String[] {"beach", "person", "post", "manned", "knows", "waved", "still"}) {
            fault(HEAD + ";person " + word, 1, 36);
            fault(HEAD + ";post " + word, 1, 34);
            fault(BOTH + ";manned " + word, 1, BOTH.length() + 8);
            fault(BOTH + ";knows " + word, 1, BOTH.length() + 7);
            fault(BOTH + ";knows a " + word, 1, BOTH.length() + 9);
            fault(BOTH + ";still " + word, 1, BOTH.length() + 7);
        }
        fault(BOTH + ";manned", 1, BOTH.length() + 7);
        fault(BOTH + ";knows a", 1, BOTH.length() + 8);
        fault(BOTH + ";knows a ;", 1, BOTH.length() + 9);
        fault(BOTH + ";waved a b", 1, BOTH.length() + 9);
    }

    private static void names() {
        fault(BOTH + ";manned z", 2, BOTH.length() + 8);
        fault(BOTH + ";manned a", 2, BOTH.length() + 8);
        fault(BOTH + ";knows z a", 2, BOTH.length() + 7);
        fault(BOTH + ";knows q a", 2, BOTH.length() + 7);
        fault(BOTH + ";knows a z", 2, BOTH.length() + 9);
        fault(BOTH + ";knows a q", 2, BOTH.length() + 9);
        fault(BOTH + ";waved z", 2, BOTH.length() + 7);
        fault(BOTH + ";waved q", 2, BOTH.length() + 7);
        fault(BOTH + ";still q", 2, BOTH.length() + 7);
        fault(BOTH + ";still reader", 2, BOTH.length() + 7);
        fault(ONE + ";waved b;person b child at 6 thought 5 by 5", 2, ONE.length() + 7);
        fault(BOTH + ";person a", 3, BOTH.length() + 8);
        fault(BOTH + ";person q", 3, BOTH.length() + 8);
        fault(BOTH + ";post q", 3, BOTH.length() + 6);
        fault(BOTH + ";post b", 3, BOTH.length() + 6);
        fault(BOTH + ";manned q;manned q", 3, BOTH.length() + 17);
        fault(BOTH + ";knows b b", 3, BOTH.length() + 9);
        fault(BOTH + ";knows a b;knows b a;knows a b", 3, BOTH.length() + 29);
        fault(BOTH + ";waved a;waved a", 3, BOTH.length() + 15);
        fault(BOTH + ";waved a;still a", 3, BOTH.length() + 15);
        fault(BOTH + ";still a;waved a", 3, BOTH.length() + 15);
        fault(HEAD + ";beach", 3, 29);
        fault(BOTH + "; beach limit 5", 3, BOTH.length() + 2);
    }

    private static void bounds() {
        fault("beach limit 0", 4, 12);
        fault("beach limit 61", 4, 12);
        fault("beach limit 60 heat 10", 4, 20);
        fault("beach limit 60 heat 9 slips 101", 4, 28);
        fault(HEAD + ";person a reader at 100", 4, 48);
        fault(HEAD + ";person a reader at 99 thought 100", 4, 59);
        fault(HEAD + ";person a reader at 99 thought 99 by 101", 4, 65);
        fault(HEAD + ";post q at 100", 4, 39);
        fault(HEAD + ";post q at 99 off 0", 4, 46);
        fault(HEAD + ";post q at 99 off 41", 4, 46);
        // The first from the left, though more follow.
        fault("beach limit 0 heat 99 foo", 4, 12);
        Check.beachOf("beach limit 1 heat 0 slips 0;person a talker at 0 thought 0 by 0;post q at 0 off 1");
        Check.beachOf("beach limit 60 heat 9 slips 100;person a sleeper at 99 thought 99 by 100;post q at 99 off 40");
    }

    private static void many() {
        StringBuilder people = new StringBuilder(HEAD);
        for (char name = 'a'; name <= 'f'; name++) {
            people.append(";person ").append(name).append(" reader at 5 thought 5 by 5");
        }
        ShoreGuards x = new ShoreGuards();
        Check.granted(x, "six people", Check.tell(x, people.toString()), 6);
        fault(people + ";person", 5, people.length() + 1);
        fault(people + ";person g reader at 5 thought 5 by 5", 5, people.length() + 1);
        StringBuilder posts = new StringBuilder(ONE);
        for (char name = 'p'; name <= 't'; name++) {
            posts.append(";post ").append(name).append(" at 5 off 5");
        }
        for (char name = 'p'; name <= 't'; name++) {
            posts.append(";manned ").append(name);
        }
        Check.granted(x, "five posts", Check.tell(x, posts.toString()), 1);
        Check.due("size(4)", x.size(4), 5);
        Check.due("size(5)", x.size(5), 5);
        fault(posts + ";post u at 5 off 5", 5, posts.length() + 1);
        fault(posts + ";manned p", 3, posts.length() + 8);
        StringBuilder knows = new StringBuilder(people);
        for (char first = 'a'; first <= 'c'; first++) {
            for (char second = 'd'; second <= 'f'; second++) {
                knows.append(";knows ").append(first).append(' ').append(second);
            }
        }
        Check.granted(x, "nine knowings", Check.tell(x, knows.toString()), 6);
        Check.due("size(6)", x.size(6), 9);
        fault(knows + ";knows a a", 5, knows.length() + 1);
    }

    private static void lacks() {
        fault("person a reader at 5 thought 5 by 5;" + HEAD, 6, 0);
        fault(" post q at 5 off 5", 6, 1);
        fault("manned q", 6, 0);
        fault("knows a b", 6, 0);
        fault("waved a", 6, 0);
        fault("still", 6, 0);
        fault(HEAD, 6, HEAD.length());
        fault(HEAD + " ", 6, HEAD.length() + 1);
        fault(HEAD + ";post q at 5 off 5", 6, HEAD.length() + 18);
        // At the end what goes on no further is the lesser number.
        fault(HEAD + ";", 1, HEAD.length() + 1);
    }

    /** The first FAULT counts, whatever stands behind it; of one place the least number. */
    private static void firstFromTheLeft() {
        for (String rest : new String[] {"", " @", " ;", ";foo", " 1000", ";beach", ";person a", ";waved z", " abcdefghi"}) {
            fault("foo" + rest, 1, 0);
            fault("beach limit 61" + rest, 4, 12);
            fault("person" + rest, 6, 0);
            fault(HEAD + ";beach" + rest, 3, HEAD.length() + 1);
            fault(BOTH + ";manned z" + rest, 2, BOTH.length() + 8);
            fault(BOTH + ";manned q;manned q" + rest, 3, BOTH.length() + 17);
            fault(BOTH + ";knows a a" + rest, 3, BOTH.length() + 9);
            fault(BOTH + ";knows z a" + rest, 2, BOTH.length() + 7);
            fault(BOTH + ";post r at 100" + rest, 4, BOTH.length() + 11);
        }
        // A NAME that is both untold and the first one again is untold where it stands first.
        fault(BOTH + ";knows z z", 2, BOTH.length() + 7);
        fault(BOTH + ";knows q q", 2, BOTH.length() + 7);
        // At the end: no TOKEN goes on, ahead of nobody being told.
        fault(HEAD + ";post", 1, HEAD.length() + 5);
        fault(HEAD + ";", 1, HEAD.length() + 1);
        fault(HEAD + ";  ", 1, HEAD.length() + 3);
        fault("beach limit 5 heat 2 slips", 1, 26);
        // A LINE of another sort ahead of the beach, though none behind it would be told.
        for (String word : new String[] {"person", "post", "manned", "knows", "waved", "still"}) {
            fault(word, 6, 0);
            fault("  " + word + " zz", 6, 2);
        }
        // At a WORD that may be a NAME, but no LINE's.
        fault("reader", 1, 0);
        fault(HEAD + ";limit", 1, HEAD.length() + 1);
    }

    /** What begins a TOKEN and what doesn't, byte by byte. */
    private static void tokens() {
        for (int sign = 0; sign <= 255; sign++) {
            char c = (char) sign;
            String text = ONE + c;
            if (c == ' ') {
                ShoreGuards x = new ShoreGuards();
                Check.granted(x, "a blank at the end", Check.tell(x, text), 1);
            } else if (c == ';') {
                fault(text, 1, ONE.length() + 1);
            } else if (c >= '0' && c <= '9') {
                // The last WHOLE is longer by it.
                ShoreGuards x = new ShoreGuards();
                Check.granted(x, "a digit at the end", Check.tell(x, text), 1);
                Check.due("person(0, 3)", x.person(0, 3), 50 + c - '0');
            } else {
                fault(text, 1, ONE.length());
            }
            // Amid blanks all but a blank is no more of a LINE.
            if (c != ' ' && c != ';') {
                fault(ONE + " " + c + " ", 1, ONE.length() + 1);
            }
            // In a NAME a letter alone goes on with it.
            String named = HEAD + ";person b" + c + " reader at 5 thought 5 by 5;waved b" + c;
            if (c >= 'a' && c <= 'z' || c == ' ') {
                ShoreGuards x = new ShoreGuards();
                Check.granted(x, named, Check.tell(x, named), 1);
            } else {
                fault(named, 1, HEAD.length() + 9);
            }
        }
        String name = "abcdefgh";
        for (int length = 1; length <= 8; length++) {
            String text = HEAD + ";person " + name.substring(0, length) + " reader at 5 thought 5 by 5";
            ShoreGuards x = new ShoreGuards();
            Check.granted(x, text, Check.tell(x, text), 1);
        }
        fault(HEAD + ";person abcdefghi reader at 5 thought 5 by 5", 1, HEAD.length() + 8);
        fault(HEAD + ";person abcdefghabcdefgh reader at 5 thought 5 by 5", 1, HEAD.length() + 8);
        fault(ONE + ";waved abcdefghi", 1, ONE.length() + 7);
        // Where a ; must stand nothing else parts LINES.
        for (String part : new String[] {"abcdefghi", "1000", ",", "5", "x"}) {
            fault(ONE + " " + part, 1, ONE.length() + 1);
            fault(ONE + " " + part + " person b child at 6 thought 5 by 5", 1, ONE.length() + 1);
        }
        fault("beachbeach limit 5", 1, 0);
        // Two NAMES alike in eight letters but one are two.
        ShoreGuards x = new ShoreGuards();
        Check.granted(x, "names unlike at the end", Check.tell(x, HEAD + ";person abcdefgh reader at 5 thought 5 by 5;"
            + "person abcdefgi reader at 9 thought 5 by 5;person bbcdefgh reader at 5 thought 5 by 5;waved abcdefgi;knows bbcdefgh abcdefgi"), 3);
        Check.due("person(2, 8)", x.person(2, 8), 2);
    }

    /** Each WORD that is no NAME, with any one letter another, a letter less, a letter more. */
    private static void words() {
        String[] texts = {BOTH + ";manned q", BOTH + ";knows a b", BOTH + ";waved a", BOTH + ";still a",
            HEAD + ";person a reader at 5 thought 5 by 5", HEAD + ";person a talker at 5 thought 5 by 5",
            HEAD + ";person a sleeper at 5 thought 5 by 5", HEAD + ";person a child at 5 thought 5 by 5"};
        for (String text : texts) {
            Check.beachOf(text);
            int from = 0;
            while (from < text.length()) {
                int to = from;
                while (to < text.length() && text.charAt(to) >= 'a' && text.charAt(to) <= 'z') {
                    to++;
                }
                if (to - from > 1) {
                    String head = text.substring(0, from);
                    String word = text.substring(from, to);
                    String tail = text.substring(to);
                    fault(head + word.substring(1) + tail, 1, from);
                    fault(head + word.substring(0, word.length() - 1) + tail, 1, from);
                    fault(head + word + "s" + tail, 1, from);
                    for (int i = 0; i < word.length(); i++) {
                        fault(head + word.substring(0, i) + "z" + word.substring(i + 1) + tail, 1, from);
                    }
                }
                from = to + 1;
            }
        }
    }

    private static void staying() {
        ShoreGuards x = Check.beachOf(Check.USUAL);
        x.man(1);
        x.image();
        x.minute(3);
        Check.refused(x, "a text with a FAULT", Check.tell(x, BOTH + ";knows a"), -1, 4);
        Check.due("size(3)", x.size(3), 4);
        Check.due("size(0)", x.size(0), 12);
        Check.due("size(8)", x.size(8), 3);
        Check.due("size(9)", x.size(9), 2);
        Check.due("size(10)", x.size(10), 1);
        Check.due("person(0, 8)", x.person(0, 8), 2);
        Check.due("odds(1, true)", x.odds(1, true), 11);
        Check.due("undo()", x.undo(), true);
        Check.due("size(8)", x.size(8), 0);
        Check.granted(x, "the next BEACH", Check.tell(x, BOTH), 2);
        Check.due("size(8)", x.size(8), 0);
        Check.due("size(9)", x.size(9), 0);
        Check.due("size(10)", x.size(10), 0);
        Check.refused(x, "back(0)", x.back(0), 1);
        Check.refused(x, "undo()", x.undo(), 6);
        for (int p = 0; p < 2; p++) {
            Check.due("person(p, 6)", x.person(p, 6), 0);
            Check.due("person(p, 8)", x.person(p, 8), 0);
        }
        Check.due("post(0, 2)", x.post(0, 2), 0);
        Check.due("size(7)", x.size(7), 0);
        Check.due("odds(1, true)", x.odds(1, true), 2);
        Check.refused(x, "person(2, 0)", x.person(2, 0), -1, 1);
        Check.refused(x, "post(1, 0)", x.post(1, 0), -1, 1);
        // Of the BEACH before that one nothing is left either.
        Check.granted(x, "the BEACH behind it", Check.tell(x, TWO + ";post q at 5 off 5;post r at 6 off 6;waved a"), 2);
        int[] sizes = {5, 2, 5, 2, 2, 0, 0, 1, 0, 0, 0, 0};
        for (int what = 0; what <= 11; what++) {
            Check.due("size(" + what + ") of the third BEACH", x.size(what), sizes[what]);
        }
        Check.due("person(0, 8) of the third BEACH", x.person(0, 8), 0);
        Check.due("person(1, 8) of the third BEACH", x.person(1, 8), 0);
        Check.due("post(0, 2) of the third BEACH", x.post(0, 2), 0);
    }

    private static void reporting() {
        ShoreGuards x = new ShoreGuards();
        Check.tell(x, HEAD);
        Check.due("fault()", x.fault(), 6);
        Check.due("where()", x.where(), HEAD.length());
        x.fault();
        x.size(99);
        Check.led(x, 0);
        Check.due("where() behind calls that tell no number", x.where(), HEAD.length());
        x.sinkers();
        Check.due("where() behind another call", x.where(), -1);
        Check.due("fault() behind another call", x.fault(), 6);
        x.beach(1);
        Check.due("where() behind a refused number", x.where(), -1);
        Check.due("fault() behind a refused number", x.fault(), 6);
        Check.tell(x, ONE);
        Check.due("fault() of a BEACH", x.fault(), 0);
        Check.due("where() of a BEACH", x.where(), -1);
    }
}
