import java.util.ArrayList;
import java.util.HashMap;
import java.util.HashSet;
import java.util.List;
import java.util.Map;
import java.util.Set;
import java.util.regex.Matcher;
import java.util.regex.Pattern;

/** Finds a text's first FAULT by patterns of LINES, otherwise than the class does. */
final class FaultModel {
    private static final Map<String, String> LINES = new HashMap<>();

    static {
        LINES.put("beach", "limit 1-60 heat 0-9 slips 0-100");
        LINES.put("person", "+person KIND at 0-99 thought 0-99 by 0-100");
        LINES.put("post", "+post at 0-99 off 1-40");
        LINES.put("manned", "post");
        LINES.put("knows", "person person");
        LINES.put("waved", "person");
        LINES.put("still", "person");
    }

    private static final Set<String> KINDS = Set.of("reader", "talker", "sleeper", "child");

    private final List<String> tokens = new ArrayList<>();
    private final List<Integer> places = new ArrayList<>();
    private final Map<String, String> sorts = new HashMap<>();
    private final Set<String> once = new HashSet<>();
    private final Map<String, Integer> counts = new HashMap<>();
    private int at = 0;

    private FaultModel() {
    }

    /** The FAULT and its place, or 0 and -1. */
    static int[] of(String text) {
        return new FaultModel().find(text);
    }

    private int[] find(String text) {
        // What begins no TOKEN becomes one of its own that fits nowhere.
        Matcher matcher = Pattern.compile("[a-z]+|[0-9]+|;|[^ ]").matcher(text);
        while (matcher.find()) {
            String token = matcher.group();
            boolean good = token.matches("[a-z]{1,8}|[0-9]{1,3}|;");
            tokens.add(good ? token : "?");
            places.add(matcher.start());
        }
        tokens.add("END");
        places.add(text.length());
        while (true) {
            int fault = line();
            if (fault == 0 && !token().equals(";") && !token().equals("END")) {
                fault = 1;
            }
            if (fault == 0 && token().equals("END")) {
                if (sorts.containsValue("person")) {
                    return new int[] {0, -1};
                }
                fault = 6;
            }
            if (fault != 0) {
                return new int[] {fault, places.get(at)};
            }
            at++;
        }
    }

    private String token() {
        return tokens.get(at);
    }

    private int line() {
        String word = token();
        if (!LINES.containsKey(word)) {
            return 1;
        }
        int told = counts.merge(word, 1, Integer::sum);
        if (word.equals("beach") && told > 1) {
            return 3;
        }
        if (!counts.containsKey("beach")) {
            return 6;
        }
        if (word.equals("person") && told > 6 || word.equals("post") && told > 5 || word.equals("knows") && told > 9) {
            return 5;
        }
        at++;
        StringBuilder key = new StringBuilder(word.equals("still") ? "waved" : word);
        String firstName = "";
        for (String due : LINES.get(word).split(" ")) {
            int fault = fits(due, key, firstName);
            if (fault != 0) {
                return fault;
            }
            firstName = firstName.isEmpty() ? token() : firstName;
            at++;
        }
        return 0;
    }

    private int fits(String due, StringBuilder key, String firstName) {
        String token = token();
        if (due.equals("KIND")) {
            return KINDS.contains(token) ? 0 : 1;
        }
        if (due.contains("-")) {
            if (!token.matches("[0-9]+")) {
                return 1;
            }
            String[] bounds = due.split("-");
            int value = Integer.parseInt(token);
            return value < Integer.parseInt(bounds[0]) || value > Integer.parseInt(bounds[1]) ? 4 : 0;
        }
        boolean telling = due.startsWith("+");
        if (!telling && !due.equals("person") && !due.equals("post")) {
            return token.equals(due) ? 0 : 1;
        }
        if (!token.matches("[a-z]+") || LINES.containsKey(token)) {
            return 1;
        }
        if (telling) {
            return sorts.putIfAbsent(token, due.substring(1)) == null ? 0 : 3;
        }
        if (!due.equals(sorts.get(token))) {
            return 2;
        }
        if (token.equals(firstName)) {
            return 3;
        }
        key.append(' ').append(token);
        // Only with all its NAMES a LINE can have been told already.
        boolean whole = !key.toString().startsWith("knows") || !firstName.isEmpty();
        return !whole || once.add(key.toString()) ? 0 : 3;
    }
}
