import java.nio.charset.StandardCharsets;

/** What the tests have in common: they tell each answer that is not the one due, and count them. */
final class Due {
    static final int NONE = -1000000, BAD = -1000001, STATE = -1000002, FULL = -1000003;
    static final int NULL = -1000011, PLACE = -1000012, KIND = -1000013, SIZE = -1000014, STORE = -1000015;

    private final String name;
    private int asked = 0;
    private int wrong = 0;

    Due(String name) {
        this.name = name;
    }

    void is(String what, long got, long want) {
        asked++;
        if (got != want) {
            wrong++;
            System.out.println(name + ": " + what + " answered " + got + ", due is " + want);
        }
    }

    /** Several answers at once: their texts must be the same. */
    void is(String what, String got, String want) {
        asked++;
        if (!got.equals(want)) {
            wrong++;
            System.out.println(name + ": " + what + " answered " + got + ", due is " + want);
        }
    }

    void end() {
        System.out.println(name + ": " + asked + " answers, " + wrong + " wrong");
        if (wrong != 0) {
            System.exit(1);
        }
    }

    /** Brings a text to the tape, up to eight bytes a call. */
    static int feed(EvePost x, String text) {
        byte[] bytes = text.getBytes(StandardCharsets.ISO_8859_1);
        int answer = x.count(5);
        for (int at = 0; at < bytes.length; at += 8) {
            int n = Math.min(8, bytes.length - at);
            long w = 0;
            for (int k = 0; k < n; k++) {
                w = w << 8 | bytes[at + k] & 255;
            }
            answer = x.feed(w, n);
        }
        return answer;
    }

    static int town(EvePost x, String text) {
        feed(x, text);
        return x.town();
    }

    /** A new object with a town; people as 'true 1 0', one behind another with commas. */
    static EvePost with(String people) {
        EvePost x = new EvePost();
        town(x, text(people));
        return x;
    }

    static String text(String people) {
        StringBuilder all = new StringBuilder();
        for (String one : people.split(",")) {
            all.append("person ").append(one.trim()).append(';');
        }
        return all.toString();
    }

    static String traceOf(EvePost x) {
        StringBuilder all = new StringBuilder();
        for (int i = 0; i < 17; i++) {
            int number = x.trace(i);
            if (number != NONE) {
                all.append(all.length() == 0 ? "" : " ").append(number);
            }
        }
        return all.toString();
    }

    static String counts(EvePost x) {
        StringBuilder all = new StringBuilder();
        for (int what = 0; what < 6; what++) {
            all.append(what == 0 ? "" : " ").append(x.count(what));
        }
        return all.toString();
    }
}
