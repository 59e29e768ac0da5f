/** Texts and faults of part 1 of the terms, and promises 6 to 8, at their edges. */
public final class TextEdgesTest {
    private static final String ONE = "person true 0 0;";
    private static final String SIX = ONE.repeat(6);
    private static final Edges e = new Edges("TextEdgesTest");

    public static void main(String[] args) {
        feed();
        feedFull();
        tokens();
        numbers();
        grammar();
        people();
        faultsInOrder();
        ends();
        towns();
        townsRefused();
        faultNumbers();
        e.end();
    }

    /** Of a text on a new object: how many people, or 'the place of a fault: its number'. */
    private static String read(String text) {
        EvePost x = new EvePost();
        int answer = Due.town(x, text);
        return answer > 0 ? Integer.toString(answer) : -1000100 - answer + ": " + x.fault();
    }

    private static void feed() {
        e.sentence("6 feed: The lowest n bytes of w (1 to 8) come behind the tape: how many it has");
        EvePost x = new EvePost();
        int has = 0;
        for (int n = 1; n <= 8; n++) {
            has += n;
            e.is("feed(0, " + n + ")", x.feed(0, n), has);
            e.is("count(5)", x.count(5), has);
        }
        e.sentence("6 feed: the highest of them first");
        byte[] text = ONE.getBytes(java.nio.charset.StandardCharsets.ISO_8859_1);
        for (int n = 1; n <= 8; n++) {
            for (long rest : new long[] {0, -1, 0x5A5A5A5A5A5A5A5AL}) {
                EvePost y = new EvePost();
                for (int at = 0; at < text.length; at += n) {
                    long w = rest;
                    for (int k = at; k < at + n; k++) {
                        w = w << 8 | (k < text.length ? text[k] : ' ');
                    }
                    y.feed(w, n);
                }
                e.is("by " + n + " each, above them " + rest, y.town(), 1);
            }
        }
        e.sentence("6 feed: a byte above 127 is one byte, as any other");
        EvePost z = new EvePost();
        e.is("feed(-1, 8)", z.feed(-1, 8), 8);
        e.is("feed(MIN, 8)", z.feed(Long.MIN_VALUE, 8), 16);
        e.is("town()", z.town(), -1000100);
        e.sentence("6 feed: BAD: n");
        e.refusedOutside(Pasts::busy, 1, 8, "feed(0, n)", (y, n) -> y.feed(0, n), Due.BAD);
        e.refusedOutside(Pasts::noTown, 1, 8, "feed(-1, n)", (y, n) -> y.feed(-1, n), Due.BAD);
    }

    private static void feedFull() {
        e.sentence("6 feed: THE TAPE has at most 300 bytes");
        for (int n = 1; n <= 8; n++) {
            EvePost x = new EvePost();
            for (int k = 0; k < 36; k++) {
                x.feed(0, 8);
            }
            for (int left = 12; left > n; left--) {
                x.feed(0, 1);
            }
            e.is("the last " + n, x.feed(0, n), 300);
            e.is("count(5)", x.count(5), 300);
            e.is("one more", x.feed(0, 1), Due.FULL);
            e.is("count(5)", x.count(5), 300);
        }
        e.sentence("6 feed: FULL: none comes");
        for (int n = 1; n <= 8; n++) {
            int bytes = n;
            e.refused(Pasts::fullTape, "feed(x, " + n + ") of a full one", x -> x.feed(0x7878787878787878L, bytes), Due.FULL);
        }
        EvePost y = new EvePost();
        Due.feed(y, ONE + " ".repeat(280));
        for (int n = 5; n <= 8; n++) {
            e.is("296 and " + n, y.feed(0x7878787878787878L, n), Due.FULL);
        }
        e.is("count(5)", y.count(5), 296);
        e.is("but 4 come yet", y.feed(0x20202020, 4), 300);
        e.is("none of the others came", y.town(), 1);
        e.sentence("6 feed: BAD goes ahead of FULL");
        e.refusedOutside(Pasts::fullTape, 1, 8, "feed(0, n)", (x, n) -> x.feed(0, n), Due.BAD);
        e.sentence("6 feed: behind the tape: there is room again when it was read");
        EvePost z = new EvePost();
        Due.feed(z, "x".repeat(300));
        e.is("town()", z.town(), -1000100);
        Due.feed(z, ONE + " ".repeat(284));
        e.is("count(5)", z.count(5), 300);
        e.is("town()", z.town(), 1);
        e.is("feed", z.feed(0, 8), 8);
    }

    private static boolean isBlank(int b) {
        return b == 32 || b == 10;
    }

    private static boolean isFigure(int b) {
        return b >= '0' && b <= '9';
    }

    /** Every byte that there is, in each place of a person. */
    private static void tokens() {
        e.sentence("TOKENS: bytes 32 and 10 between");
        for (int b = 0; b < 256; b++) {
            String sign = String.valueOf((char) b);
            boolean letter = b >= 'a' && b <= 'z';
            e.is("byte " + b + " ahead", read(sign + ONE), isBlank(b) ? "1" : "0: 1");
            e.is("byte " + b + " behind", read(ONE + sign), isBlank(b) ? "1" : "16: 1");
            e.is("byte " + b + " behind the word", read("person" + sign + "true 0 0;"),
                isBlank(b) ? "1" : letter ? "0: 1" : "6: 1");
            e.is("byte " + b + " behind whom", read("person true 0" + sign + "0;"),
                isBlank(b) ? "1" : b == '0' ? "15: 1" : isFigure(b) ? "12: 2" : "13: 1");
        }
        e.sentence("TOKENS: NUMBERS (figures)");
        for (int b = 0; b < 256; b++) {
            String sign = String.valueOf((char) b);
            e.is("byte " + b + " as whom", read("person true " + sign + " 0;"),
                b >= '0' && b <= '5' ? "1" : isFigure(b) ? "12: 2" : isBlank(b) ? "15: 1" : "12: 1");
            e.is("byte " + b + " as many", read("person true 0 " + sign + ";"),
                isFigure(b) ? "1" : isBlank(b) ? "15: 1" : "14: 1");
        }
        e.sentence("TOKENS: SIGNS ;");
        for (int b = 0; b < 256; b++) {
            e.is("byte " + b + " as the sign", read("person true 0 0" + (char) b),
                b == ';' ? "1" : isBlank(b) || isFigure(b) ? "16: 1" : "15: 1");
        }
        e.sentence("TOKENS: NAMES (letters a to z)");
        for (int b = 0; b < 256; b++) {
            e.is("byte " + b + " in a word", read("pers" + (char) b + "n true 0 0;"), b == 'o' ? "1" : "0: 1");
            e.is("byte " + b + " behind a word", read("person lot" + (char) b + "0 0;"),
                isBlank(b) ? "1" : b >= 'a' && b <= 'z' ? "7: 1" : isFigure(b) ? lotFollowedBy(b) : "10: 1");
        }
    }

    /** 'lot' and a figure ahead of '0 0;': a number of two figures, which is 0 or more than there may be. */
    private static String lotFollowedBy(int figure) {
        return figure == '0' ? "1" : "10: 2";
    }

    private static void numbers() {
        e.sentence("NUMBERS (figures, 3 at most); WHOM 0 to 5, MANY 0 to 9; FAULT 2: a NUMBER that is not as told");
        for (int v = 0; v < 1000; v++) {
            for (String figures : new String[] {"" + v, String.format("%02d", v), String.format("%03d", v)}) {
                e.is("whom " + figures, read("person true " + figures + " 0;"), v <= 5 ? "1" : "12: 2");
                e.is("many " + figures, read("person lot 0 " + figures + ";"), v <= 9 ? "1" : "13: 2");
            }
        }
        e.sentence("NUMBERS (figures, 3 at most): of more it is no TOKEN");
        for (String figures : new String[] {"0000", "0001", "0005", "0006", "1000", "9999", "00000", "0".repeat(99), "9".repeat(99)}) {
            e.is("whom " + figures, read("person true " + figures + " 0;"), "12: 1");
            e.is("many " + figures, read("person true 0 " + figures + ";"), "14: 1");
        }
        e.sentence("NUMBERS: what was told is kept");
        for (int whom = 0; whom <= 5; whom++) {
            for (int many = 0; many <= 9; many++) {
                EvePost x = new EvePost();
                Due.town(x, "person moody " + whom + " 00" + many + ";");
                e.is("person(0, 0)", x.person(0, 0), whom);
                e.is("person(0, 1)", x.person(0, 1), many);
            }
        }
    }

    private static void grammar() {
        e.sentence("person: 'person' SORT WHOM MANY ';' (SORT: 'true' | 'cross' | 'crowd' | 'moody' | 'lot')");
        String[] sorts = {"true", "cross", "lot", "crowd", "moody"};
        for (int k = 0; k < sorts.length; k++) {
            EvePost x = new EvePost();
            e.is(sorts[k], Due.town(x, "person " + sorts[k] + " 5 9;"), 1);
            e.is("kind(0)", x.kind(0), k + 1);
        }
        String[] none = {"person", "tru", "truey", "rue", "cros", "crosss", "cro", "crow", "crowds", "mood", "moodyy", "moodx",
            "lo", "lots", "l", "false", "TRUE", "True", "nobody", "0", ";", "a", "z"};
        for (String sort : none) {
            e.is("no sort: " + sort, read("person " + sort + " 0 0;"), "7: 1");
        }
        e.sentence("NAMES: a word with another letter in any of its places is none of those");
        for (String sort : sorts) {
            for (int at = 0; at < sort.length(); at++) {
                String other = sort.substring(0, at) + "x" + sort.substring(at + 1);
                e.is(other, read("person " + other + " 0 0;"), "7: 1");
            }
        }
        for (int at = 0; at < 6; at++) {
            String other = "person".substring(0, at) + "x" + "person".substring(at + 1);
            e.is(other, read(other + " true 0 0;"), "0: 1");
        }
        e.sentence("FAULT 1: it cannot stand there");
        String[] tokens = {"person", "true", "0", ";"};
        String[] told = {"person", "true", "0", "0", ";"};
        int[] places = {0, 7, 12, 14, 16};
        for (int part = 0; part < told.length; part++) {
            for (String token : tokens) {
                if (!token.equals(told[part])) {
                    StringBuilder text = new StringBuilder();
                    for (int k = 0; k < told.length; k++) {
                        text.append(k == part ? token : told[k]).append(' ');
                    }
                    e.is("'" + text + "'", read(text.toString()), places[part] + ": 1");
                }
            }
        }
        e.sentence("town: person { person }: nothing else behind a person");
        e.is("a sign more", read(ONE + ";"), "16: 1");
        e.is("a sort", read(ONE + " true 0 0;"), "17: 1");
        e.is("a number", read(ONE + "\n\n0"), "18: 1");
        e.sentence("bytes 32 and 10 between: any number of them, none where a TOKEN ends anyway");
        e.is("many", read("\n\n  person \n true\n0 \n0 ;\n \n"), "1");
        e.is("none", read("person true0 0;person cross1\n2;"), "2");
        e.is("two names need one", read("persontrue 0 0;"), "0: 1");
        e.is("two numbers need one", read("person true 00;"), "14: 1");
    }

    private static void people() {
        e.sentence("PEOPLE 0 .. 5, 6 at most; FAULT 3: a person more than there is room for (its word)");
        for (int n = 1; n <= 6; n++) {
            e.is("a town of " + n, read(ONE.repeat(n)), Integer.toString(n));
        }
        e.is("a seventh", read(SIX + ONE), "96: 3");
        e.is("a seventh, behind blanks", read(SIX + " \n " + ONE), "99: 3");
        e.is("a seventh that has a fault of his own", read(SIX + "person x"), "96: 3");
        e.is("a seventh whose word is all there is", read(SIX + "person"), "96: 3");
        e.is("an eighth", read(SIX + ONE + ONE), "96: 3");
        e.sentence("of one TOKEN the least: what is no person's word is FAULT 1 there, too");
        e.is("persons", read(SIX + "persons true 0 0;"), "96: 1");
        e.is("true", read(SIX + "true"), "96: 1");
        e.is(";", read(SIX + ";"), "96: 1");
        e.is("0", read(SIX + "0"), "96: 1");
        e.is("no token", read(SIX + "?"), "96: 1");
        e.sentence("WHOM may be nobody");
        for (int n = 1; n <= 5; n++) {
            EvePost x = new EvePost();
            e.is("whom " + n + " of " + n, Due.town(x, ONE.repeat(n - 1) + "person true " + n + " 0;"), n);
            e.is("he never does it", x.done((1 << n) - 1) >> n - 1, 0);
        }
    }

    private static void faultsInOrder() {
        e.sentence("FAULTS, the first TOKEN that has one");
        e.is("2 ahead of 1", read("person true 6 x;"), "12: 2");
        e.is("1 ahead of 2", read("person x 6 10;"), "7: 1");
        e.is("2 ahead of 2", read("person true 9 99;"), "12: 2");
        e.is("2 ahead of 3", read(ONE.repeat(5) + "person true 0 10;" + ONE), "94: 2");
        e.is("1 ahead of 3", read(ONE.repeat(5) + "person true 0 0" + ONE), "95: 1");
        e.is("3 ahead of 1", read(SIX + "person ?"), "96: 3");
        e.is("3 ahead of 2", read(SIX + "person true 6 0;"), "96: 3");
        e.is("a fault ahead of what is no token", read("person true 6 0; ?"), "12: 2");
        e.is("what is no token ahead of a fault", read("person true ? 10;"), "12: 1");
        e.sentence("of one TOKEN the least");
        e.is("a number that cannot stand there and is too large", read("999"), "0: 1");
        e.is("a number that cannot stand there and is too large", read("person 999"), "7: 1");
        e.is("too many figures, and too large", read("person true 1000 0;"), "12: 1");
    }

    private static void ends() {
        e.sentence("FAULT 1: .. or is none (the end: how many bytes there are)");
        int[] places = {0, 0, 0, 0, 0, 0, 6, 7, 7, 7, 7, 11, 12, 13, 14, 15};
        for (int n = 0; n < 16; n++) {
            String part = ONE.substring(0, n);
            e.is("'" + part + "'", read(part), places[n] + ": 1");
            e.is("'" + ONE + part + "'", read(ONE + part), n == 0 ? "1" : 16 + places[n] + ": 1");
        }
        e.is("nothing", new EvePost().town(), -1000100);
        e.is("blanks alone", read(" "), "1: 1");
        e.is("blanks alone, as many as there may be", read(" \n".repeat(150)), "300: 1");
        e.is("blanks at the end count", read("person true 0 0" + "\n".repeat(285)), "300: 1");
        e.is("a fault at the last byte", read(ONE + " ".repeat(283) + ";"), "299: 1");
        e.is("a token that ends with the tape", read(ONE + " ".repeat(278) + "person"), "300: 1");
        e.is("a whole text that ends with the tape", read(ONE + " ".repeat(268) + ONE), "2");
    }

    private static void towns() {
        e.sentence("7 town: The tape, empty then, is read: how many PEOPLE there are");
        EvePost x = Pasts.busy();
        e.is("feed", Due.feed(x, ";" + ONE), 33);
        e.is("town()", x.town(), 2);
        e.is("count(5)", x.count(5), 0);
        e.is("fault() is still the latest", x.fault(), 2);
        e.sentence("A TOWN that is read stands in place of the one before: DAY 0, nobody did anything the day before; no ACT can be undone");
        e.is("counts", Due.counts(x), "4 2 0 0 0 0");
        e.is("undo()", x.undo(), Due.STATE);
        e.is("the first", x.kind(0) + " " + x.person(0, 0) + " " + x.person(0, 1) + " " + x.person(0, 2), "2 1 2 0");
        e.is("the second", x.kind(1) + " " + x.person(1, 0) + " " + x.person(1, 1) + " " + x.person(1, 2), "1 0 0 0");
        e.is("there is no third", x.kind(2), Due.BAD);
        e.is("there are four letters", x.done(3) + " " + x.done(4), "2 " + Due.BAD);
        e.is("the trace stays", Due.traceOf(x), "14 13 10");
        e.is("status() stays", x.status(), 3);
        e.is("the image stays", x.restore(0) + " " + x.count(1) + " " + x.count(2), "1 2 1");
        e.sentence("7 town: one of more people in place of one of fewer, and the other way");
        EvePost y = new EvePost();
        for (int n : new int[] {1, 6, 2, 5, 1}) {
            e.is("town of " + n, Due.town(y, ONE.repeat(n)), n);
            e.is("count(1)", y.count(1), n);
            e.is("the last letter", y.done((1 << n) - 1), (1 << n) - 1);
            e.is("the next", y.done(1 << n), Due.BAD);
        }
    }

    private static EvePost filled(String text) {
        EvePost x = Pasts.busy();
        Due.feed(x, text);
        return x;
    }

    /** The tape is empty then, and fault() is another; so the twin is one that never had that text. */
    private static void townsRefused() {
        e.sentence("7 town: -1000100 less the place of a FAULT: all stays");
        String[] texts = {"", " 0;", ";" + ONE + "x", ";" + ONE.repeat(5) + " " + ONE, "; person true 6 0;", ";?"};
        int[] places = {16, 17, 33, 98, 30, 17};
        int[] faults = {1, 1, 1, 3, 2, 1};
        for (int k = 0; k < texts.length; k++) {
            EvePost x = filled(texts[k]);
            EvePost twin = filled("");
            e.is("town()", x.town(), -1000100 - places[k]);
            e.is("fault()", x.fault(), faults[k]);
            e.is("status()", x.status(), 3);
            e.is("the tape is empty", x.count(5), 0);
            Due.feed(x, "person cross 1 2");
            // The twin's latest fault is brought to the same number by a text that is no town either.
            String same = faults[k] == 1 ? "x" : faults[k] == 2 ? "; person true 6 0;" : ";" + ONE.repeat(5) + " " + ONE;
            Due.town(twin, same);
            Due.feed(twin, "person cross 1 2");
            e.is("all stays", String.join("\n", Seen.allOf(x)), String.join("\n", Seen.allOf(twin)));
            e.is("among it the town", Seen.allOf(filled("")).get(1), "count(1) is 3");
        }
        e.sentence("7 town: a FAULT ahead of any TOWN: there is none");
        EvePost z = new EvePost();
        e.is("town()", Due.town(z, ONE + "x"), -1000116);
        e.is("count(1)", z.count(1), 0);
        e.is("done(0)", z.done(0), Due.STATE);
        e.is("kind(0)", z.kind(0), Due.BAD);
        e.is("image(0)", z.image(0), Due.STATE);
        e.is("a text after it", Due.town(z, ONE), 1);
    }

    private static void faultNumbers() {
        e.sentence("8 fault: 0 before one");
        EvePost x = new EvePost();
        e.is("fault()", x.fault(), 0);
        Due.town(x, ONE);
        e.is("fault() after a sound one", x.fault(), 0);
        e.sentence("8 fault: The number of the latest FAULT");
        Due.town(x, SIX + ONE);
        e.is("3", x.fault(), 3);
        Due.town(x, ONE);
        e.is("a sound text is none", x.fault(), 3);
        Due.town(x, "person true 6 0;");
        e.is("2", x.fault(), 2);
        x.town();
        e.is("1, of an empty tape", x.fault(), 1);
        x.feed(0, 9);
        x.post(-1);
        x.set(0, 0, 0);
        x.restore(0);
        e.is("what else is refused is none", x.fault(), 1);
        Due.town(x, SIX + ONE);
        e.is("3 again", x.fault(), 3);
    }
}
