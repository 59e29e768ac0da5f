/** Promises 6 to 8: the tape, towns read, faults. */
public final class TextsTest {
    public static void main(String[] args) {
        Due due = new Due("TextsTest");
        feeds(due);
        towns(due);
        faults(due);
        replaced(due);
        due.end();
    }

    private static void feeds(Due due) {
        EvePost x = new EvePost();
        due.is("feed(0, 0)", x.feed(0, 0), Due.BAD);
        due.is("feed(0, 9)", x.feed(0, 9), Due.BAD);
        due.is("feed(0, -1)", x.feed(0, -1), Due.BAD);
        due.is("feed(0, 1)", x.feed(0, 1), 1);
        due.is("count(5)", x.count(5), 1);
        for (int n = 9; n <= 297; n += 8) {
            due.is("feed(-1, 8)", x.feed(-1, 8), n);
        }
        due.is("297 and 4", x.feed(0, 4), Due.FULL);
        due.is("none came", x.count(5), 297);
        due.is("297 and 3", x.feed(0, 3), 300);
        due.is("300 and 1", x.feed(0, 1), Due.FULL);
        due.is("300 and 9", x.feed(0, 9), Due.BAD);
        due.is("town() of it", x.town(), -1000100);
        due.is("the tape is empty then", x.count(5), 0);
        long highBytesAside = 0x7FL << 56 | 'p' << 8 | 'e';
        due.is("the lowest bytes alone, the highest of them first", x.feed(highBytesAside, 2), 2);
        Due.feed(x, "rson true 0 0;");
        due.is("town()", x.town(), 1);
    }

    private static void towns(Due due) {
        due.is("a town of six", read("true 5 9, cross 4 8, crowd 3 7, moody 2 6, lot 1 5, true 0 4"), 6);
        EvePost x = new EvePost();
        due.is("blanks", Due.town(x, " \n person\ntrue \n 1  2 ; \n"), 1);
        due.is("whom", x.person(0, 0), 1);
        due.is("many", x.person(0, 1), 2);
        due.is("no blanks where a token ends anyway", Due.town(x, "person true0 0;person cross 1 2;"), 2);
        due.is("figures ahead of 5, of 9", Due.town(x, "person true 005 09;"), 1);
        due.is("whom 005", x.person(0, 0), 5);
        due.is("many 09", x.person(0, 1), 9);
        due.is("kinds", kinds(Due.with("true 0 0, cross 0 0, lot 0 0, crowd 0 0, moody 0 0")), "1 2 3 4 5");
        StringBuilder long300 = new StringBuilder(Due.text("true 0 0, true 0 0"));
        while (long300.length() < 300) {
            long300.append(long300.length() % 2 == 0 ? ' ' : '\n');
        }
        due.is("300 bytes", Due.town(x, long300.toString()), 2);
    }

    private static int read(String people) {
        return Due.town(new EvePost(), Due.text(people));
    }

    private static String kinds(EvePost x) {
        StringBuilder all = new StringBuilder();
        for (int i = 0; i < x.count(1); i++) {
            all.append(i == 0 ? "" : " ").append(x.kind(i));
        }
        return all.toString();
    }

    private static void fault(Due due, String text, int place, int number) {
        EvePost x = Due.with("cross 0 0");
        x.lots(0, 1);
        due.is("'" + text + "'", Due.town(x, text), -1000100 - place);
        due.is("fault() of '" + text + "'", x.fault(), number);
        due.is("all stays at '" + text + "'", Due.counts(x), "0 1 1 1 1 0");
        due.is("a sound text after '" + text + "'", Due.town(x, "person true 0 0;"), 1);
        due.is("fault() is still that of '" + text + "'", x.fault(), number);
    }

    private static void faults(Due due) {
        fault(due, "", 0, 1);
        fault(due, "  \n", 3, 1);
        fault(due, "people true 0 0;", 0, 1);
        fault(due, "persontrue 0 0;", 0, 1);
        fault(due, "Person true 0 0;", 0, 1);
        fault(due, "xerson true 0 0;", 0, 1);
        fault(due, "persona true 0 0;", 0, 1);
        fault(due, "personz true 0 0;", 0, 1);
        fault(due, "person` true 0 0;", 6, 1);
        fault(due, "person{ true 0 0;", 6, 1);
        fault(due, " ;", 1, 1);
        fault(due, "12", 0, 1);
        fault(due, "person ", 7, 1);
        fault(due, "person false 0 0;", 7, 1);
        fault(due, "person tru 0 0;", 7, 1);
        fault(due, "person truer 0 0;", 7, 1);
        fault(due, "person 0 0;", 7, 1);
        fault(due, "person true;", 11, 1);
        fault(due, "person true -1 0;", 12, 1);
        fault(due, "person true 6 0;", 12, 2);
        fault(due, "person true 999 x;", 12, 2);
        fault(due, "person true 1000 0;", 12, 1);
        fault(due, "person true 0000 0;", 12, 1);
        fault(due, "person true x 0;", 12, 1);
        fault(due, "person true 0 10;", 14, 2);
        fault(due, "person true 0 9/;", 15, 1);
        fault(due, "person true 0 9:;", 15, 1);
        fault(due, "person true 0 0001;", 14, 1);
        fault(due, "person true 0 ;", 14, 1);
        fault(due, "person true 0 0", 15, 1);
        fault(due, "person true 0 0 \n ", 18, 1);
        fault(due, "person true 0 0 0;", 16, 1);
        fault(due, "person true 0 0:", 15, 1);
        fault(due, "person\ttrue 0 0;", 6, 1);
        fault(due, "person true 0 0;;", 16, 1);
        fault(due, "person true 0 0; " + (char) 233, 17, 1);
        fault(due, "person true 0 0; true 0 0;", 17, 1);
        String six = Due.text("true 0 0, true 0 0, true 0 0, true 0 0, true 0 0, true 0 0");
        fault(due, six + " person", 97, 3);
        fault(due, six + "persons", 96, 1);
        fault(due, six + ";", 96, 1);
        fault(due, "person true 6 0;" + six, 12, 2);
    }

    private static void replaced(Due due) {
        EvePost x = Due.with("true 0 0, true 1 0");
        x.row(2, 0, 3);
        x.post(3);
        x.ask(0, 0);
        due.is("ahead", Due.counts(x), "1 2 1 3 1 0");
        due.is("another town", Due.town(x, Due.text("cross 0 1, cross 0 2, moody 0 3")), 3);
        due.is("day 0, nobody, no act, the row stays", Due.counts(x), "1 3 0 0 0 0");
        due.is("undo()", x.undo(), Due.STATE);
        due.is("person(2, 1)", x.person(2, 1), 3);
        due.is("the trace stays", Due.traceOf(x), "11 10 21 20");
        due.is("a town of fewer", Due.town(x, Due.text("true 0 0")), 1);
        due.is("person(1, 0)", x.person(1, 0), Due.BAD);
    }
}
