/** Promises 26 to 29, and 31 as far as as() goes. */
public final class AskedTest {
    private static final String ALL = "true 3 1, cross 4 2, lot 5 3, crowd 1 4, moody 2 5";

    public static void main(String[] args) {
        Due due = new Due("AskedTest");
        kinds(due);
        asKinds(due);
        asks(due);
        traces(due);
        due.end();
    }

    private static void kinds(Due due) {
        EvePost x = Due.with(ALL);
        for (int person = 0; person < 5; person++) {
            due.is("kind(" + person + ")", x.kind(person), person + 1);
        }
        due.is("kind(5)", x.kind(5), Due.BAD);
        due.is("kind(-1)", x.kind(-1), Due.BAD);
    }

    private static void asKinds(Due due) {
        EvePost x = Due.with(ALL);
        String[] taken = {"01", "012", "013", "04", "045"};
        for (int person = 0; person < 5; person++) {
            for (int kind = 0; kind < 6; kind++) {
                boolean is = taken[person].indexOf('0' + kind) >= 0;
                due.is("as(" + person + ", " + kind + ")", x.as(person, kind), is ? person : Due.KIND);
                due.is("status()", x.status(), is ? 0 : 3);
            }
        }
        x.as(0, 5);
        due.is("as(5, 0)", x.as(5, 0), Due.BAD);
        due.is("as(-1, 0)", x.as(-1, 0), Due.BAD);
        due.is("as(0, 6)", x.as(0, 6), Due.BAD);
        due.is("as(0, -1)", x.as(0, -1), Due.BAD);
        x.ask(0, 0);
        due.is("the latest that was not refused", x.status(), 3);
        x.set(0, 0, 0);
        due.is("a call with a row", x.status(), 1);
    }

    private static void ask(Due due, EvePost x, int person, int what, int answer, String trace) {
        String call = "ask(" + person + ", " + what + ")";
        due.is(call, x.ask(person, what), answer);
        due.is("trace of " + call, Due.traceOf(x), trace);
    }

    private static void asks(Due due) {
        EvePost x = Due.with(ALL);
        ask(due, x, 0, 0, 1 + 3, "11 10 21 20");
        ask(due, x, 0, 1, 3, "21 20");
        ask(due, x, 1, 0, -(2 + 10), "12 11 10 24 21 20");
        ask(due, x, 1, 1, 2 * (1 + 4), "24 21 20");
        ask(due, x, 2, 0, 3 + 7 - 1000, "11 10 22 21 20");
        ask(due, x, 2, 1, 7 - 1000, "22 21 20");
        ask(due, x, 3, 0, 4 - 100, "13 10");
        ask(due, x, 3, 1, 3 + 96, "23 20 13 10");
        ask(due, x, 4, 0, 2 * (5 - 100), "14 13 10");
        ask(due, x, 4, 1, 4 + 190, "23 20 14 13 10");
        due.is("ask(5, 0)", x.ask(5, 0), Due.BAD);
        due.is("ask(-1, 0)", x.ask(-1, 0), Due.BAD);
        due.is("ask(0, 2)", x.ask(0, 2), Due.BAD);
        due.is("ask(0, -1)", x.ask(0, -1), Due.BAD);
        due.is("what is refused leaves the trace", Due.traceOf(x), "23 20 14 13 10");
    }

    private static void traces(Due due) {
        EvePost x = Due.with(ALL);
        due.is("none yet", x.trace(0), Due.NONE);
        x.ask(1, 0);
        due.is("trace(5)", x.trace(5), 20);
        due.is("trace(6)", x.trace(6), Due.NONE);
        due.is("trace(-1)", x.trace(-1), Due.NONE);
        due.is("trace(16)", x.trace(16), Due.NONE);
        due.is("trace(MAX)", x.trace(Integer.MAX_VALUE), Due.NONE);
        due.is("trace(MIN)", x.trace(Integer.MIN_VALUE), Due.NONE);
        x.ask(0, 1);
        due.is("empty ahead of each ask", Due.traceOf(x), "21 20");
    }
}
