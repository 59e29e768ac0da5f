/** Promises 2 to 5, and 31 as far as rows go. */
public final class RowsTest {
    public static void main(String[] args) {
        Due due = new Due("RowsTest");
        rows(due);
        items(due);
        copies(due);
        drops(due);
        statuses(due);
        due.end();
    }

    private static void rows(Due due) {
        EvePost x = new EvePost();
        due.is("row(0, 0, 40)", x.row(0, 0, 40), 40);
        due.is("row(7, 2, 0)", x.row(7, 2, 0), 0);
        due.is("count(0)", x.count(0), 2);
        due.is("row(8, 0, 1)", x.row(8, 0, 1), Due.BAD);
        due.is("row(-1, 0, 1)", x.row(-1, 0, 1), Due.BAD);
        due.is("row(0, -1, 1)", x.row(0, -1, 1), Due.BAD);
        due.is("row(0, 3, -1)", x.row(0, 3, -1), Due.BAD);
        due.is("row(8, 0, -1)", x.row(8, 0, -1), Due.BAD);
        due.is("row(0, 0, 41)", x.row(0, 0, 41), Due.BAD);
        due.is("row(0, 0, MAX)", x.row(0, 0, Integer.MAX_VALUE), Due.BAD);
        due.is("row(1, 0, -1)", x.row(1, 0, -1), Due.SIZE);
        due.is("row(0, 0, MIN)", x.row(0, 0, Integer.MIN_VALUE), Due.SIZE);
        due.is("count(0) after refusals", x.count(0), 2);
        due.is("the row is as it was", x.set(0, 39, 5), 5);
        due.is("row(0, 0, 40) anew", x.row(0, 0, 40), 40);
        due.is("an empty row", x.row(1, 0, 40), 40);
        due.is("copy", x.copy(0, 39, 1, 0, 1), 1);
        due.is("row(0, 2, 3) in place of it", x.row(0, 2, 3), 3);
        due.is("set(0, 3, 1)", x.set(0, 3, 1), Due.PLACE);
        due.is("set(0, 2, MIN)", x.set(0, 2, Integer.MIN_VALUE), Integer.MIN_VALUE);
        due.is("drop(0)", x.drop(0), 3);
        zeroAtFirst(due);
    }

    /** What a row holds shows by the letters that it tells. */
    private static void zeroAtFirst(Due due) {
        EvePost x = Due.with("true 0 0, true 1 0");
        x.row(0, 0, 3);
        x.set(0, 1, 99);
        due.is("an item that is no letter", x.breaks(0, 0, 3), Due.BAD);
        x.row(0, 1, 3);
        due.is("the row anew", x.posts(0, 0, 3), 3);
        due.is("all its items were 0", x.count(3), 0);
    }

    private static void items(Due due) {
        EvePost x = new EvePost();
        x.row(0, 0, 2);
        x.row(1, 1, 2);
        x.row(2, 2, 2);
        due.is("byte 127", x.set(0, 0, 127), 127);
        due.is("byte 128", x.set(0, 0, 128), -128);
        due.is("byte 256", x.set(0, 0, 256), 0);
        due.is("byte -129", x.set(0, 0, -129), 127);
        due.is("short 32767", x.set(1, 1, 32767), 32767);
        due.is("short 32768", x.set(1, 1, 32768), -32768);
        due.is("short 65536", x.set(1, 1, 65536), 0);
        due.is("int MIN", x.set(2, 1, Integer.MIN_VALUE), Integer.MIN_VALUE);
        due.is("int MAX", x.set(2, 1, Integer.MAX_VALUE), Integer.MAX_VALUE);
        due.is("set(8, 0, 0)", x.set(8, 0, 0), Due.BAD);
        due.is("set(-1, 0, 0)", x.set(-1, 0, 0), Due.BAD);
        due.is("set(3, -1, 0)", x.set(3, -1, 0), Due.NULL);
        due.is("set(0, 2, 0)", x.set(0, 2, 0), Due.PLACE);
        due.is("set(0, -1, 0)", x.set(0, -1, 0), Due.PLACE);
        due.is("set(0, MAX, 0)", x.set(0, Integer.MAX_VALUE, 0), Due.PLACE);
        x.row(4, 0, 0);
        due.is("set of an empty row", x.set(4, 0, 0), Due.PLACE);
    }

    private static void copies(Due due) {
        EvePost x = Due.with("true 0 0, true 1 0, true 2 0");
        x.row(0, 0, 5);
        for (int i = 0; i < 5; i++) {
            x.set(0, i, i + 1);
        }
        due.is("copy onto itself, forwards", x.copy(0, 0, 0, 1, 4), 4);
        due.is("posts", x.posts(0, 0, 5), 5);
        due.is("the last item", x.count(3), 4);
        due.is("1 1 2 3 4: the fourth", lastPosted(x, 0, 3), 3);
        due.is("copy onto itself, backwards", x.copy(0, 1, 0, 0, 4), 4);
        due.is("1 2 3 4 4: the third", lastPosted(x, 0, 2), 3);
        x.row(1, 0, 2);
        due.is("copy to another", x.copy(0, 2, 1, 1, 1), 1);
        due.is("0 3: the second", lastPosted(x, 1, 1), 3);
        due.is("0 3: the first", lastPosted(x, 1, 0), 0);
        due.is("copy of none", x.copy(0, 5, 1, 2, 0), 0);
        x.row(2, 1, 2);
        due.is("copy(8, ..)", x.copy(8, 0, 0, 0, 0), Due.BAD);
        due.is("copy(.., -1, ..)", x.copy(3, 0, -1, 0, 0), Due.BAD);
        due.is("from a missing row", x.copy(3, -1, 0, 0, 0), Due.NULL);
        due.is("to a missing row", x.copy(0, 0, 3, 0, -1), Due.NULL);
        due.is("of two lanes", x.copy(0, 0, 2, 0, 0), Due.STORE);
        due.is("of two lanes, beyond an end", x.copy(0, -1, 2, 0, 99), Due.STORE);
        due.is("i below 0", x.copy(0, -1, 1, 0, 0), Due.PLACE);
        due.is("j below 0", x.copy(0, 0, 1, -1, 0), Due.PLACE);
        due.is("n below 0", x.copy(0, 0, 1, 0, -1), Due.PLACE);
        due.is("beyond a's end", x.copy(0, 4, 1, 0, 2), Due.PLACE);
        due.is("beyond b's end", x.copy(0, 0, 1, 1, 2), Due.PLACE);
        due.is("i far beyond", x.copy(0, 6, 1, 0, 0), Due.PLACE);
        due.is("n at its most", x.copy(0, 1, 1, 1, Integer.MAX_VALUE), Due.PLACE);
        due.is("i at its most", x.copy(0, Integer.MAX_VALUE, 1, 1, 2), Due.PLACE);
        due.is("j at its most", x.copy(0, 0, 1, Integer.MAX_VALUE, 2), Due.PLACE);
        due.is("what was found changes nothing", lastPosted(x, 1, 1), 3);
    }

    private static int lastPosted(EvePost x, int row, int i) {
        x.posts(row, i, 1);
        return x.count(3);
    }

    private static void drops(Due due) {
        EvePost x = new EvePost();
        x.row(3, 2, 17);
        due.is("drop(3)", x.drop(3), 17);
        due.is("drop(3) again", x.drop(3), Due.NULL);
        due.is("set of it", x.set(3, 0, 1), Due.NULL);
        due.is("count(0)", x.count(0), 0);
        due.is("drop(8)", x.drop(8), Due.BAD);
        due.is("drop(-1)", x.drop(-1), Due.BAD);
        x.row(3, 2, 0);
        due.is("drop of an empty row", x.drop(3), 0);
    }

    private static void statuses(Due due) {
        EvePost x = new EvePost();
        x.set(0, 0, 0);
        due.is("NULL", x.status(), 1);
        x.row(9, 0, 0);
        due.is("BAD leaves it", x.status(), 1);
        x.posts(0, 0, 1);
        due.is("STATE leaves it", x.status(), 1);
        x.feed(0, 1);
        x.count(0);
        due.is("a call without a row leaves it", x.status(), 1);
        x.row(0, 0, 1);
        due.is("none", x.status(), 0);
        x.set(0, 1, 0);
        due.is("PLACE", x.status(), 2);
        x.row(0, 0, -1);
        due.is("SIZE", x.status(), 4);
        x.row(1, 1, 1);
        x.copy(0, 0, 1, 0, 1);
        due.is("STORE", x.status(), 5);
        x.copy(0, 0, 0, 0, 1);
        due.is("none, by copy", x.status(), 0);
        x.drop(5);
        due.is("NULL, by drop", x.status(), 1);
        x.drop(1);
        due.is("none, by drop", x.status(), 0);
        x.drop(1);
        x.set(0, 0, 3);
        due.is("none, by set", x.status(), 0);
    }
}
