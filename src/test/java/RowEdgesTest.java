/** Part 1 of the terms as far as rows go, and promises 2 to 5, at their edges. */
public final class RowEdgesTest {
    private static final int MIN = Integer.MIN_VALUE, MAX = Integer.MAX_VALUE;
    private static final Edges e = new Edges("RowEdgesTest");

    public static void main(String[] args) {
        terms();
        row();
        set();
        setWraps();
        copy();
        copyPlaces();
        copyMoves();
        drop();
        e.end();
    }

    private static void terms() {
        e.sentence("ROWS 0 .. 7 are missing (at first)");
        for (int row = 0; row < 8; row++) {
            e.is("drop(" + row + ")", new EvePost().drop(row), Due.NULL);
            e.is("count(0)", new EvePost().count(0), 0);
        }
        e.sentence("0 to 40 ITEMS, 0 at first");
        for (int n : new int[] {0, 1, 39, 40}) {
            EvePost x = Due.with(Pasts.SIX);
            x.row(5, n % 3, n);
            e.is("items of " + n, Seen.items(x, 5), "0 ".repeat(n).trim());
        }
        e.sentence("ROWS 0 .. 7: all of them at once, each with as many ITEMS as there may be, are each their own");
        EvePost x = Due.with(Pasts.SIX);
        for (int row = 0; row < 8; row++) {
            x.row(row, row % 3, 40);
            x.set(row, 0, row + 1);
            x.set(row, 39, row + 51);
        }
        e.is("count(0)", x.count(0), 8);
        for (int row = 0; row < 8; row++) {
            e.is("first item", x.posts(row, 0, 1) + " " + x.count(3), "1 " + (row + 1));
            e.is("second item", x.posts(row, 1, 1) + " " + x.count(3), "1 0");
            e.is("last item", x.posts(row, 39, 1) + " " + x.count(3), "1 " + (row + 51));
        }
    }

    private static void row() {
        e.sentence("2 row: A ROW of a LANE with n ITEMS: n");
        for (int row = 0; row < 8; row++) {
            for (int lane = 0; lane < 3; lane++) {
                EvePost x = new EvePost();
                for (int n = 0; n <= 40; n++) {
                    e.is("row(" + row + ", " + lane + ", " + n + ")", x.row(row, lane, n), n);
                }
                e.is("status()", x.status(), 0);
                e.is("count(0)", x.count(0), 1);
                e.is("lane " + lane, x.set(row, 39, 70000), new int[] {112, 4464, 70000}[lane]);
                e.is("drop", x.drop(row), 40);
            }
        }
        e.sentence("2 row: in place of what is there");
        EvePost x = Due.with(Pasts.SIX);
        x.row(0, 2, 3);
        x.set(0, 0, 7);
        x.row(0, 0, 40);
        e.is("count(0)", x.count(0), 1);
        e.is("the lane is another", x.set(0, 39, 300), 44);
        x.row(0, 0, 40);
        e.is("items", Seen.items(x, 0), "0 ".repeat(40).trim());
        e.is("fewer", x.row(0, 1, 0), 0);
        e.is("there is none of them", x.set(0, 0, 0), Due.PLACE);
        e.is("drop", x.drop(0), 0);

        e.sentence("2 row: BAD: ROW");
        e.refusedOutside(Pasts::busy, 0, 7, "row(r, 0, 1)", (y, r) -> y.row(r, 0, 1), Due.BAD);
        e.sentence("2 row: BAD: LANE");
        e.refusedOutside(Pasts::busy, 0, 2, "row(0, lane, 1)", (y, lane) -> y.row(0, lane, 1), Due.BAD);
        e.sentence("2 row: BAD: n above 40");
        e.refusedAbove(Pasts::busy, 40, "row(0, 0, n)", (y, n) -> y.row(0, 0, n), Due.BAD);
        e.refusedAbove(Pasts::busy, 40, "row(5, 2, n)", (y, n) -> y.row(5, 2, n), Due.BAD);
        e.sentence("2 row: SIZE (fewer than none)");
        e.refusedBelow(Pasts::busy, 0, "row(0, 0, n)", (y, n) -> y.row(0, 0, n), Due.SIZE);
        e.refusedBelow(Pasts::busy, 0, "row(5, 2, n) of a missing one", (y, n) -> y.row(5, 2, n), Due.SIZE);
        e.sentence("2 row: BAD goes ahead of SIZE");
        e.refused(Pasts::busy, "row(8, 0, -1)", y -> y.row(8, 0, -1), Due.BAD);
        e.refused(Pasts::busy, "row(-1, 0, -1)", y -> y.row(-1, 0, -1), Due.BAD);
        e.refused(Pasts::busy, "row(0, 3, -1)", y -> y.row(0, 3, -1), Due.BAD);
        e.refused(Pasts::busy, "row(0, -1, MIN)", y -> y.row(0, -1, MIN), Due.BAD);
    }

    private static void set() {
        e.sentence("3 set: ITEM i becomes v: the first and the last, and no other one");
        for (int lane = 0; lane < 3; lane++) {
            EvePost x = Due.with(Pasts.SIX);
            x.row(0, lane, 4);
            e.is("set(0, 0, 63)", x.set(0, 0, 63), 63);
            e.is("set(0, 3, 21)", x.set(0, 3, 21), 21);
            e.is("status()", x.status(), 0);
            e.is("items", Seen.items(x, 0), "63 0 0 21");
        }
        EvePost x = new EvePost();
        x.row(7, 0, 40);
        e.is("set(7, 39, 1)", x.set(7, 39, 1), 1);
        e.sentence("3 set: BAD: ROW");
        e.refusedOutside(Pasts::busy, 0, 7, "set(r, 0, 1)", (y, r) -> y.set(r, 0, 1), Due.BAD);
        e.sentence("3 set: NULL");
        for (int row = 4; row < 8; row++) {
            int r = row;
            e.refused(Pasts::busy, "set(" + r + ", 0, 1)", y -> y.set(r, 0, 1), Due.NULL);
        }
        e.sentence("3 set: PLACE");
        e.refusedOutside(Pasts::busy, 0, 2, "set(0, i, 9)", (y, i) -> y.set(0, i, 9), Due.PLACE);
        e.refusedOutside(Pasts::busy, 0, 1, "set(1, i, 9)", (y, i) -> y.set(1, i, 9), Due.PLACE);
        e.refusedOutside(Pasts::busy, 0, 39, "set(2, i, 9)", (y, i) -> y.set(2, i, 9), Due.PLACE);
        e.sentence("3 set: PLACE: an empty ROW has no place");
        e.refusedOutside(Pasts::busy, 0, -1, "set(3, i, 9)", (y, i) -> y.set(3, i, 9), Due.PLACE);
        e.sentence("3 set: NULL goes ahead of PLACE, BAD of both");
        e.refused(Pasts::busy, "set(4, -1, 1)", y -> y.set(4, -1, 1), Due.NULL);
        e.refused(Pasts::busy, "set(4, MAX, 1)", y -> y.set(4, MAX, 1), Due.NULL);
        e.refused(Pasts::busy, "set(8, -1, 1)", y -> y.set(8, -1, 1), Due.BAD);
        e.refused(Pasts::busy, "set(-1, MAX, 1)", y -> y.set(-1, MAX, 1), Due.BAD);
    }

    private static void setWraps() {
        e.sentence("3 set: its lowest bits, as many as the LANE has: what it is then");
        EvePost x = new EvePost();
        for (int lane = 0; lane < 3; lane++) {
            x.row(lane, lane, 1);
        }
        int[] told = {127, 128, 255, 256, 257, -1, -128, -129, -256, 32767, 32768, 65535, 65536, -32768, -32769, MAX, MIN};
        int[] bytes = {127, -128, -1, 0, 1, -1, -128, 127, 0, -1, 0, -1, 0, 0, -1, -1, 0};
        int[] shorts = {127, 128, 255, 256, 257, -1, -128, -129, -256, 32767, -32768, -1, 0, -32768, 32767, -1, 0};
        for (int k = 0; k < told.length; k++) {
            e.is("a byte of " + told[k], x.set(0, 0, told[k]), bytes[k]);
            e.is("a short of " + told[k], x.set(1, 0, told[k]), shorts[k]);
            e.is("an int of " + told[k], x.set(2, 0, told[k]), told[k]);
        }
        e.sentence("3 set: the ITEM is what it is then, not what was told");
        EvePost y = Due.with(Pasts.SIX);
        y.row(0, 0, 2);
        y.row(1, 1, 2);
        y.row(2, 2, 2);
        y.set(0, 0, 256 + 5);
        y.set(0, 1, 128);
        y.set(1, 0, 65536 + 6);
        y.set(1, 1, 256);
        y.set(2, 0, 7);
        y.set(2, 1, 65536);
        e.is("bytes", Seen.items(y, 0), "5 x");
        e.is("shorts", Seen.items(y, 1), "6 x");
        e.is("ints", Seen.items(y, 2), "7 x");
    }

    private static void copy() {
        e.sentence("4 copy: BAD: ROWS");
        e.refusedOutside(Pasts::busy, 0, 7, "copy(r, 0, 0, 0, 1)", (y, r) -> y.copy(r, 0, 0, 0, 1), Due.BAD);
        e.refusedOutside(Pasts::busy, 0, 7, "copy(0, 0, r, 0, 1)", (y, r) -> y.copy(0, 0, r, 0, 1), Due.BAD);
        e.sentence("4 copy: BAD goes ahead of NULL, PLACE");
        e.refused(Pasts::busy, "copy(4, 0, 8, 0, 0)", y -> y.copy(4, 0, 8, 0, 0), Due.BAD);
        e.refused(Pasts::busy, "copy(-1, 0, 4, 0, 0)", y -> y.copy(-1, 0, 4, 0, 0), Due.BAD);
        e.refused(Pasts::busy, "copy(0, -1, 8, -1, -1)", y -> y.copy(0, -1, 8, -1, -1), Due.BAD);
        e.sentence("4 copy: NULL");
        e.refused(Pasts::busy, "copy(4, 0, 0, 0, 0)", y -> y.copy(4, 0, 0, 0, 0), Due.NULL);
        e.refused(Pasts::busy, "copy(0, 0, 4, 0, 0)", y -> y.copy(0, 0, 4, 0, 0), Due.NULL);
        e.refused(Pasts::busy, "copy(7, 0, 7, 0, 0)", y -> y.copy(7, 0, 7, 0, 0), Due.NULL);
        e.sentence("4 copy: NULL goes ahead of STORE, PLACE");
        e.refused(Pasts::busy, "copy(2, 0, 4, 0, 0)", y -> y.copy(2, 0, 4, 0, 0), Due.NULL);
        e.refused(Pasts::busy, "copy(4, 0, 1, 0, 0)", y -> y.copy(4, 0, 1, 0, 0), Due.NULL);
        e.refused(Pasts::busy, "copy(0, -1, 4, -1, -1)", y -> y.copy(0, -1, 4, -1, -1), Due.NULL);
        e.refused(Pasts::busy, "copy(4, MAX, 0, MAX, MAX)", y -> y.copy(4, MAX, 0, MAX, MAX), Due.NULL);
        EvePost x = new EvePost();
        x.row(0, 0, 1);
        x.row(1, 2, 1);
        x.drop(1);
        e.is("a dropped one has no lane", x.copy(0, 0, 1, 0, 1), Due.NULL);
        e.sentence("4 copy: STORE (ROWS of two LANES)");
        for (int a = 0; a < 3; a++) {
            for (int b = 0; b < 3; b++) {
                int from = a;
                int to = b;
                if (a != b) {
                    e.refused(Pasts::busy, "copy(" + a + ", 0, " + b + ", 0, 1)", y -> y.copy(from, 0, to, 0, 1), Due.STORE);
                }
            }
        }
        e.refused(Pasts::busy, "of no item", y -> y.copy(0, 0, 1, 0, 0), Due.STORE);
        e.refused(Pasts::busy, "of an empty row", y -> y.copy(3, 0, 2, 0, 0), Due.STORE);
        e.sentence("4 copy: STORE goes ahead of PLACE");
        e.refused(Pasts::busy, "copy(0, -1, 1, 0, 1)", y -> y.copy(0, -1, 1, 0, 1), Due.STORE);
        e.refused(Pasts::busy, "copy(0, 0, 2, 41, 1)", y -> y.copy(0, 0, 2, 41, 1), Due.STORE);
        e.refused(Pasts::busy, "copy(0, 0, 1, 0, -1)", y -> y.copy(0, 0, 1, 0, -1), Due.STORE);
        e.refused(Pasts::busy, "copy(0, 0, 1, 0, MAX)", y -> y.copy(0, 0, 1, 0, MAX), Due.STORE);
    }

    private static void copyPlaces() {
        e.sentence("4 copy: PLACE: i below 0");
        e.refusedBelow(Pasts::busy, 0, "copy(0, i, 0, 0, 1)", (y, i) -> y.copy(0, i, 0, 0, 1), Due.PLACE);
        e.refusedBelow(Pasts::busy, 0, "copy(0, i, 0, 0, 0)", (y, i) -> y.copy(0, i, 0, 0, 0), Due.PLACE);
        e.sentence("4 copy: PLACE: j below 0");
        e.refusedBelow(Pasts::busy, 0, "copy(0, 0, 0, j, 1)", (y, j) -> y.copy(0, 0, 0, j, 1), Due.PLACE);
        e.refusedBelow(Pasts::busy, 0, "copy(0, 0, 0, j, 0)", (y, j) -> y.copy(0, 0, 0, j, 0), Due.PLACE);
        e.sentence("4 copy: PLACE: n below 0");
        e.refusedBelow(Pasts::busy, 0, "copy(0, 0, 0, 1, n)", (y, n) -> y.copy(0, 0, 0, 1, n), Due.PLACE);
        e.refusedBelow(Pasts::busy, 0, "copy(0, 2, 0, 2, n)", (y, n) -> y.copy(0, 2, 0, 2, n), Due.PLACE);
        e.sentence("4 copy: PLACE: beyond an end: of a");
        e.refusedAbove(Pasts::busy, 2, "copy(2, 38, 2, 0, n)", (y, k) -> y.copy(2, 38, 2, 0, k), Due.PLACE);
        e.refusedAbove(Pasts::busy, 2, "copy(0, i, 0, 0, 1)", (y, i) -> y.copy(0, i, 0, 0, 1), Due.PLACE);
        e.refusedAbove(Pasts::busy, 3, "copy(0, i, 0, 0, 0)", (y, i) -> y.copy(0, i, 0, 0, 0), Due.PLACE);
        e.refused(Pasts::busy, "copy(0, 1, 0, 0, 3)", y -> y.copy(0, 1, 0, 0, 3), Due.PLACE);
        e.sentence("4 copy: PLACE: beyond an end: of b");
        e.refusedAbove(Pasts::busy, 2, "copy(2, 0, 2, 38, n)", (y, k) -> y.copy(2, 0, 2, 38, k), Due.PLACE);
        e.refusedAbove(Pasts::busy, 2, "copy(0, 0, 0, j, 1)", (y, j) -> y.copy(0, 0, 0, j, 1), Due.PLACE);
        e.refusedAbove(Pasts::busy, 3, "copy(0, 0, 0, j, 0)", (y, j) -> y.copy(0, 0, 0, j, 0), Due.PLACE);
        e.refused(Pasts::busy, "copy(0, 0, 0, 1, 3)", y -> y.copy(0, 0, 0, 1, 3), Due.PLACE);
        e.refused(Pasts::busy, "to an empty row", y -> y.copy(0, 0, 3, 0, 1), Due.PLACE);
        e.refused(Pasts::busy, "from an empty row", y -> y.copy(3, 0, 0, 0, 1), Due.PLACE);
        e.sentence("4 copy: PLACE: a sum that wraps around is beyond an end, too");
        e.refused(Pasts::busy, "i + n", y -> y.copy(0, MAX, 0, 0, 1), Due.PLACE);
        e.refused(Pasts::busy, "i + n", y -> y.copy(0, 1, 0, 0, MAX), Due.PLACE);
        e.refused(Pasts::busy, "i + n", y -> y.copy(0, MAX, 0, 0, MAX), Due.PLACE);
        e.refused(Pasts::busy, "j + n", y -> y.copy(0, 0, 0, MAX, 2), Due.PLACE);
        e.refused(Pasts::busy, "j + n", y -> y.copy(0, 0, 0, 1, MAX), Due.PLACE);
        e.refused(Pasts::busy, "i + n, j + n below 0", y -> y.copy(0, MIN, 0, MIN, MIN), Due.PLACE);
    }

    private static void copyMoves() {
        e.sentence("4 copy: n ITEMS: none, even at the ends; all");
        EvePost x = Pasts.busy();
        e.is("none, at the ends", x.copy(0, 3, 0, 3, 0), 0);
        e.is("status()", x.status(), 0);
        e.is("none of an empty row", x.copy(3, 0, 3, 0, 0), 0);
        e.is("none to an empty row", x.copy(0, 3, 3, 0, 0), 0);
        Due.town(x, ";");
        Due.town(x, Due.text(Pasts.SIX));
        e.is("nothing came", Seen.items(x, 0), "1 2 3");
        x.row(5, 2, 40);
        e.is("all 40", x.copy(2, 0, 5, 0, 40), 40);
        e.is("items", Seen.items(x, 5), "6 " + "0 ".repeat(38) + "7");
        e.is("the last alone", x.copy(2, 39, 5, 0, 1), 1);
        e.is("items", Seen.items(x, 5), "7 " + "0 ".repeat(38) + "7");
        e.sentence("4 copy: as they were ahead (onto the same ROW)");
        for (int lane = 0; lane < 3; lane++) {
            EvePost y = Due.with(Pasts.SIX);
            y.row(0, lane, 5);
            for (int i = 0; i < 5; i++) {
                y.set(0, i, i + 1);
            }
            e.is("forwards", y.copy(0, 0, 0, 1, 4), 4);
            e.is("items", Seen.items(y, 0), "1 1 2 3 4");
            e.is("backwards", y.copy(0, 1, 0, 0, 4), 4);
            e.is("items", Seen.items(y, 0), "1 2 3 4 4");
            e.is("in its place", y.copy(0, 0, 0, 0, 5), 5);
            e.is("items", Seen.items(y, 0), "1 2 3 4 4");
        }
        e.sentence("4 copy: of a .. come to b: a is as it was, and later changes of it are not b's");
        EvePost z = Due.with(Pasts.SIX);
        z.row(0, 1, 3);
        z.row(1, 1, 4);
        z.set(0, 0, 1);
        z.set(0, 1, 2);
        e.is("copy", z.copy(0, 0, 1, 2, 2), 2);
        z.set(0, 1, 9);
        e.is("a", Seen.items(z, 0), "1 9 0");
        e.is("b", Seen.items(z, 1), "0 0 1 2");
    }

    private static void drop() {
        e.sentence("5 drop: A ROW is missing from now on: how many ITEMS it had");
        for (int row = 0; row < 8; row++) {
            for (int n : new int[] {0, 1, 40}) {
                EvePost x = new EvePost();
                x.row(row, 2, n);
                x.drop((row + 1) % 8);
                e.is("drop", x.drop(row), n);
                e.is("status()", x.status(), 0);
                e.is("count(0)", x.count(0), 0);
                e.is("set", x.set(row, 0, 0), Due.NULL);
                e.is("drop", x.drop(row), Due.NULL);
            }
        }
        e.sentence("5 drop: no other ROW is missing by it, and one made anew has its ITEMS anew");
        EvePost x = Due.with(Pasts.SIX);
        x.row(0, 0, 2);
        x.row(1, 0, 2);
        x.set(0, 1, 5);
        x.set(1, 1, 6);
        x.drop(0);
        e.is("the other", Seen.items(x, 1), "0 6");
        x.row(0, 0, 2);
        e.is("anew", Seen.items(x, 0), "0 0");
        e.sentence("5 drop: BAD");
        e.refusedOutside(Pasts::busy, 0, 7, "drop(r)", EvePost::drop, Due.BAD);
        e.sentence("5 drop: NULL");
        for (int row = 4; row < 8; row++) {
            int r = row;
            e.refused(Pasts::busy, "drop(" + r + ")", y -> y.drop(r), Due.NULL);
        }
    }
}
