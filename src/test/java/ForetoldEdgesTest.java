/** Part 3 of the terms, and promises 15 to 25, at their edges. */
public final class ForetoldEdgesTest {
    private static final int MIN = Integer.MIN_VALUE, MAX = Integer.MAX_VALUE;
    private static final String CROSS = "cross 0 0";
    /** No letter agrees; were 0 (or 1) one who does just as the letter says, only letters with him would. */
    private static final String IN_IT = "true 2 0, cross 3 0, cross 3 0, crowd 0 2";
    /** No letter agrees; were 0 (or 1, or 2) one who does just as the letter says, only letters without him would. */
    private static final String OUT_OF_IT = "cross 3 0, cross 3 0, cross 3 0, crowd 0 3";
    private static final Edges e = new Edges("ForetoldEdgesTest");

    public static void main(String[] args) {
        agreeing();
        fullest();
        culprits();
        stoppers();
        chains();
        chainsOfMost();
        breaks();
        breaksRefused();
        breaksItems();
        comes();
        comesLowest();
        likeliest();
        lost();
        readBy();
        nothingChanges();
        afterLarger();
        image();
        restore();
        e.end();
    }

    private static void agreeing() {
        e.sentence("15 agreeing: how many (i = -1), the i-th, the least first");
        EvePost six = Due.with(Pasts.SIX);
        e.is("all of them", six.agreeing(-1), 64);
        for (int i = 0; i < 64; i++) {
            e.is("agreeing(" + i + ")", six.agreeing(i), i);
        }
        EvePost two = Due.with("true 1 0, true 0 0, true 1 0");
        e.is("two of them", two.agreeing(-1) + ": " + two.agreeing(0) + " " + two.agreeing(1), "2: 0 7");
        e.is("none of them", Due.with(CROSS).agreeing(-1), 0);
        e.sentence("15 agreeing: NONE: not so many");
        for (int i : Edges.above(63)) {
            e.is("of 64, agreeing(" + i + ")", six.agreeing(i), Due.NONE);
        }
        for (int i : Edges.above(1)) {
            e.is("of two, agreeing(" + i + ")", two.agreeing(i), Due.NONE);
        }
        for (int i : Edges.above(-1)) {
            e.is("of none, agreeing(" + i + ")", Due.with(CROSS).agreeing(i), Due.NONE);
        }
        e.sentence("15 agreeing: BAD: i below -1");
        e.refusedBelow(Pasts::busy, -1, "agreeing(i)", EvePost::agreeing, Due.BAD);
        e.sentence("15 agreeing: STATE: no TOWN (ahead of BAD)");
        e.refused(Pasts::noTown, "agreeing(-1)", x -> x.agreeing(-1), Due.STATE);
        e.refusedOutside(Pasts::noTown, -1, -1, "agreeing(i)", EvePost::agreeing, Due.STATE);
        e.sentence("A LETTER AGREES .. as all was the day before: AGREEING now");
        EvePost moody = Due.with("moody 0 0");
        e.is("day 0", moody.agreeing(-1), 0);
        moody.lots(0, 1);
        e.is("day 1", moody.agreeing(-1) + ": " + moody.agreeing(0) + " " + moody.agreeing(1), "2: 0 1");
    }

    private static void fullest() {
        e.sentence("16 fullest: that with most PEOPLE in it");
        e.is("all", Due.with(Pasts.SIX).fullest(), 63);
        e.is("nobody", Due.with("true 5 0").fullest(), 0);
        e.is("not the greatest number", Due.with("true 1 0, true 0 0, cross 0 0").fullest(), 3);
        e.sentence("16 fullest: of several the least");
        e.is("of 1, 2", Due.with("cross 1 0, cross 0 0").fullest(), 1);
        e.is("of 5, 6, 9, 10", Due.with("cross 1 0, cross 0 0, cross 3 0, cross 2 0").fullest(), 5);
        e.sentence("16 fullest: NONE");
        e.is("of a cross one", Due.with(CROSS).fullest(), Due.NONE);
        e.sentence("16 fullest: STATE: no TOWN");
        e.refused(Pasts::noTown, "fullest()", EvePost::fullest, Due.STATE);
    }

    private static void culprits() {
        e.sentence("17 culprits: each of whom alone, were he one who does it just if he is in the LETTER himself, would have some LETTER AGREE");
        e.is("nobody", Due.with("cross 0 0, cross 1 0").culprits(0), 0);
        e.is("he alone", Due.with("cross 0 0, true 1 0").culprits(0), 1);
        e.is("each of a ring", Due.with("true 1 0, true 2 0, cross 0 0").culprits(0), 7);
        e.is("everybody, as some LETTER AGREES anyway", Due.with(Pasts.SIX).culprits(0), 63);
        e.is("one man", Due.with(CROSS).culprits(0), 1);
        e.is("some who would have to be in it", Due.with(IN_IT).agreeing(-1) + " " + Due.with(IN_IT).culprits(0), "0 15");
        e.is("some who would have to be out of it", Due.with(OUT_OF_IT).agreeing(-1) + " " + Due.with(OUT_OF_IT).culprits(0), "0 15");
        e.is("the last of six", Due.with("true 0 0, true 0 0, true 0 0, true 0 0, true 0 0, cross 5 0").culprits(0), 32);
        e.sentence("17 culprits: BAD");
        e.refusedOutside(Pasts::busy, 0, 1, "culprits(what)", EvePost::culprits, Due.BAD);
        e.sentence("17 culprits: STATE: no TOWN (ahead of BAD)");
        e.refused(Pasts::noTown, "culprits(0)", x -> x.culprits(0), Due.STATE);
        e.refused(Pasts::noTown, "culprits(1)", x -> x.culprits(1), Due.STATE);
        e.refusedOutside(Pasts::noTown, 0, 1, "culprits(what)", EvePost::culprits, Due.STATE);
    }

    private static void stoppers() {
        e.sentence("17 culprits: STOPPERS: were he one who does it whatever the LETTER, .. would have none AGREE");
        EvePost on = Due.with("true 1 0, crowd 0 3, lot 3 4, cross 1 0");
        e.is("the first, if he does", on.agreeing(-1) + " " + on.culprits(1), "1 1");
        e.sentence("17 culprits: STOPPERS: .. or one who does not whatever the LETTER, would have none AGREE");
        EvePost off = Due.with("true 3 0, crowd 0 2, moody 3 0, cross 1 0");
        e.is("the third, if he does not", off.agreeing(-1) + " " + off.culprits(1), "1 4");
        e.sentence("17 culprits: STOPPERS: one of the two ways is enough, though by the other some LETTER AGREES");
        e.is("two who do not", Due.with(IN_IT).culprits(1), 3);
        e.is("three who do", Due.with(OUT_OF_IT).culprits(1), 7);
        e.sentence("17 culprits: STOPPERS: nobody; all; one man never is");
        e.is("nobody", Due.with(Pasts.SIX).culprits(1), 0);
        e.is("all", Due.with("cross 0 0, cross 1 0").culprits(1), 3);
        e.is("all of six", Due.with("cross 0 0, cross 1 0, cross 2 0, cross 3 0, cross 4 0, cross 5 0").culprits(1), 63);
        e.is("one cross", Due.with(CROSS).culprits(1), 0);
        e.is("one true", Due.with("true 0 0").culprits(1), 0);
    }

    private static void chains() {
        e.sentence("18 chains: how many (k = -1), of n (1 to 5) DAYS");
        EvePost x = Due.with("true 1 0, true 0 0");
        for (int n = 1; n <= 5; n++) {
            e.is("chains(" + n + ", -1)", x.chains(n, -1), 1 << n);
        }
        EvePost none = Due.with(CROSS);
        for (int n = 1; n <= 5; n++) {
            e.is("of none, chains(" + n + ", -1)", none.chains(n, -1), 0);
        }
        e.sentence("18 chains: the k-th LETTER of the first (the least first)");
        EvePost y = Due.with("moody 0 0");
        y.lots(0, 1);
        for (int n = 1; n <= 5; n++) {
            for (int k = 0; k < n; k++) {
                e.is("chains(" + n + ", " + k + ")", y.chains(n, k), k < n - 1 ? 1 : 0);
            }
        }
        e.sentence("18 chains: just one row of LETTERS");
        EvePost sure = Due.with("cross 5 0, true 5 0");
        for (int n = 1; n <= 5; n++) {
            e.is("how many", sure.chains(n, -1), 1);
            e.is("its first, its last", sure.chains(n, 0) + " " + sure.chains(n, n - 1), "1 1");
        }
        e.sentence("18 chains: NONE: none");
        for (int n = 1; n <= 5; n++) {
            for (int k = 0; k < 6; k++) {
                e.is("chains(" + n + ", " + k + ")", none.chains(n, k), Due.NONE);
            }
        }
        e.sentence("18 chains: NONE: none of so many, though there are shorter ones");
        EvePost pair = Due.with("moody 1 0, moody 0 0");
        e.is("of one day", pair.chains(1, -1) + " " + pair.chains(1, 0), "2 1");
        e.is("of two", pair.chains(2, -1) + " " + pair.chains(2, 0) + " " + pair.chains(2, 1), "0 " + Due.NONE + " " + Due.NONE);
        e.is("of one again", pair.chains(1, -1) + " " + pair.chains(1, 0), "2 1");
        e.sentence("18 chains: NONE: not so many DAYS");
        for (int n = 1; n <= 5; n++) {
            for (int k : Edges.above(n - 1)) {
                e.is("chains(" + n + ", " + k + ")", x.chains(n, k), Due.NONE);
            }
        }
        e.sentence("18 chains: BAD: n");
        e.refusedOutside(Pasts::busy, 1, 5, "chains(n, -1)", (z, n) -> z.chains(n, -1), Due.BAD);
        e.refusedOutside(Pasts::busy, 1, 5, "chains(n, 0)", (z, n) -> z.chains(n, 0), Due.BAD);
        e.sentence("18 chains: BAD: k below -1");
        e.refusedBelow(Pasts::busy, -1, "chains(1, k)", (z, k) -> z.chains(1, k), Due.BAD);
        e.refusedBelow(Pasts::busy, -1, "chains(5, k)", (z, k) -> z.chains(5, k), Due.BAD);
        e.sentence("18 chains: STATE: no TOWN (ahead of BAD)");
        e.refused(Pasts::noTown, "chains(1, -1)", z -> z.chains(1, -1), Due.STATE);
        e.refusedOutside(Pasts::noTown, 1, 5, "chains(n, -1)", (z, n) -> z.chains(n, -1), Due.STATE);
        e.refusedBelow(Pasts::noTown, -1, "chains(1, k)", (z, k) -> z.chains(1, k), Due.STATE);
    }

    private static void chainsOfMost() {
        e.sentence("18 chains: how many: as many as there can be, which do not wrap around");
        EvePost x = Due.with(Pasts.SIX);
        for (int n = 1; n <= 5; n++) {
            e.is("chains(" + n + ", -1)", x.chains(n, -1), 1 << 6 * n);
            e.is("the first LETTER", x.chains(n, 0), 0);
            e.is("the last LETTER", x.chains(n, n - 1), 0);
        }
        e.sentence("18 chains: those in the one ahead having done it the day before it; the first by what was done now");
        EvePost y = Due.with("moody 0 0, true 1 0");
        e.is("he had not", y.chains(1, -1) + " " + y.chains(5, -1), "0 0");
        y.lots(0, 1);
        e.is("he had", y.chains(1, -1) + " " + y.chains(2, -1) + " " + y.chains(5, -1), "4 8 64");
        e.is("counts", Due.counts(y), "0 2 1 1 1 0");
    }

    private static EvePost withItems(int lane, int... items) {
        EvePost x = Pasts.busy();
        x.row(5, lane, items.length);
        for (int i = 0; i < items.length; i++) {
            x.set(5, i, items[i]);
        }
        x.as(0, 5);
        return x;
    }

    private static void breaks() {
        e.sentence("19 breaks: n LETTERS (0 to 40) of a ROW from i on: the first that does not AGREE");
        EvePost x = Due.with("true 1 0, true 0 0");
        x.row(0, 0, 40);
        for (int at : new int[] {0, 1, 38, 39}) {
            x.row(0, 0, 40);
            x.set(0, at, 1);
            x.drop(7);
            e.is("of 40, at " + at, x.breaks(0, 0, 40), at);
            e.is("a break is no finding", x.status(), 0);
            e.is("it is the last", x.breaks(0, 0, at + 1), at);
            e.is("it is behind the last", x.breaks(0, 0, at), Due.NONE);
            e.is("from it on", x.breaks(0, at, 40 - at), 0);
        }
        x.row(0, 0, 40);
        x.set(0, 20, 2);
        e.is("the number among those told", x.breaks(0, 15, 10), 5);
        e.sentence("19 breaks: NONE");
        x.row(0, 0, 40);
        x.drop(7);
        e.is("40 that AGREE", x.breaks(0, 0, 40), Due.NONE);
        e.is("status()", x.status(), 0);
        e.is("one that AGREES, the last", x.breaks(0, 39, 1), Due.NONE);
        e.sentence("19 breaks: 0 LETTERS: NONE, in each place, at the end too");
        for (int i = 0; i <= 40; i++) {
            e.is("breaks(0, " + i + ", 0)", x.breaks(0, i, 0), Due.NONE);
        }
        x.row(1, 0, 0);
        x.drop(7);
        e.is("of an empty row", x.breaks(1, 0, 0), Due.NONE);
        e.is("status()", x.status(), 0);
        e.sentence("19 breaks: one for each DAY from now on; nothing changes");
        EvePost y = Due.with("moody 0 0");
        y.lots(0, 1);
        y.row(0, 2, 4);
        y.set(0, 0, 1);
        y.set(0, 1, 1);
        e.is("1 1 0 | 0", y.breaks(0, 0, 4), 3);
        e.is("counts", Due.counts(y), "1 1 1 1 1 0");
        e.is("1 1 0", y.breaks(0, 0, 3), Due.NONE);
    }

    private static void breaksRefused() {
        e.sentence("19 breaks: BAD: ROW");
        e.refusedOutside(Pasts::busy, 0, 7, "breaks(r, 0, 0)", (y, r) -> y.breaks(r, 0, 0), Due.BAD);
        e.refusedOutside(Pasts::busy, 0, 7, "breaks(r, 0, 1)", (y, r) -> y.breaks(r, 0, 1), Due.BAD);
        e.sentence("19 breaks: BAD: n");
        e.refusedOutside(Pasts::busy, 0, 40, "breaks(2, 0, n)", (y, n) -> y.breaks(2, 0, n), Due.BAD);
        e.sentence("19 breaks: BAD: ROW, n: ahead of NULL, PLACE");
        e.refused(Pasts::busy, "breaks(4, 0, -1)", y -> y.breaks(4, 0, -1), Due.BAD);
        e.refused(Pasts::busy, "breaks(4, 0, 41)", y -> y.breaks(4, 0, 41), Due.BAD);
        e.refused(Pasts::busy, "breaks(0, -1, 41)", y -> y.breaks(0, -1, 41), Due.BAD);
        e.refused(Pasts::busy, "breaks(8, -1, 1)", y -> y.breaks(8, -1, 1), Due.BAD);
        e.sentence("19 breaks: STATE: no TOWN (ahead of BAD)");
        e.refused(Pasts::noTown, "breaks(0, 0, 0)", y -> y.breaks(0, 0, 0), Due.STATE);
        e.refused(Pasts::noTown, "breaks(8, 0, 0)", y -> y.breaks(8, 0, 0), Due.STATE);
        e.refused(Pasts::noTown, "breaks(-1, 0, 41)", y -> y.breaks(-1, 0, 41), Due.STATE);
        e.refused(Pasts::noTown, "breaks(0, 0, -1)", y -> y.breaks(0, 0, -1), Due.STATE);
        e.sentence("19 breaks: STATE: no TOWN, ahead of NULL, PLACE");
        e.refused(Pasts::noTown, "breaks(5, 0, 1)", y -> y.breaks(5, 0, 1), Due.STATE);
        e.refused(Pasts::noTown, "breaks(0, 3, 1)", y -> y.breaks(0, 3, 1), Due.STATE);
        e.sentence("19 breaks: NULL");
        for (int row = 4; row < 8; row++) {
            int r = row;
            e.refused(Pasts::busy, "breaks(" + r + ", 0, 1)", y -> y.breaks(r, 0, 1), Due.NULL);
            e.refused(Pasts::busy, "breaks(" + r + ", 0, 0)", y -> y.breaks(r, 0, 0), Due.NULL);
        }
        e.sentence("19 breaks: NULL goes ahead of PLACE");
        e.refused(Pasts::busy, "breaks(4, -1, 1)", y -> y.breaks(4, -1, 1), Due.NULL);
        e.refused(Pasts::busy, "breaks(4, MAX, 40)", y -> y.breaks(4, MAX, 40), Due.NULL);
        e.sentence("19 breaks: PLACE");
        e.refusedOutside(Pasts::busy, 0, 2, "breaks(0, i, 1)", (y, i) -> y.breaks(0, i, 1), Due.PLACE);
        e.refusedOutside(Pasts::busy, 0, 3, "breaks(0, i, 0)", (y, i) -> y.breaks(0, i, 0), Due.PLACE);
        e.refusedOutside(Pasts::busy, 0, 0, "breaks(2, i, 40)", (y, i) -> y.breaks(2, i, 40), Due.PLACE);
        e.refused(Pasts::busy, "breaks(0, 0, 4)", y -> y.breaks(0, 0, 4), Due.PLACE);
        e.refused(Pasts::busy, "of an empty row", y -> y.breaks(3, 0, 1), Due.PLACE);
        e.refused(Pasts::busy, "a sum that wraps around", y -> y.breaks(2, MAX - 38, 40), Due.PLACE);
    }

    private static void breaksItems() {
        e.sentence("19 breaks: then BAD: an ITEM that is none");
        for (int item : new int[] {-1, 8, 9, 32, 256, 65536, MIN, MAX}) {
            e.refused(() -> withItems(2, item), "the only one " + item, y -> y.breaks(5, 0, 1), Due.BAD);
            e.refused(() -> withItems(2, 7, 7, item), "the last " + item, y -> y.breaks(5, 0, 3), Due.BAD);
            e.refused(() -> withItems(2, 5, 0, item), "behind the BREAK " + item, y -> y.breaks(5, 0, 3), Due.BAD);
        }
        e.refused(() -> withItems(0, 128), "a byte of 128", y -> y.breaks(5, 0, 1), Due.BAD);
        e.refused(() -> withItems(1, 32768), "a short of 32768", y -> y.breaks(5, 0, 1), Due.BAD);
        e.sentence("19 breaks: an ITEM that is not among the n is nothing to it");
        e.is("those between", withItems(2, 8, 7, 0, -1).breaks(5, 1, 2), Due.NONE);
        e.is("none of them", withItems(2, 8, -1).breaks(5, 1, 0), Due.NONE);
        e.sentence("19 breaks: PLACE goes ahead of an ITEM that is none");
        e.refused(() -> withItems(2, 8, -1), "breaks(5, 0, 3)", y -> y.breaks(5, 0, 3), Due.PLACE);
        e.refused(() -> withItems(2, 8, -1), "breaks(5, -1, 1)", y -> y.breaks(5, -1, 1), Due.PLACE);
    }

    private static String odds(EvePost x, int letter, int set) {
        return x.comes(letter, set, 0) + "/" + x.comes(letter, set, 1);
    }

    private static void comes() {
        e.sentence("20 comes: above (what = 0), below (1): the first LETTER and the last, the first set and the last");
        EvePost x = Due.with("true 0 0, lot 1 3");
        e.is("0, 0", odds(x, 0, 0), "7/10");
        e.is("3, 3", odds(x, 3, 3), "7/10");
        e.is("0, 2", odds(x, 0, 2), "3/10");
        e.is("3, 1", odds(x, 3, 1), "3/10");
        e.sentence("20 comes: BAD: a LETTER");
        e.refusedOutside(Pasts::busy, 0, 7, "comes(letter, 0, 0)", (y, letter) -> y.comes(letter, 0, 0), Due.BAD);
        e.sentence("20 comes: BAD: a set");
        e.refusedOutside(Pasts::busy, 0, 7, "comes(0, set, 1)", (y, set) -> y.comes(0, set, 1), Due.BAD);
        e.sentence("20 comes: BAD: no such number of what is asked");
        e.refusedOutside(Pasts::busy, 0, 1, "comes(0, 0, what)", (y, what) -> y.comes(0, 0, what), Due.BAD);
        e.sentence("20 comes: STATE: no TOWN (ahead of BAD)");
        e.refused(Pasts::noTown, "comes(0, 0, 0)", y -> y.comes(0, 0, 0), Due.STATE);
        e.refused(Pasts::noTown, "comes(-1, 0, 0)", y -> y.comes(-1, 0, 0), Due.STATE);
        e.refused(Pasts::noTown, "comes(0, 64, 1)", y -> y.comes(0, 64, 1), Due.STATE);
        e.refused(Pasts::noTown, "comes(0, 0, 2)", y -> y.comes(0, 0, 2), Due.STATE);
    }

    private static void comesLowest() {
        e.sentence("fractions, told as two numbers in lowest terms");
        for (int many = 0; many <= 9; many++) {
            EvePost x = Due.with("lot 0 " + many);
            String[] turns = {"0/1", "1/10", "1/5", "3/10", "2/5", "1/2", "3/5", "7/10", "4/5", "9/10", "1/1"};
            e.is("the other way, many " + many, odds(x, 0, 1), turns[many]);
            e.is("as by a true one, many " + many, odds(x, 0, 0), turns[10 - many]);
        }
        e.is("five of two", odds(Due.with("lot 0 5, lot 0 5"), 0, 0), "1/4");
        e.is("two and five", odds(Due.with("lot 0 2, lot 0 5"), 0, 3), "1/10");
        e.is("four and five", odds(Due.with("lot 0 4, lot 0 5"), 0, 3), "1/5");
        e.sentence("fractions .. (0 is 0 by 1)");
        e.is("of one", odds(Due.with("true 0 0"), 0, 1), "0/1");
        e.is("of six", odds(Due.with(Pasts.SIX), 63, 62), "0/1");
        e.is("of six by lot, one of whom never turns", odds(Due.with("lot 0 9, lot 0 9, lot 0 9, lot 0 9, lot 0 9, lot 0 0"), 0, 63), "0/1");
        e.sentence("20 comes: sure: 1 by 1");
        e.is("of one", odds(Due.with("true 0 0"), 1, 1), "1/1");
        e.is("of six", odds(Due.with(Pasts.SIX), 42, 42), "1/1");
        e.sentence("such odds apart from one another: six of them, with the largest numbers that there are");
        EvePost y = Due.with("lot 0 9, lot 0 9, lot 0 9, lot 0 9, lot 0 9, lot 0 9");
        int[] above = {1, 9, 81, 729, 6561, 59049, 531441};
        for (int set = 0; set < 64; set++) {
            e.is("set " + set, odds(y, 0, set), above[Integer.bitCount(set)] + "/1000000");
            e.is("set " + set, odds(y, 63, set), above[6 - Integer.bitCount(set)] + "/1000000");
        }
        e.sentence("20 comes: by a LETTER, as all was the day before; only those by lot have odds");
        EvePost z = Due.with("moody 0 5, crowd 0 1, cross 0 9, lot 0 1");
        e.is("day 0", odds(z, 0, 5), "9/10");
        e.is("day 0", odds(z, 0, 13), "1/10");
        z.lots(0, 1);
        e.is("day 1", odds(z, 0, 4), "9/10");
        e.is("day 1", odds(z, 0, 5), "0/1");
    }

    private static void likeliest() {
        e.sentence("21 likeliest: the LETTER whose odds to AGREE are greatest");
        e.is("the last", Due.with("crowd 0 0, crowd 0 0, crowd 0 0, crowd 0 0, crowd 0 0, lot 0 4").likeliest(), 63);
        e.is("without the last one", Due.with("crowd 0 0, crowd 0 0, crowd 0 0, crowd 0 0, crowd 0 0, lot 0 6").likeliest(), 31);
        e.is("by odds, not by AGREEING", Due.with("lot 0 0, lot 0 9").likeliest(), 1);
        e.is("a small difference", Due.with("true 0 0, lot 0 4, lot 0 4, lot 0 4, lot 0 4, lot 0 4").likeliest(), 0);
        e.is("a greater one behind", Due.with("lot 0 6, lot 0 4").likeliest(), 0);
        e.sentence("21 likeliest: of several the least");
        e.is("all alike", Due.with(Pasts.SIX).likeliest(), 0);
        e.is("two alike", Due.with("lot 0 5").likeliest(), 0);
        e.is("the two turned ones", Due.with("lot 1 9, lot 0 9").likeliest(), 1);
        e.sentence("21 likeliest: of several the least: none that can AGREE");
        e.is("of a cross one", Due.with(CROSS).likeliest(), 0);
        e.is("of six cross ones", Due.with("cross 0 0, cross 1 0, cross 2 0, cross 3 0, cross 4 0, cross 5 0").likeliest(), 0);
        e.sentence("21 likeliest: STATE: no TOWN");
        e.refused(Pasts::noTown, "likeliest()", EvePost::likeliest, Due.STATE);
    }

    private static void lost() {
        e.sentence("22 lost: all LETTERS by which just those of a set have DONE it now: how many (what = 0), the least (1)");
        EvePost x = Due.with("true 1 0, true 1 0");
        e.is("the first set", x.lost(0, 0) + " " + x.lost(0, 1), "2 0");
        e.is("the last set", x.lost(3, 0) + " " + x.lost(3, 1), "2 2");
        EvePost six = Due.with(Pasts.SIX);
        e.is("of six, the first", six.lost(0, 0) + " " + six.lost(0, 1), "1 0");
        e.is("of six, the last", six.lost(63, 0) + " " + six.lost(63, 1), "1 63");
        EvePost all = Due.with("crowd 0 0, crowd 0 0, crowd 0 0, crowd 0 0, crowd 0 0, crowd 0 0");
        e.is("every LETTER", all.lost(63, 0) + " " + all.lost(63, 1), "64 0");
        e.sentence("22 lost: NONE");
        e.is("one of the two", x.lost(1, 0) + " " + x.lost(1, 1), "0 " + Due.NONE);
        e.is("all but the last", all.lost(62, 0) + " " + all.lost(62, 1), "0 " + Due.NONE);
        e.sentence("22 lost: BAD: a set");
        e.refusedOutside(Pasts::busy, 0, 7, "lost(set, 0)", (y, set) -> y.lost(set, 0), Due.BAD);
        e.refusedOutside(Pasts::busy, 0, 7, "lost(set, 1)", (y, set) -> y.lost(set, 1), Due.BAD);
        e.sentence("22 lost: BAD: no such number of what is asked");
        e.refusedOutside(Pasts::busy, 0, 1, "lost(0, what)", (y, what) -> y.lost(0, what), Due.BAD);
        e.sentence("22 lost: STATE: no TOWN (ahead of BAD)");
        e.refused(Pasts::noTown, "lost(0, 0)", y -> y.lost(0, 0), Due.STATE);
        e.refused(Pasts::noTown, "lost(-1, 0)", y -> y.lost(-1, 0), Due.STATE);
        e.refused(Pasts::noTown, "lost(64, 1)", y -> y.lost(64, 1), Due.STATE);
        e.refused(Pasts::noTown, "lost(0, 2)", y -> y.lost(0, 2), Due.STATE);
    }

    private static void readBy() {
        e.sentence("23 readBy: READ by a set of PEOPLE alone, all others doing what they did the day before: how many (what = 0), the least (1)");
        EvePost x = Due.with("cross 0 0, true 1 0, cross 1 0");
        x.lots(0, 1);
        e.is("they did", x.count(3), 5);
        e.is("by nobody", x.readBy(0, 0) + " " + x.readBy(0, 1), "1 5");
        e.is("by the second", x.readBy(2, 0) + " " + x.readBy(2, 1), "2 5");
        e.is("by the last two", x.readBy(6, 0) + " " + x.readBy(6, 1), "2 3");
        EvePost six = Due.with(Pasts.SIX);
        six.post(42);
        e.is("of six, by all", six.readBy(63, 0) + " " + six.readBy(63, 1), "64 0");
        e.is("of six, by nobody", six.readBy(0, 0) + " " + six.readBy(0, 1), "1 42");
        e.is("of six, by the last", six.readBy(32, 0) + " " + six.readBy(32, 1), "2 10");
        e.sentence("23 readBy: NONE");
        e.is("by the cross one", x.readBy(1, 0) + " " + x.readBy(1, 1), "0 " + Due.NONE);
        e.is("by all", x.readBy(7, 0) + " " + x.readBy(7, 1), "0 " + Due.NONE);
        e.sentence("23 readBy: BAD: a set");
        e.refusedOutside(Pasts::busy, 0, 7, "readBy(set, 0)", (y, set) -> y.readBy(set, 0), Due.BAD);
        e.refusedOutside(Pasts::busy, 0, 7, "readBy(set, 1)", (y, set) -> y.readBy(set, 1), Due.BAD);
        e.sentence("23 readBy: BAD: no such number of what is asked");
        e.refusedOutside(Pasts::busy, 0, 1, "readBy(0, what)", (y, what) -> y.readBy(0, what), Due.BAD);
        e.sentence("23 readBy: STATE: no TOWN (ahead of BAD)");
        e.refused(Pasts::noTown, "readBy(0, 0)", y -> y.readBy(0, 0), Due.STATE);
        e.refused(Pasts::noTown, "readBy(-1, 0)", y -> y.readBy(-1, 0), Due.STATE);
        e.refused(Pasts::noTown, "readBy(64, 1)", y -> y.readBy(64, 1), Due.STATE);
        e.refused(Pasts::noTown, "readBy(0, 2)", y -> y.readBy(0, 2), Due.STATE);
    }

    /** The answers are those of the busy town; that they are no refusals is no reason to change anything. */
    private static void nothingChanges() {
        e.sentence("FORETOLD (nothing changes)");
        e.refused(Pasts::busy, "agreeing(-1)", x -> x.agreeing(-1), 8);
        e.refused(Pasts::busy, "agreeing(7)", x -> x.agreeing(7), 7);
        e.refused(Pasts::busy, "fullest()", EvePost::fullest, 7);
        e.refused(Pasts::busy, "culprits(0)", x -> x.culprits(0), 7);
        e.refused(Pasts::busy, "culprits(1)", x -> x.culprits(1), 0);
        e.refused(Pasts::busy, "chains(5, -1)", x -> x.chains(5, -1), 8 * 4 * 4 * 4 * 4);
        e.refused(Pasts::busy, "chains(5, 0)", x -> x.chains(5, 0), 2);
        e.refused(Pasts::busy, "chains(5, 4)", x -> x.chains(5, 4), 0);
        e.refused(Pasts::busy, "comes(7, 7, 0)", x -> x.comes(7, 7, 0), 1);
        e.refused(Pasts::busy, "comes(7, 7, 1)", x -> x.comes(7, 7, 1), 2);
        e.refused(Pasts::busy, "likeliest()", EvePost::likeliest, 0);
        e.refused(Pasts::busy, "lost(7, 1)", x -> x.lost(7, 1), 7);
        e.refused(Pasts::busy, "readBy(1, 0)", x -> x.readBy(1, 0), 2);
        e.refused(Pasts::busy, "readBy(1, 1)", x -> x.readBy(1, 1), 6);
        e.refused(Pasts::busy, "done(3)", x -> x.done(3), 3);
    }

    /** Every letter of the town before agreed; what is foretold of the smaller one is as if it were the first. */
    private static void afterLarger() {
        e.sentence("A TOWN that is read stands in place of the one before: no LETTER of it is left");
        String[] towns = {"true 0 0", CROSS, "true 1 0, true 0 0", "true 1 0, cross 0 0, moody 2 0", IN_IT, "moody 0 0, lot 0 9"};
        for (String town : towns) {
            EvePost x = Due.with(Pasts.SIX);
            Due.town(x, Due.text(town));
            e.is(town, foretold(x), foretold(Due.with(town)));
            x.image(0);
            Due.town(x, Due.text(Pasts.SIX));
            x.restore(0);
            e.is(town + ", by an image", foretold(x), foretold(Due.with(town)));
        }
    }

    private static String foretold(EvePost x) {
        StringBuilder all = new StringBuilder();
        int last = (1 << x.count(1)) - 1;
        for (int i = -1; i <= last + 1; i++) {
            all.append(" a ").append(x.agreeing(i));
        }
        all.append(" f ").append(x.fullest()).append(" c ").append(x.culprits(0)).append(' ').append(x.culprits(1));
        for (int n = 1; n <= 5; n++) {
            all.append(" n ").append(x.chains(n, -1)).append(' ').append(x.chains(n, 0)).append(' ').append(x.chains(n, n - 1));
        }
        all.append(" l ").append(x.likeliest());
        for (int set = 0; set <= last; set++) {
            all.append(" s ").append(x.lost(set, 0)).append(' ').append(x.lost(set, 1));
            all.append(' ').append(x.readBy(set, 0)).append(' ').append(x.readBy(set, 1));
        }
        return all.toString();
    }

    private static void image() {
        e.sentence("24 image: An IMAGE (0, 1) is kept of the TOWN: 1");
        EvePost x = Pasts.busy();
        e.is("image(1)", x.image(1), 1);
        e.is("image(0), in place of the one before", x.image(0), 1);
        e.is("counts stay", Due.counts(x), "4 3 3 7 3 16");
        e.is("status() stays", x.status(), 3);
        x.post(5);
        Due.town(x, ";");
        for (int k = 0; k < 2; k++) {
            e.is("restore(" + k + ")", x.restore(k), 1);
            e.is("it is as it was kept", Due.counts(x), "4 3 3 7 0 0");
        }
        e.sentence("24 image: BAD");
        e.refusedOutside(Pasts::busy, 0, 1, "image(k)", EvePost::image, Due.BAD);
        e.sentence("24 image: STATE: no TOWN");
        e.refused(Pasts::noTown, "image(0)", y -> y.image(0), Due.STATE);
        e.refused(Pasts::noTown, "image(1)", y -> y.image(1), Due.STATE);
        e.sentence("24 image: BAD goes ahead of STATE");
        e.refusedOutside(Pasts::noTown, 0, 1, "image(k)", EvePost::image, Due.BAD);
    }

    private static void restore() {
        e.sentence("25 restore: The TOWN is as an IMAGE kept it: 1");
        EvePost x = Pasts.busy();
        e.is("restore(0)", x.restore(0), 1);
        e.is("people, day, who had done it; rows, tape stay", Due.counts(x), "4 2 1 3 0 16");
        e.is("the first", x.kind(0) + " " + x.person(0, 0) + " " + x.person(0, 1) + " " + x.person(0, 2), "5 1 2 1");
        e.is("the second", x.kind(1) + " " + x.person(1, 0) + " " + x.person(1, 1) + " " + x.person(1, 2), "2 5 1 1");
        e.is("there is no third", x.kind(2) + " " + x.done(4), Due.BAD + " " + Due.BAD);
        e.is("what they do", x.done(0) + " " + x.done(1) + " " + x.done(2), "2 2 3");
        e.is("fault(), status() stay", x.fault() + " " + x.status(), "2 3");
        e.is("the trace stays", Due.traceOf(x), "14 13 10");
        e.sentence("25 restore: (no ACT can be undone then)");
        e.is("undo()", x.undo(), Due.STATE);
        x.lots(0, 1);
        e.is("but one made then", x.count(4) + " " + x.undo() + " " + x.count(2), "1 0 1");
        e.sentence("25 restore: as an IMAGE kept it: again, whatever came after");
        x.lots(0, 1);
        x.lots(1, 1);
        e.is("restore(0)", x.restore(0), 1);
        e.is("counts", Due.counts(x), "4 2 1 3 0 16");
        e.sentence("25 restore: BAD");
        e.refusedOutside(Pasts::busy, 0, 1, "restore(k)", EvePost::restore, Due.BAD);
        e.sentence("25 restore: STATE: none was kept");
        e.refused(Pasts::busy, "restore(1)", y -> y.restore(1), Due.STATE);
        e.refused(Pasts::noTown, "restore(0)", y -> y.restore(0), Due.STATE);
        e.refused(Pasts::noTown, "restore(1)", y -> y.restore(1), Due.STATE);
        EvePost one = Due.with("true 0 0");
        one.image(1);
        e.is("the other one was", one.restore(0) + " " + one.restore(1), Due.STATE + " 1");
        e.sentence("25 restore: BAD goes ahead of STATE");
        e.refusedOutside(Pasts::noTown, 0, 1, "restore(k)", EvePost::restore, Due.BAD);
    }
}
