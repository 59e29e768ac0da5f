/** Promises 15 to 23: what is foretold, by towns small enough to be worked out by hand. */
public final class ForetoldTest {
    public static void main(String[] args) {
        Due due = new Due("ForetoldTest");
        agreeing(due);
        fullest(due);
        culprits(due);
        stoppers(due);
        chains(due);
        breaks(due);
        comes(due);
        likeliest(due);
        lost(due);
        readBy(due);
        nothingChanges(due);
        due.end();
    }

    private static void agreeing(Due due) {
        EvePost x = Due.with("true 1 0, true 0 0, true 2 0");
        due.is("how many", x.agreeing(-1), 4);
        due.is("0-th", x.agreeing(0), 0);
        due.is("1st", x.agreeing(1), 3);
        due.is("2nd", x.agreeing(2), 4);
        due.is("3rd", x.agreeing(3), 7);
        due.is("not so many", x.agreeing(4), Due.NONE);
        due.is("MAX", x.agreeing(Integer.MAX_VALUE), Due.NONE);
        due.is("-2", x.agreeing(-2), Due.BAD);
        EvePost y = Due.with("cross 0 0");
        due.is("none agrees", y.agreeing(-1), 0);
        due.is("the least of none", y.agreeing(0), Due.NONE);
        EvePost z = Due.with("moody 0 0");
        due.is("not when he did not", z.agreeing(-1), 0);
        z.lots(0, 1);
        due.is("both when he did", z.agreeing(-1), 2);
    }

    private static void fullest(Due due) {
        due.is("all", Due.with("true 0 0, true 1 0").fullest(), 3);
        due.is("none", Due.with("cross 0 0").fullest(), Due.NONE);
        due.is("nobody in it", Due.with("true 5 0").fullest(), 0);
        due.is("of two the least", Due.with("cross 1 0, cross 0 0").fullest(), 1);
        due.is("more people, not the greater number", Due.with("true 1 0, true 0 0, cross 0 0").fullest(), 3);
    }

    private static void culprits(Due due) {
        due.is("a ring of three, one cross", Due.with("true 1 0, true 2 0, cross 0 0, crowd 0 3").culprits(0), 7);
        due.is("he alone", Due.with("cross 0 0, true 1 0").culprits(0), 1);
        due.is("all, if some letter agrees", Due.with("true 0 0, cross 1 0").culprits(0), 2);
        due.is("all, if some letter agrees", Due.with("true 0 0, cross 0 0").culprits(0), 3);
        due.is("two who each make it so", Due.with("cross 0 0, cross 1 0").culprits(0), 0);
        EvePost x = Due.with("moody 0 0, cross 1 0");
        due.is("by the day before: not he alone", x.culprits(0), 0);
        x.lots(0, 1);
        due.is("by the day before: he alone", x.culprits(0), 2);
        due.is("2", x.culprits(2), Due.BAD);
        due.is("-1", x.culprits(-1), Due.BAD);
    }

    private static void stoppers(Due due) {
        due.is("nobody", Due.with("true 0 0, true 1 0").culprits(1), 0);
        due.is("who cannot help it", Due.with("cross 0 0, true 1 0").culprits(1), 2);
        due.is("all", Due.with("cross 0 0, cross 1 0").culprits(1), 3);
        EvePost x = Due.with("true 1 0, crowd 0 3, lot 3 4, cross 1 0");
        due.is("one agrees", x.agreeing(-1), 1);
        due.is("that", x.agreeing(0), 12);
        due.is("all could have one agree", x.culprits(0), 15);
        due.is("the first, if he did it whatever the letter, could have none", x.culprits(1), 1);
        EvePost y = Due.with("true 3 0, crowd 0 2, moody 3 0, cross 1 0");
        due.is("one agrees", y.agreeing(-1), 1);
        due.is("the third, if he did not whatever the letter, could have none", y.culprits(1), 4);
    }

    private static void chains(Due due) {
        EvePost x = Due.with("moody 0 0");
        due.is("none", x.chains(1, -1), 0);
        due.is("no letter", x.chains(1, 0), Due.NONE);
        x.lots(0, 1);
        due.is("one day", x.chains(1, -1), 2);
        due.is("its letter", x.chains(1, 0), 0);
        due.is("five days", x.chains(5, -1), 2);
        for (int k = 0; k < 5; k++) {
            due.is("letter " + k, x.chains(5, k), k < 4 ? 1 : 0);
        }
        due.is("not so many days", x.chains(5, 5), Due.NONE);
        due.is("not so many days", x.chains(2, Integer.MAX_VALUE), Due.NONE);
        due.is("0 days", x.chains(0, -1), Due.BAD);
        due.is("6 days", x.chains(6, -1), Due.BAD);
        due.is("k -2", x.chains(1, -2), Due.BAD);
        EvePost y = Due.with("true 0 0, true 1 0, true 2 0, true 3 0, true 4 0, true 5 0");
        due.is("all letters, five days", y.chains(5, -1), 1 << 30);
        due.is("all letters, four days", y.chains(4, -1), 1 << 24);
        EvePost z = Due.with("cross 5 0, true 5 0");
        due.is("one row alone", z.chains(3, -1), 1);
        due.is("its last letter", z.chains(3, 2), 1);
    }

    private static void breaks(Due due) {
        EvePost x = Due.with("moody 0 0");
        x.lots(0, 1);
        x.row(0, 0, 4);
        x.set(0, 1, 1);
        due.is("0 1: no longer, he did not", x.breaks(0, 0, 2), 1);
        due.is("0", x.breaks(0, 0, 1), Due.NONE);
        due.is("1 0 0", x.breaks(0, 1, 3), 2);
        due.is("1 0", x.breaks(0, 1, 2), Due.NONE);
        due.is("of none", x.breaks(0, 0, 0), Due.NONE);
        due.is("of none, at the end", x.breaks(0, 4, 0), Due.NONE);
        due.is("its number", x.status(), 0);
        due.is("behind the end", x.breaks(0, 5, 0), Due.PLACE);
        due.is("its number", x.status(), 2);
        due.is("ahead of the row", x.breaks(0, -1, 1), Due.PLACE);
        due.is("beyond the end", x.breaks(0, 1, 4), Due.PLACE);
        due.is("far beyond the end", x.breaks(0, Integer.MAX_VALUE, 1), Due.PLACE);
        due.is("missing", x.breaks(1, 0, 0), Due.NULL);
        due.is("no such row", x.breaks(8, 0, 0), Due.BAD);
        due.is("its number is that ahead", x.status(), 1);
        due.is("n -1", x.breaks(0, 0, -1), Due.BAD);
        due.is("n 41", x.breaks(0, 0, 41), Due.BAD);
        x.set(0, 3, 2);
        due.is("no letter, behind the break", x.breaks(0, 0, 4), Due.BAD);
        x.breaks(1, 0, 0);
        due.is("ahead of it", x.breaks(0, 0, 3), 1);
        due.is("a break is no finding", x.status(), 0);
        x.breaks(1, 0, 0);
        due.is("missing", x.status(), 1);
        x.breaks(0, 0, 1);
        due.is("none, as it all agrees", x.status(), 0);
        x.row(2, 2, 40);
        due.is("40, the second breaks", x.breaks(2, 0, 40), 1);
        due.is("nothing changed", x.count(2), 1);
    }

    private static String odds(EvePost x, int letter, int set) {
        return x.comes(letter, set, 0) + "/" + x.comes(letter, set, 1);
    }

    private static void comes(Due due) {
        EvePost x = Due.with("lot 0 4, lot 1 5, cross 1 0");
        due.is("both as told", odds(x, 3, 3), "3/10");
        due.is("both the other way", odds(x, 3, 0), "1/5");
        due.is("the third does what he does", odds(x, 3, 7), "0/1");
        due.is("the third does what he does", odds(x, 0, 4), "3/10");
        EvePost y = Due.with("lot 0 9, lot 0 9, lot 0 9, lot 0 9, lot 0 9, lot 0 9");
        due.is("none turns", odds(y, 0, 0), "1/1000000");
        due.is("all turn", odds(y, 0, 63), "531441/1000000");
        due.is("all but one turn", odds(y, 63, 1), "59049/1000000");
        due.is("never turned", odds(Due.with("lot 0 0"), 0, 0), "1/1");
        due.is("never turned", odds(Due.with("lot 0 0"), 0, 1), "0/1");
        EvePost z = Due.with("moody 0 0, lot 0 2");
        due.is("by the day before", odds(z, 0, 1), "4/5");
        z.lots(0, 1);
        due.is("by the day before", odds(z, 0, 1), "0/1");
        due.is("a letter", x.comes(8, 0, 0), Due.BAD);
        due.is("a letter", x.comes(-1, 0, 0), Due.BAD);
        due.is("a set", x.comes(0, 8, 0), Due.BAD);
        due.is("a set", x.comes(0, -1, 0), Due.BAD);
        due.is("what 2", x.comes(0, 0, 2), Due.BAD);
        due.is("what -1", x.comes(0, 0, -1), Due.BAD);
    }

    private static void likeliest(Due due) {
        due.is("of several the least", Due.with("true 0 0, true 1 0").likeliest(), 0);
        due.is("none can agree", Due.with("cross 0 0").likeliest(), 0);
        due.is("they turn more often than not", Due.with("lot 1 9, lot 0 9").likeliest(), 1);
        due.is("by odds, not by agreeing", Due.with("lot 0 0, lot 0 9").likeliest(), 1);
        due.is("as likely one way as the other", Due.with("lot 0 5").likeliest(), 0);
        due.is("the one that agrees", Due.with("cross 5 0, lot 0 1").likeliest(), 3);
    }

    private static void lost(Due due) {
        EvePost x = Due.with("true 1 0, true 1 0");
        due.is("both did: how many", x.lost(3, 0), 2);
        due.is("both did: the least", x.lost(3, 1), 2);
        due.is("nobody did: how many", x.lost(0, 0), 2);
        due.is("nobody did: the least", x.lost(0, 1), 0);
        due.is("one did: how many", x.lost(1, 0), 0);
        due.is("one did: the least", x.lost(1, 1), Due.NONE);
        due.is("set 4", x.lost(4, 0), Due.BAD);
        due.is("set -1", x.lost(-1, 0), Due.BAD);
        due.is("what 2", x.lost(0, 2), Due.BAD);
        due.is("what -1", x.lost(0, -1), Due.BAD);
        EvePost y = Due.with("moody 0 0");
        due.is("by the day before", y.lost(1, 1), 0);
        y.lots(0, 1);
        due.is("by the day before", y.lost(1, 1), 1);
    }

    private static void readBy(Due due) {
        EvePost x = Due.with("cross 0 0, true 1 0, cross 1 0");
        due.is("by all: how many", x.readBy(7, 0), 0);
        due.is("by all: the least", x.readBy(7, 1), Due.NONE);
        due.is("by none: how many", x.readBy(0, 0), 1);
        due.is("by none: the least", x.readBy(0, 1), 0);
        due.is("by the last two: how many", x.readBy(6, 0), 2);
        due.is("by the last two: the least", x.readBy(6, 1), 2);
        x.lots(0, 1);
        due.is("they did", x.count(3), 5);
        due.is("by none: how many", x.readBy(0, 0), 1);
        due.is("by none: what they did", x.readBy(0, 1), 5);
        due.is("by the middle one: how many", x.readBy(2, 0), 2);
        due.is("by the middle one: the least", x.readBy(2, 1), 5);
        due.is("set 8", x.readBy(8, 0), Due.BAD);
        due.is("set -1", x.readBy(-1, 0), Due.BAD);
        due.is("what 2", x.readBy(0, 2), Due.BAD);
        due.is("what -1", x.readBy(0, -1), Due.BAD);
    }

    private static void nothingChanges(Due due) {
        EvePost x = Due.with("true 1 0, true 0 0, lot 2 5");
        x.post(3);
        x.set(0, 0, 0);
        x.agreeing(-1);
        x.fullest();
        x.culprits(0);
        x.culprits(1);
        x.chains(5, 4);
        x.comes(0, 0, 0);
        x.likeliest();
        x.lost(0, 0);
        x.readBy(7, 0);
        due.is("counts", Due.counts(x), "0 3 1 3 1 0");
        due.is("status()", x.status(), 1);
    }
}
