/** Promises 9 to 14, 24, 25 and 30: what people do, days that go by, are undone, and come back from images. */
public final class DaysTest {
    public static void main(String[] args) {
        Due due = new Due("DaysTest");
        outcomes(due);
        moods(due);
        post(due);
        posts(due);
        postsRefused(due);
        lots(due);
        undo(due);
        mostDays(due);
        persons(due);
        images(due);
        counts(due);
        due.end();
    }

    private static void outcomes(Due due) {
        EvePost x = Due.with("true 1 0, cross 1 0, crowd 5 2, lot 0 9");
        due.is("nobody", x.done(0), 0b0010);
        due.is("0", x.done(0b0001), 0b1010);
        due.is("1", x.done(0b0010), 0b0001);
        due.is("0, 1", x.done(0b0011), 0b1101);
        due.is("2, 3", x.done(0b1100), 0b0110);
        due.is("all", x.done(0b1111), 0b1101);
        due.is("one more than all", x.done(16), Due.BAD);
        due.is("-1", x.done(-1), Due.BAD);
        due.is("whom nobody is: true, cross, lot", Due.with("true 5 0, cross 5 0, lot 5 0").done(7), 0b010);
        due.is("a crowd of none", Due.with("crowd 0 0").done(0), 1);
        due.is("a crowd that there cannot be", Due.with("crowd 0 2").done(1), 0);
    }

    private static void moods(Due due) {
        EvePost x = Due.with("true 0 0, moody 0 0");
        due.is("neither", x.done(0), 0b10);
        due.is("in it alone", x.done(1), 0b01);
        due.is("lots", x.lots(0, 1), 0b10);
        due.is("he had done it, whom is not in it", x.done(0), 0b00);
        due.is("he had done it, whom is in it", x.done(1), 0b11);
        x.undo();
        x.lots(1, 1);
        due.is("whom had done it, not he: that is nothing to him", x.done(1), 0b01);
        EvePost y = Due.with("moody 5 0");
        due.is("nobody is not in it", y.done(1), 1);
        y.lots(1, 1);
        due.is("nobody is not in it, he had done it", y.done(1), 0);
    }

    private static void post(Due due) {
        EvePost x = Due.with("true 1 0, true 0 0");
        due.is("post(3)", x.post(3), 1);
        due.is("it was done", x.count(3), 3);
        due.is("post(1) does not agree", x.post(1), Due.STATE);
        due.is("post(4)", x.post(4), Due.BAD);
        due.is("post(-1)", x.post(-1), Due.BAD);
        due.is("nothing changed", Due.counts(x), "0 2 1 3 1 0");
        due.is("post(0)", x.post(0), 2);
        due.is("counts", Due.counts(x), "0 2 2 0 2 0");
        due.is("post is no call with a row", x.status(), 0);
    }

    private static void posts(Due due) {
        EvePost x = Due.with("true 1 0, true 0 0");
        x.row(0, 2, 6);
        x.set(0, 1, 3);
        x.set(0, 3, 3);
        x.set(0, 4, 1);
        due.is("0 3 0 3 | 1 0: four agree", x.posts(0, 0, 6), 4);
        due.is("an act each", Due.counts(x), "1 2 4 3 4 0");
        due.is("none agrees", x.posts(0, 4, 2), 0);
        due.is("nothing changed", Due.counts(x), "1 2 4 3 4 0");
        due.is("the last", x.posts(0, 5, 1), 1);
        due.is("undo()", x.undo(), 4);
        due.is("undo()", x.undo(), 3);
        due.is("the third day again", Due.counts(x), "1 2 3 0 3 0");
        EvePost y = Due.with("moody 0 0");
        y.lots(0, 1);
        y.row(0, 0, 3);
        y.set(0, 0, 1);
        due.is("each by the day before it: 1 0 agree, not 0 once more", y.posts(0, 0, 3), 2);
    }

    private static void postsRefused(Due due) {
        EvePost x = Due.with("true 1 0, true 0 0");
        due.is("no such row", x.posts(8, 0, 1), Due.BAD);
        due.is("none", x.posts(0, 0, 0), Due.BAD);
        due.is("25", x.posts(0, 0, 25), Due.BAD);
        due.is("missing", x.posts(0, 0, 1), Due.NULL);
        due.is("its number", x.status(), 1);
        x.row(0, 2, 40);
        due.is("24", x.posts(0, 16, 24), 24);
        due.is("its number", x.status(), 0);
        due.is("beyond its end", x.posts(0, 17, 24), Due.PLACE);
        due.is("its number", x.status(), 2);
        due.is("behind its end", x.posts(0, 40, 1), Due.PLACE);
        due.is("ahead of it", x.posts(0, -1, 1), Due.PLACE);
        due.is("far behind its end", x.posts(0, Integer.MAX_VALUE, 2), Due.PLACE);
        x.set(0, 1, 1);
        x.set(0, 2, 4);
        due.is("no letter, behind one that does not agree", x.posts(0, 0, 3), Due.BAD);
        due.is("nothing was posted", x.count(2), 24);
        due.is("its number is that of set", x.status(), 0);
        due.is("beyond an end goes ahead of no letter", x.posts(0, 2, 24) + x.posts(0, 39, 2), Due.BAD + Due.PLACE);
        due.is("up to it", x.posts(0, 0, 2), 1);
        due.is("that had no finding", x.status(), 0);
        x.set(0, 2, -1);
        due.is("less than no letter", x.posts(0, 2, 1), Due.BAD);
    }

    /** By seed 1 the lots end in 7, 9, 3, 8, 0, 2. */
    private static void lots(Due due) {
        EvePost x = Due.with("lot 0 8, lot 0 9, lot 0 4, lot 0 8, lot 0 1, lot 0 2");
        due.is("lots(0, 1)", x.lots(0, 1), 0b010101);
        due.is("counts", Due.counts(x), "0 6 1 21 1 0");
        due.is("lots(1, 1)", x.lots(1, 1), 0b101010);
        due.is("done(0) is not by lot", x.done(0), 0);
        due.is("lots(64, 1)", x.lots(64, 1), Due.BAD);
        due.is("lots(-1, 1)", x.lots(-1, 1), Due.BAD);
        due.is("lots(0, 0)", x.lots(0, 0), Due.BAD);
        due.is("lots(0, 1000000)", x.lots(0, 1000000), Due.BAD);
        due.is("lots(0, -1)", x.lots(0, -1), Due.BAD);
        due.is("nothing changed", Due.counts(x), "0 6 2 42 2 0");
        due.is("undo()", x.undo(), 1);
        due.is("counts", Due.counts(x), "0 6 1 21 1 0");
        EvePost y = Due.with("cross 5 9, lot 0 8, true 5 9, lot 0 9, lot 0 4");
        due.is("only those by lot draw", y.lots(0, 1), 0b10011);
        due.is("lots(0, 999999)", y.lots(0, 999999), byHand(999999));
    }

    /** Those of the town above, by long arithmetic. */
    private static int byHand(long seed) {
        int[] many = {8, 9, 4};
        int[] bits = {2, 8, 16};
        int doers = 1;
        long x = seed;
        for (int i = 0; i < 3; i++) {
            x = x * 16807L % 2147483647L;
            doers |= x % 10 < many[i] ? bits[i] : 0;
        }
        return doers;
    }

    private static void undo(Due due) {
        EvePost x = Due.with("true 0 0, true 1 0");
        for (int day = 1; day <= 30; day++) {
            due.is("post", x.post(day % 4), day);
            due.is("acts", x.count(4), Math.min(day, 24));
        }
        for (int left = 23; left >= 0; left--) {
            due.is("undo()", x.undo(), left);
            due.is("the day", x.count(2), 6 + left);
            due.is("who had done it", x.count(3), (6 + left) % 4);
        }
        due.is("no more", x.undo(), Due.STATE);
        due.is("counts", Due.counts(x), "0 2 6 2 0 0");
        due.is("on from there", x.post(1), 7);
        due.is("undo()", x.undo(), 0);
    }

    private static void mostDays(Due due) {
        EvePost x = Due.with("true 1 0, true 0 0");
        x.row(0, 0, 24);
        for (int k = 0; k < 416; k++) {
            x.posts(0, 0, 24);
        }
        due.is("416 times 24", x.count(2), 9984);
        due.is("16 more might be too many", x.posts(0, 0, 16), Due.FULL);
        x.set(0, 1, 1);
        due.is("even if they would not agree", x.posts(0, 1, 16), Due.FULL);
        x.set(0, 1, 4);
        due.is("no letter goes ahead of FULL", x.posts(0, 1, 16), Due.BAD);
        x.set(0, 1, 0);
        due.is("15 more", x.posts(0, 0, 15), 15);
        due.is("post(0)", x.post(0), Due.FULL);
        due.is("post(1) does not agree", x.post(1), Due.STATE);
        due.is("post(4)", x.post(4), Due.BAD);
        due.is("posts of one", x.posts(0, 0, 1), Due.FULL);
        due.is("FULL is no finding", x.status(), 0);
        due.is("lots(0, 1)", x.lots(0, 1), Due.FULL);
        due.is("lots(4, 1)", x.lots(4, 1), Due.BAD);
        due.is("undo()", x.undo(), 23);
        due.is("lots(3, 1)", x.lots(3, 1), 3);
        due.is("counts", Due.counts(x), "1 2 9999 3 24 0");
        x.undo();
        due.is("post(3)", x.post(3), 9999);
    }

    private static void persons(Due due) {
        EvePost x = Due.with("true 5 9, moody 3 0");
        x.lots(0, 1);
        due.is("who had done it", x.count(3), 2);
        due.is("person(0, 0)", x.person(0, 0), 5);
        due.is("person(0, 1)", x.person(0, 1), 9);
        due.is("person(0, 2)", x.person(0, 2), 0);
        due.is("person(1, 0)", x.person(1, 0), 3);
        due.is("person(1, 1)", x.person(1, 1), 0);
        due.is("person(1, 2)", x.person(1, 2), 1);
        due.is("person(2, 0)", x.person(2, 0), Due.BAD);
        due.is("person(-1, 0)", x.person(-1, 0), Due.BAD);
        due.is("person(0, 3)", x.person(0, 3), Due.BAD);
        due.is("person(0, -1)", x.person(0, -1), Due.BAD);
    }

    private static void images(Due due) {
        EvePost x = Due.with("true 0 0, moody 0 7");
        x.lots(1, 1);
        due.is("image(0)", x.image(0), 1);
        due.is("image(2)", x.image(2), Due.BAD);
        due.is("image(-1)", x.image(-1), Due.BAD);
        due.is("restore(1) of none", x.restore(1), Due.STATE);
        x.lots(0, 1);
        x.row(5, 1, 1);
        due.is("ahead", Due.counts(x), "1 2 2 2 2 0");
        Due.town(x, Due.text("cross 0 0"));
        due.is("image(1)", x.image(1), 1);
        x.lots(0, 1);
        x.feed(0, 3);
        due.is("restore(0)", x.restore(0), 1);
        due.is("day, people as kept; rows and tape stay", Due.counts(x), "1 2 1 1 0 3");
        due.is("no act can be undone", x.undo(), Due.STATE);
        due.is("person(1, 1)", x.person(1, 1), 7);
        due.is("kind(1)", x.kind(1), 5);
        due.is("what they do", x.done(0), 2);
        x.lots(0, 1);
        due.is("the image is no longer the town", x.restore(0) + x.count(2), 2);
        due.is("restore(1)", x.restore(1), 1);
        due.is("the other one", Due.counts(x), "1 1 0 0 0 3");
        due.is("what he does", x.done(0), 1);
        due.is("restore(2)", x.restore(2), Due.BAD);
        due.is("restore(-1)", x.restore(-1), Due.BAD);
        x.restore(0);
        due.is("image(1) anew", x.image(1), 1);
        Due.town(x, "person true 0 0;");
        due.is("restore(1)", x.restore(1) + x.count(1), 3);
    }

    private static void counts(Due due) {
        EvePost x = Due.with("true 0 0");
        due.is("count(6)", x.count(6), Due.BAD);
        due.is("count(-1)", x.count(-1), Due.BAD);
        x.row(0, 0, 0);
        x.row(7, 0, 0);
        x.post(1);
        x.post(1);
        x.undo();
        x.feed(0, 7);
        due.is("counts", Due.counts(x), "2 1 1 1 1 7");
    }
}
