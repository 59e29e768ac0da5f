/** Part 2 of the terms, and promises 9 to 14, at their edges. */
public final class DayEdgesTest {
    private static final int MIN = Integer.MIN_VALUE, MAX = Integer.MAX_VALUE;
    private static final String[] SORTS = {"true", "cross", "lot", "crowd", "moody"};
    private static final Edges e = new Edges("DayEdgesTest");

    public static void main(String[] args) {
        doneByKinds();
        doneByCrowds();
        doneByMoods();
        acts();
        post();
        posts();
        postsRefused();
        postsItems();
        lots();
        lotsDrawn();
        lastDays();
        undo();
        person();
        done();
        e.end();
    }

    /** A town of n people, each of whom does it just if he is in the letter. */
    private static EvePost selves(int n) {
        EvePost x = new EvePost();
        for (int k = 0; k < n; k++) {
            Due.feed(x, "person true " + k + " 0;");
        }
        x.town();
        return x;
    }

    private static void doneByKinds() {
        e.sentence("DONE: by a true one, if WHOM is in it; by a cross one, if not; by lot, where no odds are asked: as by a true one");
        for (int whom = 0; whom <= 5; whom++) {
            EvePost x = Due.with("true " + whom + " 9, cross " + whom + " 9, lot " + whom + " 9, true 5 0, true 5 0, true 5 0");
            for (int letter = 0; letter < 64; letter++) {
                e.is("whom " + whom + ", letter " + letter, x.done(letter) & 7, (letter & 1 << whom) != 0 ? 5 : 2);
            }
        }
        e.sentence("WHOM may be nobody: he is never in it");
        for (int whom = 3; whom <= 5; whom++) {
            EvePost x = Due.with("true " + whom + " 0, cross " + whom + " 0, lot " + whom + " 9");
            for (int letter = 0; letter < 8; letter++) {
                e.is("whom " + whom + ", letter " + letter, x.done(letter), 2);
            }
        }
    }

    private static void doneByCrowds() {
        e.sentence("DONE: by a crowd one, if as many as MANY are in it, or more");
        for (int many = 0; many <= 9; many++) {
            EvePost x = Due.with("crowd 0 " + many + ", true 1 0, true 2 0, true 3 0, true 4 0, true 5 0");
            for (int letter = 0; letter < 64; letter++) {
                e.is("many " + many + ", letter " + letter, x.done(letter) & 1, Integer.bitCount(letter) >= many ? 1 : 0);
            }
        }
        e.sentence("DONE: by a crowd one: WHOM is nothing to him, nor what was done the day before");
        EvePost x = Due.with("crowd 0 1, true 1 0");
        e.is("whom is not in it", x.done(2), 3);
        e.is("he does it", x.lots(2, 1), 3);
        e.is("none is in it", x.done(0), 0);
    }

    private static void doneByMoods() {
        e.sentence("DONE: by a moody one, if WHOM is in it and he had done it the day before, or if neither is so");
        EvePost x = Due.with("true 0 0, moody 0 9");
        e.is("neither", x.done(0), 2);
        e.is("in it, he had not", x.done(1), 1);
        x.lots(0, 1);
        e.is("he had", x.person(1, 2), 1);
        e.is("he had, not in it", x.done(0), 0);
        e.is("both", x.done(1), 3);
        e.sentence("DONE: by a moody one: MANY is nothing to him (a moody one does not count)");
        EvePost y = Due.with("moody 1 0, moody 1 1, moody 1 9");
        for (int letter = 0; letter < 8; letter++) {
            e.is("letter " + letter, y.done(letter), (letter & 2) != 0 ? 0 : 7);
        }
        e.sentence("DONE: by a moody one: whom nobody is, he is not in it");
        EvePost z = Due.with("moody 5 0");
        e.is("he had not", z.done(0) + " " + z.done(1), "1 1");
        z.lots(0, 1);
        e.is("he had", z.done(0) + " " + z.done(1), "0 0");
    }

    private static void acts() {
        e.sentence("ACTS (24 at most are kept, of more the oldest is forgotten)");
        for (int days : new int[] {1, 23, 24, 25, 26, 48, 49}) {
            EvePost x = selves(6);
            for (int day = 1; day <= days; day++) {
                e.is("post", x.post(day), day);
                e.is("count(4)", x.count(4), Math.min(day, 24));
            }
            for (int day = days - 1; day >= Math.max(0, days - 24); day--) {
                e.is("undo() of " + days, x.undo(), day - Math.max(0, days - 24));
                e.is("the day of " + days, x.count(2), day);
                e.is("who had done it, of " + days, x.count(3), day);
            }
            e.is("none is left of " + days, x.undo(), Due.STATE);
            e.is("count(2) of " + days, x.count(2), Math.max(0, days - 24));
        }
        e.sentence("ACTS: each can be undone, the latest first: LETTERS and lots alike; an ACT after it stands in its place");
        EvePost x = selves(6);
        x.post(1);
        x.lots(2, 1);
        x.post(3);
        e.is("undo()", x.undo() + " " + x.count(3), "2 2");
        e.is("undo()", x.undo() + " " + x.count(3), "1 1");
        e.is("post(4)", x.post(4), 2);
        e.is("undo()", x.undo() + " " + x.count(3), "1 1");
        e.is("undo()", x.undo() + " " + x.count(3), "0 0");
        e.is("undo()", x.undo(), Due.STATE);
        e.sentence("ACTS: a row of 24 behind another ACT: that one is forgotten");
        EvePost y = selves(6);
        y.row(0, 0, 24);
        y.post(5);
        e.is("posts", y.posts(0, 0, 24), 24);
        e.is("count(4)", y.count(4), 24);
        for (int k = 23; k >= 0; k--) {
            e.is("undo()", y.undo(), k);
        }
        e.is("undo()", y.undo(), Due.STATE);
        e.is("that day stays", y.count(2) + " " + y.count(3), "1 5");
    }

    private static void post() {
        e.sentence("9 post: A LETTER is POSTED: the DAY (1 on); all have done the day before");
        for (int n = 1; n <= 6; n++) {
            EvePost x = selves(n);
            int all = (1 << n) - 1;
            e.is("the last letter of " + n, x.post(all), 1);
            e.is("count(3)", x.count(3), all);
            e.is("the first letter of " + n, x.post(0), 2);
            e.is("count(3)", x.count(3), 0);
            e.is("one more", x.post(all + 1), Due.BAD);
            e.is("count(2)", x.count(2), 2);
        }
        e.sentence("9 post: BAD");
        e.refusedOutside(Pasts::busy, 0, 7, "post(letter)", EvePost::post, Due.BAD);
        e.sentence("9 post: STATE: no TOWN (ahead of BAD)");
        e.refused(Pasts::noTown, "post(0)", y -> y.post(0), Due.STATE);
        e.refusedOutside(Pasts::noTown, 0, 0, "post(letter)", EvePost::post, Due.STATE);
        e.sentence("9 post: STATE: it does not AGREE");
        for (int letter = 0; letter < 8; letter++) {
            int told = letter;
            e.refused(DayEdgesTest::moodless, "post(" + letter + ")", y -> y.post(told), Due.STATE);
        }
    }

    /** The busy town after a day on which the moody one did not do it: no letter agrees. */
    private static EvePost moodless() {
        EvePost x = Pasts.busy();
        x.post(5);
        return x;
    }

    private static void posts() {
        e.sentence("10 posts: n LETTERS (1 to 24) are POSTED one after another, an ACT each: how many were");
        for (int n : new int[] {1, 2, 23, 24}) {
            EvePost x = selves(6);
            x.row(7, 2, 40);
            for (int i = 0; i < 40; i++) {
                x.set(7, i, i + 1);
            }
            x.set(6, 0, 0);
            e.is("the first " + n, x.posts(7, 0, n), n);
            e.is("status()", x.status(), 0);
            e.is("counts", x.count(2) + " " + x.count(3) + " " + x.count(4), n + " " + n + " " + n);
            e.is("the last " + n, x.posts(7, 40 - n, n), n);
            e.is("counts", x.count(2) + " " + x.count(3) + " " + x.count(4), 2 * n + " 40 " + Math.min(24, 2 * n));
        }
        e.sentence("10 posts: as long as they AGREE");
        EvePost x = Due.with("true 1 0, true 0 0");
        x.row(0, 0, 24);
        x.set(0, 23, 1);
        e.is("23 of 24", x.posts(0, 0, 24), 23);
        e.is("count(2)", x.count(2), 23);
        e.is("the last does not", x.posts(0, 23, 1), 0);
        x.set(6, 0, 0);
        x.set(0, 0, 2);
        e.is("the first does not", x.posts(0, 0, 23), 0);
        e.is("none was: no ACT", x.count(2) + " " + x.count(4), "23 23");
        e.is("that is no finding", x.status(), 0);
        e.is("behind one that does not none is posted", x.posts(0, 0, 24), 0);
        e.sentence("10 posts: one after another: each by the day that the one ahead of it made");
        EvePost y = Due.with("moody 0 0");
        y.lots(0, 1);
        y.row(0, 0, 3);
        y.set(0, 0, 1);
        e.is("1, 0, not 0 again", y.posts(0, 0, 3), 2);
        e.is("counts", Due.counts(y), "1 1 3 0 3 0");
    }

    private static void postsRefused() {
        e.sentence("10 posts: BAD: ROW");
        e.refusedOutside(Pasts::busy, 0, 7, "posts(r, 0, 1)", (y, r) -> y.posts(r, 0, 1), Due.BAD);
        e.sentence("10 posts: BAD: n");
        e.refusedOutside(Pasts::busy, 1, 24, "posts(2, 0, n)", (y, n) -> y.posts(2, 0, n), Due.BAD);
        e.sentence("10 posts: BAD: ROW, n: ahead of NULL, PLACE");
        e.refused(Pasts::busy, "posts(4, 0, 0)", y -> y.posts(4, 0, 0), Due.BAD);
        e.refused(Pasts::busy, "posts(4, 0, 25)", y -> y.posts(4, 0, 25), Due.BAD);
        e.refused(Pasts::busy, "posts(2, -1, 25)", y -> y.posts(2, -1, 25), Due.BAD);
        e.refused(Pasts::busy, "posts(8, -1, 1)", y -> y.posts(8, -1, 1), Due.BAD);
        e.sentence("10 posts: STATE: no TOWN (ahead of BAD)");
        e.refused(Pasts::noTown, "posts(0, 0, 1)", y -> y.posts(0, 0, 1), Due.STATE);
        e.refused(Pasts::noTown, "posts(8, 0, 1)", y -> y.posts(8, 0, 1), Due.STATE);
        e.refused(Pasts::noTown, "posts(-1, 0, 0)", y -> y.posts(-1, 0, 0), Due.STATE);
        e.refused(Pasts::noTown, "posts(0, 0, 25)", y -> y.posts(0, 0, 25), Due.STATE);
        e.sentence("10 posts: STATE: no TOWN, ahead of NULL, PLACE");
        e.refused(Pasts::noTown, "posts(5, 0, 1)", y -> y.posts(5, 0, 1), Due.STATE);
        e.refused(Pasts::noTown, "posts(0, 3, 1)", y -> y.posts(0, 3, 1), Due.STATE);
        e.sentence("10 posts: NULL");
        for (int row = 4; row < 8; row++) {
            int r = row;
            e.refused(Pasts::busy, "posts(" + r + ", 0, 1)", y -> y.posts(r, 0, 1), Due.NULL);
        }
        e.sentence("10 posts: NULL goes ahead of PLACE");
        e.refused(Pasts::busy, "posts(4, -1, 1)", y -> y.posts(4, -1, 1), Due.NULL);
        e.refused(Pasts::busy, "posts(4, MAX, 24)", y -> y.posts(4, MAX, 24), Due.NULL);
        e.sentence("10 posts: PLACE");
        e.refusedOutside(Pasts::busy, 0, 2, "posts(0, i, 1)", (y, i) -> y.posts(0, i, 1), Due.PLACE);
        e.refusedOutside(Pasts::busy, 0, 0, "posts(0, i, 3)", (y, i) -> y.posts(0, i, 3), Due.PLACE);
        e.refusedOutside(Pasts::busy, 0, 16, "posts(2, i, 24)", (y, i) -> y.posts(2, i, 24), Due.PLACE);
        e.refused(Pasts::busy, "posts(0, 0, 4)", y -> y.posts(0, 0, 4), Due.PLACE);
        e.refused(Pasts::busy, "posts(0, 0, 24)", y -> y.posts(0, 0, 24), Due.PLACE);
        e.refused(Pasts::busy, "of an empty row", y -> y.posts(3, 0, 1), Due.PLACE);
        e.refused(Pasts::busy, "a sum that wraps around", y -> y.posts(2, MAX - 22, 24), Due.PLACE);
    }

    private static EvePost withItems(int... items) {
        EvePost x = Pasts.busy();
        x.row(5, 2, items.length);
        for (int i = 0; i < items.length; i++) {
            x.set(5, i, items[i]);
        }
        x.as(0, 5);
        return x;
    }

    private static void postsItems() {
        e.sentence("10 posts: then BAD: an ITEM that is none");
        for (int item : new int[] {-1, 8, 9, 32, 256, 65536, MIN, MAX}) {
            e.refused(() -> withItems(item), "the only one " + item, y -> y.posts(5, 0, 1), Due.BAD);
            e.refused(() -> withItems(7, 7, item), "the last " + item, y -> y.posts(5, 0, 3), Due.BAD);
            e.refused(() -> withItems(5, 0, item), "behind one that does not AGREE " + item, y -> y.posts(5, 0, 3), Due.BAD);
        }
        e.sentence("10 posts: an ITEM that is not among the n is nothing to it");
        EvePost x = withItems(8, 7, 0, -1);
        e.is("those between", x.posts(5, 1, 2), 2);
        e.sentence("10 posts: the last LETTER that there is is one");
        EvePost y = withItems(7, 7);
        e.is("posts(5, 0, 2)", y.posts(5, 0, 2), 2);
        e.sentence("10 posts: PLACE goes ahead of an ITEM that is none");
        e.refused(() -> withItems(8, -1), "posts(5, 0, 3)", z -> z.posts(5, 0, 3), Due.PLACE);
        e.refused(() -> withItems(8, -1), "posts(5, -1, 1)", z -> z.posts(5, -1, 1), Due.PLACE);
    }

    private static void lots() {
        e.sentence("11 lots: A DAY by lots, whatever the LETTER: who has DONE it");
        for (int n = 1; n <= 6; n++) {
            EvePost x = new EvePost();
            Due.town(x, "person cross 0 0;".repeat(n));
            int all = (1 << n) - 1;
            e.is("the first letter", x.lots(0, 1), all);
            e.is("the last letter", x.lots(all, 1), 0);
            e.is("one more", x.lots(all + 1, 1), Due.BAD);
            e.is("counts", Due.counts(x), "0 " + n + " 2 0 2 0");
        }
        e.sentence("11 lots: SEED 1 to 999999");
        EvePost y = Due.with("lot 0 9");
        e.is("lots(0, 1)", y.lots(0, 1), 1);
        e.is("lots(0, 999999)", y.lots(0, 999999), 1);
        e.is("count(2)", y.count(2), 2);
        e.refusedOutside(Pasts::busy, 1, 999999, "lots(0, seed)", (x, seed) -> x.lots(0, seed), Due.BAD);
        e.sentence("11 lots: BAD: a LETTER");
        e.refusedOutside(Pasts::busy, 0, 7, "lots(letter, 1)", (x, letter) -> x.lots(letter, 1), Due.BAD);
        e.sentence("11 lots: STATE: no TOWN (ahead of BAD)");
        e.refused(Pasts::noTown, "lots(0, 1)", x -> x.lots(0, 1), Due.STATE);
        e.refused(Pasts::noTown, "lots(0, 0)", x -> x.lots(0, 0), Due.STATE);
        e.refused(Pasts::noTown, "lots(-1, 1)", x -> x.lots(-1, 1), Due.STATE);
        e.refused(Pasts::noTown, "lots(64, 1000000)", x -> x.lots(64, 1000000), Due.STATE);
    }

    /** Of the first ten seeds each makes another rest by 10; the others make products beyond an int. */
    private static void lotsDrawn() {
        e.sentence("X becomes the rest of (X times 16807) by 2147483647; if the rest of that by 10 is less than MANY, it is the other way");
        int[] seeds = {10, 3, 6, 9, 2, 5, 8, 1, 4, 7, 127773, 127774, 127775, 255548, 500000, 999998, 999999};
        for (int seed : seeds) {
            for (int many = 0; many <= 9; many++) {
                String lot = "lot 0 " + many;
                EvePost x = Due.with(String.join(", ", lot, lot, lot, lot, lot, lot));
                e.is("seed " + seed + ", many " + many, x.lots(0, seed), turned(seed, many));
                e.is("seed " + seed + ", many " + many, x.lots(63, seed), 63 ^ turned(seed, many));
            }
        }
        e.sentence("for each who decides by lot, in order: no one else draws");
        for (String sort : SORTS) {
            EvePost x = Due.with(sort + " 5 9, lot 5 4");
            e.is(sort, x.lots(0, 3) >> 1, sort.equals("lot") ? turned(3, 4) >> 1 & 1 : turned(3, 4) & 1);
        }
        e.sentence("by a SEED (X at first): each DAY by its own");
        EvePost x = Due.with("lot 5 5, lot 5 5");
        e.is("seed 1", x.lots(0, 1), turned(1, 5) & 3);
        e.is("seed 3", x.lots(0, 3), turned(3, 5) & 3);
        e.is("seed 1", x.lots(0, 1), turned(1, 5) & 3);
    }

    /** Who of six does it the other way; by numbers that cannot wrap around. */
    private static int turned(int seed, int many) {
        java.math.BigInteger x = java.math.BigInteger.valueOf(seed);
        java.math.BigInteger by = java.math.BigInteger.valueOf(2147483647);
        int all = 0;
        for (int k = 0; k < 6; k++) {
            x = x.multiply(java.math.BigInteger.valueOf(16807)).mod(by);
            all |= x.mod(java.math.BigInteger.TEN).intValue() < many ? 1 << k : 0;
        }
        return all;
    }

    private static EvePost lateItem(int item) {
        EvePost x = Pasts.lateDay();
        x.set(0, 1, item);
        x.as(0, 5);
        return x;
    }

    private static void lastDays() {
        e.sentence("9 post: FULL: 9999 are gone");
        EvePost x = Pasts.lateDay();
        e.is("the day", x.count(2), 9984);
        e.is("15 more", x.posts(0, 0, 14) + " " + x.post(3), "14 9999");
        e.refusedLate(Pasts::lastDay, "post(0)", y -> y.post(0), Due.FULL);
        e.refusedLate(Pasts::lastDay, "post(3)", y -> y.post(3), Due.FULL);
        e.sentence("9 post: BAD and STATE go ahead of FULL");
        e.refusedLate(Pasts::lastDay, "post(1)", y -> y.post(1), Due.STATE);
        e.refusedLate(Pasts::lastDay, "post(4)", y -> y.post(4), Due.BAD);
        e.refusedLate(Pasts::lastDay, "post(-1)", y -> y.post(-1), Due.BAD);
        e.sentence("10 posts: FULL: more than 9999 might be gone");
        e.refusedLate(Pasts::lateDay, "16 of 15", y -> y.posts(0, 0, 16), Due.FULL);
        e.refusedLate(Pasts::lateDay, "24 of 15", y -> y.posts(0, 0, 24), Due.FULL);
        e.refusedLate(() -> lateItem(1), "16 of 15, though the second does not AGREE", y -> y.posts(0, 0, 16), Due.FULL);
        e.refusedLate(Pasts::lastDay, "1 of none", y -> y.posts(0, 0, 1), Due.FULL);
        e.is("just 15", Pasts.lateDay().posts(0, 0, 15), 15);
        e.sentence("10 posts: FULL: behind all else that is refused");
        e.refusedLate(Pasts::lastDay, "posts(8, 0, 1)", y -> y.posts(8, 0, 1), Due.BAD);
        e.refusedLate(Pasts::lastDay, "posts(0, 0, 25)", y -> y.posts(0, 0, 25), Due.BAD);
        e.refusedLate(Pasts::lastDay, "posts(1, 0, 1)", y -> y.posts(1, 0, 1), Due.NULL);
        e.refusedLate(Pasts::lastDay, "posts(0, 24, 1)", y -> y.posts(0, 24, 1), Due.PLACE);
        e.refusedLate(() -> lateItem(4), "an ITEM that is none", y -> y.posts(0, 0, 16), Due.BAD);
        e.sentence("11 lots: FULL: 9999 are gone");
        EvePost z = Pasts.lateDay();
        e.is("the last", z.posts(0, 0, 14) + " " + z.lots(1, 1) + " " + z.count(2), "14 2 9999");
        e.refusedLate(Pasts::lastDay, "lots(0, 1)", y -> y.lots(0, 1), Due.FULL);
        e.refusedLate(Pasts::lastDay, "lots(3, 999999)", y -> y.lots(3, 999999), Due.FULL);
        e.sentence("11 lots: BAD goes ahead of FULL");
        e.refusedLate(Pasts::lastDay, "lots(4, 1)", y -> y.lots(4, 1), Due.BAD);
        e.refusedLate(Pasts::lastDay, "lots(0, 0)", y -> y.lots(0, 0), Due.BAD);
        e.sentence("12 undo: of the last of 9999: there is room for one again");
        EvePost w = Pasts.lastDay();
        e.is("undo()", w.undo() + " " + w.count(2), "23 9998");
        e.is("post(3)", w.post(3), 9999);
        e.is("post(3)", w.post(3), Due.FULL);
        e.is("an image of it", w.image(1) + " " + w.restore(1) + " " + w.count(2) + " " + w.lots(0, 1), "1 1 9999 " + Due.FULL);
    }

    private static void undo() {
        e.sentence("12 undo: The latest ACT is undone: how many can be undone yet");
        EvePost x = Pasts.busy();
        e.is("undo()", x.undo(), 2);
        e.is("the day before it", x.count(2), 2);
        e.is("rows, people, tape stay", x.count(0) + " " + x.count(1) + " " + x.count(5), "4 3 16");
        e.is("status() stays", x.status(), 3);
        e.is("the trace stays", Due.traceOf(x), "14 13 10");
        e.is("undo()", x.undo(), 1);
        e.is("undo()", x.undo(), 0);
        e.is("counts", Due.counts(x), "4 3 0 0 0 16");
        e.is("undo()", x.undo(), Due.STATE);
        e.sentence("12 undo: STATE: none");
        e.refused(Pasts::noTown, "undo() of no town", EvePost::undo, Due.STATE);
        e.refused(DayEdgesTest::undone, "undo() once more", EvePost::undo, Due.STATE);
        e.sentence("12 undo: STATE: none, when a TOWN was read, or an IMAGE restored");
        e.refused(DayEdgesTest::readAnew, "undo() of a new town", EvePost::undo, Due.STATE);
        e.refused(DayEdgesTest::restored, "undo() of an image", EvePost::undo, Due.STATE);
    }

    private static EvePost undone() {
        EvePost x = Pasts.busy();
        for (int k = 0; k < 3; k++) {
            x.undo();
        }
        return x;
    }

    private static EvePost readAnew() {
        EvePost x = Pasts.busy();
        Due.town(x, ";");
        return x;
    }

    private static EvePost restored() {
        EvePost x = Pasts.busy();
        x.restore(0);
        return x;
    }

    private static void person() {
        e.sentence("13 person: Of one: 0 WHOM, 1 MANY");
        EvePost x = Due.with("true 0 9, cross 1 8, lot 2 7, crowd 3 6, moody 4 1, true 5 0");
        for (int person = 0; person < 6; person++) {
            e.is("whom of " + person, x.person(person, 0), person);
            e.is("many of " + person, x.person(person, 1), new int[] {9, 8, 7, 6, 1, 0}[person]);
        }
        e.sentence("13 person: 2 whether he had done it the day before (1, 0)");
        EvePost y = selves(6);
        for (int letter : new int[] {0, 63, 1, 32, 42, 21}) {
            y.post(letter);
            for (int person = 0; person < 6; person++) {
                e.is(person + " after " + letter, y.person(person, 2), letter >> person & 1);
            }
        }
        e.sentence("13 person: BAD: there is no such one");
        for (int what = 0; what < 3; what++) {
            int of = what;
            e.refusedOutside(Pasts::busy, 0, 2, "person(p, " + what + ")", (z, p) -> z.person(p, of), Due.BAD);
        }
        e.refused(Pasts::noTown, "person(0, 0) of no town", z -> z.person(0, 0), Due.BAD);
        e.sentence("13 person: BAD: no such number of what is asked");
        e.refusedOutside(Pasts::busy, 0, 2, "person(0, what)", (z, what) -> z.person(0, what), Due.BAD);
    }

    private static void done() {
        e.sentence("14 done: Who has DONE it by a LETTER now: the first LETTER and the last; nothing changes");
        for (int n = 1; n <= 6; n++) {
            EvePost x = selves(n);
            e.is("done(0) of " + n, x.done(0), 0);
            e.is("the last of " + n, x.done((1 << n) - 1), (1 << n) - 1);
            e.is("counts", Due.counts(x), "0 " + n + " 0 0 0 0");
        }
        e.sentence("14 done: BAD");
        e.refusedOutside(Pasts::busy, 0, 7, "done(letter)", EvePost::done, Due.BAD);
        for (int n = 1; n <= 6; n++) {
            e.is("one more than the last of " + n, selves(n).done(1 << n), Due.BAD);
        }
        e.sentence("14 done: STATE: no TOWN (ahead of BAD)");
        e.refused(Pasts::noTown, "done(0)", y -> y.done(0), Due.STATE);
        e.refusedOutside(Pasts::noTown, 0, 0, "done(letter)", EvePost::done, Due.STATE);
    }
}
