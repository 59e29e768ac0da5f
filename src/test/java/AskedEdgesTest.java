/** Part 4 of the terms, promises 1 and 26 to 31, at their edges. */
public final class AskedEdgesTest {
    private static final String ALL = "true 5 0, cross 4 9, lot 3 1, crowd 2 8, moody 1 2, true 0 9";
    private static final int[] KINDS = {1, 2, 3, 4, 5, 1};
    private static final Edges e = new Edges("AskedEdgesTest");

    public static void main(String[] args) {
        newObject();
        twoObjects();
        kind();
        as();
        ask();
        asksOfEdges();
        trace();
        countRowsAndPeople();
        countDaysAndBytes();
        countRefused();
        statusOfFindings();
        statusOfNone();
        statusOfOthers();
        e.end();
    }

    private static void newObject() {
        e.sentence("1 A new object: No TOWN");
        EvePost x = new EvePost();
        e.is("counts", Due.counts(x), "0 0 0 0 0 0");
        e.is("status(), fault(), trace(0)", x.status() + " " + x.fault() + " " + x.trace(0), "0 0 " + Due.NONE);
        e.is("done(0)", x.done(0), Due.STATE);
        e.is("kind(0)", x.kind(0), Due.BAD);
        e.is("undo()", x.undo(), Due.STATE);
        e.is("town() of nothing", x.town() + " " + x.fault(), "-1000100 1");
    }

    private static void twoObjects() {
        e.sentence("1 A new object has nothing of another one");
        EvePost other = Pasts.busy();
        EvePost x = new EvePost();
        e.is("counts", Due.counts(x), "0 0 0 0 0 0");
        e.is("status(), fault(), trace(0)", x.status() + " " + x.fault() + " " + x.trace(0), "0 0 " + Due.NONE);
        e.is("restore(0)", x.restore(0), Due.STATE);
        Due.town(x, Due.text("cross 0 0"));
        x.row(0, 2, 1);
        x.ask(0, 1);
        e.is("nor that one of it", Due.counts(other) + ", " + Due.traceOf(other), "4 3 3 7 3 16, 14 13 10");
    }

    private static void kind() {
        e.sentence("26 kind: The KIND of one, as told (1 to 5)");
        EvePost x = Due.with(ALL);
        for (int person = 0; person < 6; person++) {
            e.is("kind(" + person + ")", x.kind(person), KINDS[person]);
        }
        e.sentence("26 kind: BAD");
        e.refusedOutside(Pasts::busy, 0, 2, "kind(person)", EvePost::kind, Due.BAD);
        for (int person : Edges.above(5)) {
            e.is("of six, kind(" + person + ")", x.kind(person), Due.BAD);
        }
        e.refusedOutside(Pasts::noTown, 0, -1, "kind(person) of no town", EvePost::kind, Due.BAD);
        e.sentence("26 kind: BAD: he was of a TOWN before");
        Due.town(x, "person lot 0 0;");
        e.is("kind(0)", x.kind(0), 3);
        e.is("kind(1)", x.kind(1), Due.BAD);
    }

    private static void as() {
        e.sentence("27 as: One is taken as one of a KIND (0 .. 5): his number");
        String[] taken = {"", "01", "012", "013", "04", "045"};
        EvePost x = Due.with(ALL);
        for (int person = 0; person < 6; person++) {
            for (int kind = 0; kind <= 5; kind++) {
                if (taken[KINDS[person]].indexOf('0' + kind) >= 0) {
                    x.drop(0);
                    e.is("as(" + person + ", " + kind + ")", x.as(person, kind), person);
                    e.is("status()", x.status(), 0);
                }
            }
        }
        e.sentence("27 as: KIND: he is no such one");
        for (int person = 0; person < 6; person++) {
            for (int kind = 0; kind <= 5; kind++) {
                if (taken[KINDS[person]].indexOf('0' + kind) < 0) {
                    x.drop(0);
                    e.is("as(" + person + ", " + kind + ")", x.as(person, kind), Due.KIND);
                    e.is("status()", x.status(), 3);
                }
            }
        }
        e.refused(Pasts::busyRowless, "as(0, 2)", y -> y.as(0, 2), Due.KIND);
        e.refused(Pasts::busyRowless, "as(1, 1)", y -> y.as(1, 1), Due.KIND);
        e.refused(Pasts::busyRowless, "as(2, 5)", y -> y.as(2, 5), Due.KIND);
        e.sentence("27 as: BAD: no such one");
        e.refusedOutside(Pasts::busy, 0, 2, "as(person, 0)", (y, person) -> y.as(person, 0), Due.BAD);
        e.refused(Pasts::noTown, "as(0, 0) of no town", y -> y.as(0, 0), Due.BAD);
        e.sentence("27 as: BAD: no such KIND");
        e.refusedOutside(Pasts::busyRowless, 0, 5, "as(0, kind)", (y, kind) -> y.as(0, kind), Due.BAD);
        e.sentence("27 as: BAD goes ahead of KIND");
        e.refused(Pasts::busyRowless, "as(3, 5)", y -> y.as(3, 5), Due.BAD);
        e.refused(Pasts::busyRowless, "as(-1, 2)", y -> y.as(-1, 2), Due.BAD);
    }

    private static void ask(EvePost x, int person, int what, int answer, String trace) {
        String call = "ask(" + person + ", " + what + ")";
        e.is(call, x.ask(person, what), answer);
        e.is("trace of " + call, Due.traceOf(x), trace);
    }

    private static void ask() {
        e.sentence("28 ask: An ASK (0, 1) of one");
        EvePost x = Due.with(ALL);
        ask(x, 0, 0, 0 + (0 + 5), "11 10 21 20");
        ask(x, 0, 1, 0 + 5, "21 20");
        ask(x, 1, 0, -(9 + 2 * (1 + 4)), "12 11 10 24 21 20");
        ask(x, 1, 1, 2 * (1 + 4), "24 21 20");
        ask(x, 2, 0, 1 + (2 + 3 - 1000), "11 10 22 21 20");
        ask(x, 2, 1, 2 + 3 - 1000, "22 21 20");
        ask(x, 3, 0, 8 - 100, "13 10");
        ask(x, 3, 1, 3 - (8 - 100), "23 20 13 10");
        ask(x, 4, 0, 2 * (2 - 100), "14 13 10");
        ask(x, 4, 1, 4 - 2 * (2 - 100), "23 20 14 13 10");
        ask(x, 5, 0, 9 + (5 + 0), "11 10 21 20");
        ask(x, 5, 1, 5 + 0, "21 20");
        e.sentence("28 ask: THE TRACE is empty ahead of it");
        ask(x, 1, 0, -19, "12 11 10 24 21 20");
        ask(x, 3, 0, -92, "13 10");
        e.sentence("28 ask: BAD: no such one");
        e.refusedOutside(Pasts::busy, 0, 2, "ask(person, 0)", (y, person) -> y.ask(person, 0), Due.BAD);
        e.refusedOutside(Pasts::busy, 0, 2, "ask(person, 1)", (y, person) -> y.ask(person, 1), Due.BAD);
        e.refused(Pasts::noTown, "ask(0, 0) of no town", y -> y.ask(0, 0), Due.BAD);
        e.sentence("28 ask: BAD: no such ASK");
        e.refusedOutside(Pasts::busy, 0, 1, "ask(0, what)", (y, what) -> y.ask(0, what), Due.BAD);
    }

    /** Of the first one and of the last, with the least numbers that may be told and with the greatest. */
    private static void asksOfEdges() {
        e.sentence("ASKS of PEOPLE, by BODIES: by the least numbers that there are and by the greatest");
        String[] sorts = {"true", "cross", "lot", "crowd", "moody"};
        int[] sizes = {0, 0, -1000, -100, -200, 19, -29, -981, -91, -182};
        int[] marks = {0, 0, -1000, 100, 200, 10, 20, -990, 96, 187};
        for (int k = 0; k < 5; k++) {
            EvePost x = new EvePost();
            Due.town(x, "person " + sorts[k] + " 0 0;" + "person true 0 0;".repeat(4) + "person " + sorts[k] + " 5 9;");
            e.is("SIZE of a " + sorts[k] + " one", x.ask(0, 0) + " " + x.ask(5, 0), sizes[k] + " " + sizes[k + 5]);
            e.is("MARK of a " + sorts[k] + " one", x.ask(0, 1) + " " + x.ask(5, 1), marks[k] + " " + marks[k + 5]);
        }
    }

    private static void trace() {
        e.sentence("29 trace: NONE: nothing was asked yet");
        EvePost x = Due.with(ALL);
        for (int i = -1; i <= 17; i++) {
            e.is("trace(" + i + ")", x.trace(i), Due.NONE);
        }
        e.sentence("29 trace: Number i of THE TRACE; NONE: behind its end and ahead of its first");
        String[] asked = {"13 10", "21 20", "12 11 10 24 21 20"};
        int[] person = {3, 0, 1};
        int[] what = {0, 1, 0};
        for (int k = 0; k < 3; k++) {
            x.ask(person[k], what[k]);
            String[] numbers = asked[k].split(" ");
            for (int i = 0; i < numbers.length; i++) {
                e.is("trace(" + i + ")", x.trace(i), Integer.parseInt(numbers[i]));
            }
            for (int i : Edges.above(numbers.length - 1)) {
                e.is("trace(" + i + ")", x.trace(i), Due.NONE);
            }
            for (int i : Edges.below(0)) {
                e.is("trace(" + i + ")", x.trace(i), Due.NONE);
            }
        }
        e.sentence("THE TRACE (the first 16): none leaves more than six, and there is nothing behind them");
        for (int i = 6; i <= 17; i++) {
            e.is("trace(" + i + ")", x.trace(i), Due.NONE);
        }
        e.sentence("29 trace: nothing changes");
        e.refused(Pasts::busy, "trace(0)", y -> y.trace(0), 14);
        e.refused(Pasts::busy, "trace(3)", y -> y.trace(3), Due.NONE);
        e.refused(Pasts::busy, "trace(-1)", y -> y.trace(-1), Due.NONE);
    }

    private static void countRowsAndPeople() {
        e.sentence("30 count: 0 ROWS: none to all of them");
        EvePost x = new EvePost();
        for (int row = 0; row < 8; row++) {
            e.is("count(0)", x.count(0), row);
            x.row(row, 0, row % 2 * 40);
        }
        e.is("count(0)", x.count(0), 8);
        x.row(3, 1, 1);
        e.is("one in place of another", x.count(0), 8);
        for (int row = 0; row < 8; row++) {
            x.drop(row);
            e.is("count(0)", x.count(0), 7 - row);
        }
        e.sentence("30 count: 1 PEOPLE: none (no TOWN) to 6");
        e.is("count(1)", x.count(1), 0);
        for (int n = 1; n <= 6; n++) {
            Due.town(x, "person true 0 0;".repeat(n));
            e.is("count(1)", x.count(1), n);
        }
        e.sentence("30 count: 3 who had done it the day before (bits): nobody to all");
        EvePost y = Due.with(Pasts.SIX);
        e.is("count(3)", y.count(3), 0);
        for (int letter = 63; letter >= 0; letter--) {
            y.post(letter);
            e.is("count(3)", y.count(3), letter);
        }
    }

    private static void countDaysAndBytes() {
        e.sentence("30 count: 2 DAYS gone: 0 to 9999");
        e.is("at first", Due.with(Pasts.SIX).count(2), 0);
        e.is("at last", Pasts.lastDay().count(2), 9999);
        e.sentence("30 count: 4 ACTS that can be undone: 0 to 24");
        EvePost x = Due.with(Pasts.SIX);
        for (int day = 0; day < 30; day++) {
            e.is("count(4)", x.count(4), Math.min(day, 24));
            x.lots(day, 1);
        }
        e.sentence("30 count: 5 bytes on the tape: 0 to 300");
        EvePost y = new EvePost();
        for (int n = 0; n < 300; n += 2) {
            e.is("count(5)", y.count(5), n);
            y.feed(0, 2);
        }
        e.is("count(5)", y.count(5), 300);
        y.town();
        e.is("count(5)", y.count(5), 0);
    }

    private static void countRefused() {
        e.sentence("30 count: BAD");
        e.refusedOutside(Pasts::busy, 0, 5, "count(what)", EvePost::count, Due.BAD);
        e.refusedOutside(Pasts::noTown, 0, 5, "count(what)", EvePost::count, Due.BAD);
    }

    private static void statusOfFindings() {
        e.sentence("31 status: the number of its FINDING");
        EvePost x = Pasts.busy();
        e.is("KIND, by as", x.as(0, 5) + " " + x.status(), Due.KIND + " 3");
        e.is("NULL, by set", x.set(7, 0, 0) + " " + x.status(), Due.NULL + " 1");
        e.is("PLACE, by set", x.set(0, 3, 0) + " " + x.status(), Due.PLACE + " 2");
        e.is("SIZE, by row", x.row(0, 0, -1) + " " + x.status(), Due.SIZE + " 4");
        e.is("STORE, by copy", x.copy(0, 0, 1, 0, 0) + " " + x.status(), Due.STORE + " 5");
        e.is("NULL, by copy", x.copy(0, 0, 7, 0, 0) + " " + x.status(), Due.NULL + " 1");
        e.is("PLACE, by copy", x.copy(0, 3, 0, 0, 1) + " " + x.status(), Due.PLACE + " 2");
        e.is("NULL, by drop", x.drop(7) + " " + x.status(), Due.NULL + " 1");
        e.is("PLACE, by posts", x.posts(0, 3, 1) + " " + x.status(), Due.PLACE + " 2");
        e.is("NULL, by posts", x.posts(7, 0, 1) + " " + x.status(), Due.NULL + " 1");
        e.is("PLACE, by breaks", x.breaks(0, 3, 1) + " " + x.status(), Due.PLACE + " 2");
        e.is("NULL, by breaks", x.breaks(7, 0, 1) + " " + x.status(), Due.NULL + " 1");
        e.is("asked again", x.status() + " " + x.status(), "1 1");
    }

    /** By each call, behind one that found something. */
    private static void statusOfNone() {
        e.sentence("31 status: 0: there was none");
        e.is("of a new object", new EvePost().status(), 0);
        EvePost x = new EvePost();
        x.feed(0, 1);
        x.row(8, 0, 0);
        x.posts(0, 0, 1);
        x.as(0, 0);
        e.is("of one whose calls were all refused", x.status(), 0);
        e.sentence("31 status: 0: it had none");
        zero("row", y -> y.row(0, 0, 0), 0);
        zero("set", y -> y.set(0, 0, -1), -1);
        zero("copy", y -> y.copy(0, 0, 0, 0, 0), 0);
        zero("drop", y -> y.drop(0), 3);
        zero("posts", y -> y.posts(0, 0, 3), 1);
        zero("breaks", y -> y.breaks(0, 0, 3), 1);
        zero("breaks with NONE", y -> y.breaks(0, 0, 1), Due.NONE);
        zero("as", y -> y.as(2, 3), 2);
        EvePost moodless = Pasts.busy();
        moodless.post(5);
        e.is("posts of none that AGREES", moodless.posts(0, 0, 3) + " " + moodless.status(), "0 0");
    }

    private static void zero(String what, Edges.Call call, int want) {
        EvePost x = Pasts.busy();
        e.is("status() ahead of " + what, x.status(), 3);
        e.is(what, call.on(x), want);
        e.is("status() after " + what, x.status(), 0);
    }

    private static void stays(String what, Edges.Call call) {
        EvePost x = Pasts.busy();
        call.on(x);
        e.is("status() after " + what, x.status(), 3);
    }

    private static void statusOfOthers() {
        e.sentence("31 status: Of the latest call with a ROW, or as(): no other call changes it");
        stays("feed", x -> x.feed(0, 1));
        stays("town, a fault", EvePost::town);
        stays("town", x -> x.feed(';', 1) + x.town());
        stays("fault", EvePost::fault);
        stays("post", x -> x.post(7));
        stays("post, refused", x -> x.post(8));
        stays("lots", x -> x.lots(0, 1));
        stays("undo", EvePost::undo);
        stays("person", x -> x.person(0, 0));
        stays("done", x -> x.done(0));
        stays("agreeing", x -> x.agreeing(0));
        stays("agreeing, NONE", x -> x.agreeing(99));
        stays("fullest", EvePost::fullest);
        stays("culprits", x -> x.culprits(0));
        stays("chains", x -> x.chains(1, 0));
        stays("comes", x -> x.comes(0, 0, 0));
        stays("likeliest", EvePost::likeliest);
        stays("lost", x -> x.lost(0, 0));
        stays("readBy", x -> x.readBy(0, 0));
        stays("image", x -> x.image(1));
        stays("restore", x -> x.restore(0));
        stays("kind", x -> x.kind(0));
        stays("ask", x -> x.ask(0, 0));
        stays("trace", x -> x.trace(0));
        stays("count", x -> x.count(0));
        stays("status", EvePost::status);
        e.sentence("31 status: .. that was not BAD, STATE, FULL");
        stays("row, BAD", x -> x.row(8, 0, 0));
        stays("set, BAD", x -> x.set(8, 0, 0));
        stays("copy, BAD", x -> x.copy(8, 0, 0, 0, 0));
        stays("drop, BAD", x -> x.drop(8));
        stays("posts, BAD", x -> x.posts(0, 0, 0));
        stays("breaks, BAD", x -> x.breaks(0, 0, 41));
        stays("as, BAD", x -> x.as(0, 6));
        EvePost y = Pasts.noTown();
        y.posts(0, 0, 1);
        e.is("posts, STATE", y.status(), 4);
        y.breaks(0, 0, 1);
        e.is("breaks, STATE", y.status(), 4);
        EvePost z = Pasts.lastDay();
        e.is("posts, FULL", z.posts(0, 0, 1) + " " + z.status(), Due.FULL + " 3");
    }
}
