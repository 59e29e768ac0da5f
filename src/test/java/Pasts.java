/** Objects with calls behind them, so that whatever a refused call might change shows. */
final class Pasts {
    /** Every letter agrees, and those in it do it. */
    static final String SIX = "true 0 0, true 1 0, true 2 0, true 3 0, true 4 0, true 5 0";

    private Pasts() {
    }

    /** Of a row in each lane (the longest that there is among them) and an empty one; the others are missing. */
    private static void rows(EvePost x) {
        x.row(0, 0, 3);
        x.set(0, 0, 1);
        x.set(0, 1, 2);
        x.set(0, 2, 3);
        x.row(1, 1, 2);
        x.set(1, 0, 4);
        x.set(1, 1, 5);
        x.row(2, 2, 40);
        x.set(2, 0, 6);
        x.set(2, 39, 7);
        x.row(3, 0, 0);
    }

    /** Rows, part of a text on the tape, a fault; no town, no image. */
    static EvePost noTown() {
        EvePost x = new EvePost();
        Due.town(x, "person true 6 0;");
        rows(x);
        Due.feed(x, "person cross 1 2");
        x.row(4, 0, -1);
        return x;
    }

    /**
     * Rows, an image (number 0) with other people, a town of three on day 3 (all of them did it, every letter agrees), acts, a trace,
     * a fault, part of a text on the tape; status() is 3, that of KIND, which no call with a row can have found.
     */
    static EvePost busy() {
        EvePost x = new EvePost();
        Due.town(x, "person true 6 0;");
        rows(x);
        Due.town(x, Due.text("moody 1 2, cross 5 1"));
        x.lots(0, 1);
        x.image(0);
        Due.town(x, Due.text("true 0 3, moody 1 4, lot 2 5"));
        x.lots(5, 7);
        x.lots(3, 11);
        x.post(7);
        x.ask(1, 0);
        Due.feed(x, "person cross 1 2");
        x.as(0, 5);
        return x;
    }

    /** The same, with status() 1 (NULL). */
    static EvePost busyRowless() {
        EvePost x = busy();
        x.drop(7);
        return x;
    }

    /** As many bytes as the tape takes. */
    static EvePost fullTape() {
        EvePost x = busy();
        Due.feed(x, " ".repeat(300 - x.count(5)));
        return x;
    }

    /** Two who look at each other, so that 0 and 3 agree; day 9984, 24 acts; row 0 has 24 items, all 0. */
    static EvePost lateDay() {
        EvePost x = Due.with("true 1 0, true 0 0");
        x.row(0, 0, 24);
        for (int k = 0; k < 416; k++) {
            x.posts(0, 0, 24);
        }
        x.as(0, 5);
        return x;
    }

    /** The same, on day 9999, the last. */
    static EvePost lastDay() {
        EvePost x = lateDay();
        x.posts(0, 0, 14);
        x.post(3);
        x.as(0, 5);
        return x;
    }
}
