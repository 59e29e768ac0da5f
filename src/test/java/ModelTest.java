import java.nio.charset.StandardCharsets;
import java.util.Random;

/** Long runs of calls, drawn from fixed seeds, on the class and on the model: all answers must be the same. */
public final class ModelTest {
    private static final int RUNS = 1200;
    private static final int CALLS = 512;
    private static final String[] SORTS = {"true", "cross", "crowd", "moody", "lot"};
    private static final int[] EDGES = {
        -1, -2, 0, 1, 6, 7, 8, 39, 40, 41, 63, 64, 9999, 1000000,
        Integer.MAX_VALUE, Integer.MAX_VALUE - 1, Integer.MIN_VALUE, Integer.MIN_VALUE + 1
    };

    private final Due due;
    private final Random random;
    private final EvePost x = new EvePost();
    private final Model m = new Model();
    private final String run;
    /** One number in so many is an odd one; some runs have many of them. */
    private final int rareness;
    private int calls = 0;

    private ModelTest(Due due, int seed) {
        this.due = due;
        random = new Random(seed);
        run = "run " + seed + ": ";
        rareness = seed % 4 == 1 ? 4 : 40;
    }

    public static void main(String[] args) {
        Due due = new Due("ModelTest");
        for (int seed = 0; seed < RUNS; seed++) {
            ModelTest test = new ModelTest(due, seed);
            if (seed % 10 != 0) {
                test.newTown();
            }
            while (test.calls < CALLS) {
                test.call(test.random.nextInt(46));
            }
        }
        due.end();
    }

    private void same(String call, int got, int want) {
        calls++;
        due.is(run + call, got, want);
    }

    private int upTo(int most) {
        return random.nextInt(rareness) == 0 ? EDGES[random.nextInt(EDGES.length)] : random.nextInt(most + 1);
    }

    private int letter() {
        int agreeing = m.agreeing(-1);
        if (agreeing > 0 && random.nextBoolean()) {
            return m.agreeing(random.nextInt(agreeing));
        }
        return upTo((1 << m.count(1)) - 1);
    }

    private String word() {
        StringBuilder text = new StringBuilder();
        int people = 1 + random.nextInt(6);
        boolean apt = random.nextInt(3) > 0;
        for (int i = 0; i < people; i++) {
            text.append("person ").append(SORTS[random.nextInt(5)]);
            text.append(' ').append(random.nextInt(apt ? people : 6)).append(random.nextBoolean() ? " " : "\n");
            text.append(random.nextInt(apt ? people + 1 : 10)).append(random.nextInt(9) == 0 ? " ; " : ";");
        }
        while (random.nextInt(4) == 0) {
            String[] bits = {"person ", ";", " ", "\n", "7", "1234", "true", "x", "A", "\t", "" + (char) 200, "10"};
            text.insert(random.nextInt(text.length() + 1), bits[random.nextInt(bits.length)]);
        }
        return random.nextInt(12) == 0 ? text.substring(0, random.nextInt(text.length() + 1)) : text.toString();
    }

    private void newTown() {
        byte[] bytes = word().getBytes(StandardCharsets.ISO_8859_1);
        // What an object answers beyond its 512 calls is free, so a text that would go on then is not begun.
        if (calls + bytes.length / 8 + 3 > CALLS) {
            return;
        }
        for (int at = 0; at < bytes.length; at += 8) {
            int n = Math.min(8, bytes.length - at);
            long w = random.nextBoolean() ? 0 : -1;
            for (int k = 0; k < n; k++) {
                w = w << 8 | bytes[at + k] & 255;
            }
            same("feed", x.feed(w, n), m.feed(w, n));
        }
        same("town", x.town(), m.town());
        same("fault", x.fault(), m.fault());
    }

    private void call(int which) {
        int a = upTo(7);
        int b = upTo(5);
        int c = upTo(9);
        int d = upTo(2);
        int l = letter();
        int s = upTo((1 << m.count(1)) - 1);
        switch (which) {
            case 0: same("row " + a + " " + d + " " + 4 * c, x.row(a, d, 4 * c), m.row(a, d, 4 * c)); break;
            case 1: case 2: case 3: same("set " + a + " " + c + " " + l, x.set(a, c, l), m.set(a, c, l)); break;
            case 4: int v = random.nextInt(); same("set " + a + " " + c + " " + v, x.set(a, c, v), m.set(a, c, v)); break;
            case 5: case 6: int e = upTo(7);
                same("copy " + a + " " + b + " " + e + " " + c + " " + d, x.copy(a, b, e, c, d), m.copy(a, b, e, c, d)); break;
            case 7: if (random.nextInt(5) == 0) { same("drop " + a, x.drop(a), m.drop(a)); } break;
            case 8: if (random.nextInt(3) == 0) { newTown(); } break;
            case 9: long w = random.nextLong(); same("feed " + w, x.feed(w, c), m.feed(w, c)); break;
            case 10: case 11: case 12: case 13: same("post " + l, x.post(l), m.post(l)); break;
            case 14: case 15: same("posts " + a + " " + b + " " + c, x.posts(a, b, c), m.posts(a, b, c)); break;
            case 16: case 17: int seed = upTo(999998) + 1; same("lots " + l + " " + seed, x.lots(l, seed), m.lots(l, seed)); break;
            case 18: case 19: same("undo", x.undo(), m.undo()); break;
            case 20: same("person " + b + " " + d, x.person(b, d), m.person(b, d)); break;
            case 21: same("done " + s, x.done(s), m.done(s)); break;
            case 22: same("agreeing " + (b - 1), x.agreeing(b - 1), m.agreeing(b - 1)); break;
            case 23: same("fullest", x.fullest(), m.fullest()); break;
            case 24: case 25: same("culprits " + d, x.culprits(d), m.culprits(d)); break;
            case 26: case 27: same("chains " + b + " " + (c - 1), x.chains(b, c - 1), m.chains(b, c - 1)); break;
            case 28: same("chains " + b, x.chains(b, -1), m.chains(b, -1)); break;
            case 29: case 30: same("breaks " + a + " " + b + " " + c, x.breaks(a, b, c), m.breaks(a, b, c)); break;
            case 31: int o = m.done(l); same("comes " + l + " " + o, x.comes(l, o, d), m.comes(l, o, d)); break;
            case 32: same("comes " + l + " " + s, x.comes(l, s, d), m.comes(l, s, d)); break;
            case 33: if (random.nextInt(9) == 0) { same("likeliest", x.likeliest(), m.likeliest()); } break;
            case 34: same("lost " + s, x.lost(s, d), m.lost(s, d)); break;
            case 35: int by = m.done(l); same("lost " + by, x.lost(by, d), m.lost(by, d)); break;
            case 36: same("readBy " + s, x.readBy(s, d), m.readBy(s, d)); break;
            case 37: same("image " + d, x.image(d), m.image(d)); break;
            case 38: if (random.nextInt(3) == 0) { same("restore " + d, x.restore(d), m.restore(d)); } break;
            case 39: same("kind " + b, x.kind(b), m.kind(b)); break;
            case 40: int k = upTo(5); same("as " + b + " " + k, x.as(b, k), m.as(b, k)); break;
            case 41: same("ask " + b + " " + d, x.ask(b, d), m.ask(b, d)); break;
            case 42: same("trace " + c, x.trace(c), m.trace(c)); break;
            case 43: int q = upTo(6); same("count " + q, x.count(q), m.count(q)); break;
            default: same("status", x.status(), m.status()); break;
        }
    }
}
