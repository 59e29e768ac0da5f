import java.util.ArrayList;
import java.util.List;
import java.util.function.Supplier;

/**
 * What the tests of edges have in common. Each of them stands under the sentence of the document that names its
 * edge. A call that is to be refused, or to find something, is made on one of two objects that have the same calls
 * behind them: all that can be asked of the two must be answered alike afterwards, but for status().
 */
final class Edges {
    /** A call, made on an object. */
    interface Call {
        int on(EvePost x);
    }

    /** A call one of whose numbers is still open. */
    interface Open {
        int on(EvePost x, int number);
    }

    private static final int FINDINGS = -1000010;

    private final Due due;
    private String sentence = "";
    private int sentences = 0;

    Edges(String name) {
        due = new Due(name);
    }

    /** All that follows tests these words of the document. */
    void sentence(String words) {
        sentence = words;
        sentences++;
    }

    void is(String what, long got, long want) {
        due.is("'" + sentence + "': " + what, got, want);
    }

    void is(String what, String got, String want) {
        due.is("'" + sentence + "': " + what, got, want);
    }

    void end() {
        System.out.print(sentences + " sentences; ");
        due.end();
    }

    /** The answer is due, and nothing but status() is changed by it. */
    void refused(Supplier<EvePost> past, String what, Call call, int want) {
        refused(past, what, call, want, false);
    }

    /** As refused, for a past so long that few calls are left to ask with. */
    void refusedLate(Supplier<EvePost> past, String what, Call call, int want) {
        refused(past, what, call, want, true);
    }

    private void refused(Supplier<EvePost> past, String what, Call call, int want, boolean late) {
        EvePost x = past.get();
        EvePost twin = past.get();
        int before = twin.status();
        is(what, call.on(x), want);
        if (want < FINDINGS) {
            is("status() ahead of " + what + " is another", before == FINDINGS - want ? 1 : 0, 0);
            is("status() after " + what, x.status(), FINDINGS - want);
        } else {
            is("status() after " + what + " stays", x.status(), before);
        }
        List<String> got = late ? Seen.fewOf(x) : Seen.allOf(x);
        List<String> alike = late ? Seen.fewOf(twin) : Seen.allOf(twin);
        int at = 0;
        while (at < got.size() && at < alike.size() && got.get(at).equals(alike.get(at))) {
            at++;
        }
        is("what is seen after " + what, tell(got, at), tell(alike, at));
    }

    private static String tell(List<String> seen, int at) {
        return at < seen.size() ? seen.get(at) : "all alike";
    }

    /** Every number below the least that is taken and above the most is refused. */
    void refusedOutside(Supplier<EvePost> past, int least, int most, String what, Open call, int want) {
        refusedBelow(past, least, what, call, want);
        refusedAbove(past, most, what, call, want);
    }

    void refusedBelow(Supplier<EvePost> past, int least, String what, Open call, int want) {
        for (int number : below(least)) {
            refused(past, what + " of " + number, x -> call.on(x, number), want);
        }
    }

    void refusedAbove(Supplier<EvePost> past, int most, String what, Open call, int want) {
        for (int number : above(most)) {
            refused(past, what + " of " + number, x -> call.on(x, number), want);
        }
    }

    /** The next one below, and those that would be taken again if they were cut to fewer bits. */
    static int[] below(int least) {
        return new int[] {least - 1, least - 2, -32, -64, -256, -65536, Integer.MIN_VALUE, Integer.MIN_VALUE + 1};
    }

    /** The next one above, and those that would be taken again if they were cut to fewer bits. */
    static int[] above(int most) {
        List<Integer> all = new ArrayList<>(List.of(most + 1, most + 2));
        for (int number : new int[] {32, 33, 64, 256, 257, 65536, 65537, 1 << 30, Integer.MAX_VALUE}) {
            if (number > most + 2) {
                all.add(number);
            }
        }
        return all.stream().mapToInt(Integer::intValue).toArray();
    }
}
