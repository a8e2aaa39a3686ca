import java.util.ArrayList;
import java.util.List;
import java.util.function.ToLongFunction;

/** What an object answers, so that two of them, or one at two times, can be held side by side. */
final class Looks {
    private static final int COLUMNS_LOOKED_AT = 3;

    private Looks() {
    }

    /** Every answer that can be had without changing anything, of the first and the last columns. */
    static List<Long> at(int columns, ToLongFunction<Call> asked) {
        List<Long> seen = new ArrayList<>();
        for (int i = 0; i < Math.min(columns, COLUMNS_LOOKED_AT); i++) {
            column(i == 0 ? 0 : columns - i, asked, seen);
        }
        for (int a = 0; a < 4; a++) {
            for (int b = 0; b < 4; b++) {
                seen.add(asked.applyAsLong(new Call("room", a, b, 0)));
            }
            seen.add(asked.applyAsLong(new Call("room", a, 3 - a, 1)));
            seen.add(asked.applyAsLong(new Call("kept", a)));
            seen.add(asked.applyAsLong(new Call("factor", a)));
            seen.add(asked.applyAsLong(new Call("crack", a, 0)));
        }
        seen.add(asked.applyAsLong(new Call("sum")));
        return seen;
    }

    private static void column(int c, ToLongFunction<Call> asked, List<Long> seen) {
        seen.add(asked.applyAsLong(new Call("height", c)));
        seen.add(asked.applyAsLong(new Call("covered", c)));
        for (int i = 0; i <= 10; i++) {
            seen.add(asked.applyAsLong(new Call("thickness", c, i)));
        }
        for (int k = 0; k < 4; k++) {
            seen.add(asked.applyAsLong(new Call("mass", c, k)));
        }
    }

    /**
     * What shows only in calls to come: passes, densities, rows, the year, and how many layers,
     * surveys, surfaces, phases and told ones there are. Changes the object.
     */
    static List<Long> goingOn(int columns, ToLongFunction<Call> asked) {
        List<Long> seen = new ArrayList<>();
        int last = columns - 1;
        seen.add(asked.applyAsLong(new Call("roll", 0, 1)));
        seen.add(asked.applyAsLong(new Call("roll", last, 2)));
        for (int k = 0; k < 4; k++) {
            seen.add(asked.applyAsLong(new Call("layer", k % 2 == 0 ? 0 : last, k, 99999)));
            for (long load : new long[] {1, 501, 3001, 99999999, 100000000}) {
                seen.add(asked.applyAsLong(new Call("row", k, load, 60)));
            }
        }
        for (String call : new String[] {"run 50", "run 1", "survey 0 9", "surface", "phase 0 0 0", "fit 1"}) {
            seen.add(asked.applyAsLong(Call.of(call)));
        }
        seen.addAll(at(columns, asked));
        long covers = 0;
        while (covers <= 200 && asked.applyAsLong(new Call("cover", last, 1)) == 1) {
            covers++;
        }
        seen.add(covers);
        return seen;
    }
}
