import java.util.List;

/** An object of the class; the document says nothing of a 513th call, so no test may make one. */
final class Cell {
    private static final int MOST_CALLS = 512;
    private final CellSettling x;
    private int callsLeft = MOST_CALLS;

    Cell(int columns, int side) {
        x = new CellSettling(columns, side);
    }

    Cell(int columns, int side, List<Call> behind) {
        this(columns, side);
        behind.forEach(this::ask);
    }

    long ask(Call call) {
        if (callsLeft == 0) {
            throw new IllegalStateException("a test makes more than 512 calls on one object");
        }
        callsLeft--;
        return call.on(x);
    }

    int callsLeft() {
        return callsLeft;
    }
}
