import java.util.ArrayList;
import java.util.List;

/**
 * A run of calls told as text with the answers that are due: "layer 0 0 500 = 0", or "195 * cover 1 1 = 1"
 * for the same call and answer so many times. Of each call that is refused it also sees that what other
 * calls answer is the same before and behind it, and stays so when the object is used further.
 */
final class Run {
    private final String sentence;
    private final int columns;
    private final int side;
    private final List<Call> before = new ArrayList<>();

    private Run(String sentence, int columns, int side) {
        this.sentence = sentence;
        this.columns = columns;
        this.side = side;
    }

    static void due(String sentence, int columns, int side, String... lines) {
        Run run = new Run(sentence, columns, side);
        Cell cell = new Cell(columns, side);
        for (String line : lines) {
            run.line(cell, line);
        }
    }

    private void line(Cell cell, String line) {
        String[] halves = line.split("=");
        long answer = Call.number(halves[1].trim());
        for (Call call : Call.run(halves[0])) {
            Due.is(sentence + ": " + call, cell.ask(call), answer);
            if (call.isRefusal(answer)) {
                changesNothing(call);
            }
            before.add(call);
        }
    }

    /** On new objects, as it takes many calls to see it. */
    private void changesNothing(Call refused) {
        int count = columns >= 1 && columns <= 8 ? columns : 1;
        Cell looked = new Cell(columns, side, before);
        List<Long> seen = Looks.at(count, looked::ask);
        looked.ask(refused);
        Due.same(sentence + ": same behind " + refused, Looks.at(count, looked::ask), seen);
        Cell without = new Cell(columns, side, before);
        Cell with = new Cell(columns, side, before);
        with.ask(refused);
        Due.same(sentence + ": goes on the same behind " + refused, Looks.goingOn(count, with::ask), Looks.goingOn(count, without::ask));
    }
}
