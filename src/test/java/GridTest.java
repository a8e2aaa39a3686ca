import java.util.List;

/**
 * Every call with every choice of boundary numbers, on objects in many states, the full ones among them: its
 * answer and all answers behind it are held against the plain model's; a refused or asking call changes nothing.
 */
public final class GridTest {
    private static final String COLUMN = "INT_MIN -1 0 1 2 3 8 INT_MAX";
    private static final String KIND = "INT_MIN -1 0 3 4 INT_MAX";
    private static final String SURFACE = "INT_MIN -1 0 1 3 4 INT_MAX";
    private static final String PLACE = "-1 0 4 5";
    private static final String[][] CALLS = {
        {"density", KIND, "INT_MIN -1 0 99 100 3000 3001 INT_MAX"},
        {"row", KIND, "LONG_MIN -1 0 1 500 501 100000000 100000001 4294967296 LONG_MAX", "INT_MIN -1 0 1 300 301 INT_MAX"},
        {"layer", COLUMN, KIND, "LONG_MIN -1 0 1 1000000 1000001 4294967297 LONG_MAX"},
        {"roll", COLUMN, "INT_MIN -1 0 1 20 21 INT_MAX"},
        {"run", "INT_MIN -1 0 1 49 50 51 100 INT_MAX"},
        {"cover", COLUMN, "INT_MIN -1 0 1 10000 10001 INT_MAX"},
        {"survey", COLUMN, "LONG_MIN -1 0 1000000000 1000000001 4294967296 LONG_MAX"},
        {"height", COLUMN},
        {"thickness", COLUMN, "INT_MIN -1 0 1 9 10 INT_MAX"},
        {"mass", COLUMN, KIND},
        {"covered", COLUMN},
        {"surface"},
        {"point", SURFACE, PLACE, PLACE, "INT_MIN -100001 -100000 0 100000 100001 INT_MAX"},
        {"point", "0 3", "INT_MIN 2 INT_MAX", "INT_MIN 2 INT_MAX", "7"},
        {"room", SURFACE, SURFACE, "INT_MIN -1 0 1 2 INT_MAX"},
        {"phase", COLUMN, COLUMN, "LONG_MIN -1 0 1000000000 1000000001 4294967296 LONG_MAX"},
        {"kept", SURFACE},
        {"crack", "INT_MIN -1 0 1 2 7 INT_MAX", "LONG_MIN -1 0 1000 4294967296 LONG_MAX"},
        {"factor", KIND},
        {"sum"},
        {"fit", "INT_MIN -1 0 1 4 5 6 INT_MAX"},
    };

    private static final String FILL = "density 1 800; row 0 0 100; row 0 500 150; row 1 500 40; layer 0 0 4000; layer 0 1 2500; roll 0 3;"
        + "layer 1 1 900; cover 1 250; run 2; survey 0 2400; layer 2 3 77; roll 2 1; survey 1 480; phase 0 1 500000; phase 1 2 1000000000";
    private static final String FOUR_ROWS = "row 0 0 10; row 0 100 20; row 0 400 30; row 0 450 40";
    private static final String TEN_LAYERS = "10 * layer 0 0 700; 10 * layer 2 3 900";
    private static final String SURFACES = "4 * surface; point 0 0 0 5; point 0 0 1 7; point 0 1 0 -9; point 0 1 1 2; point 1 0 0 1; point 1 0 1 1;"
        + "point 1 1 0 3; point 1 1 1 8; point 3 3 3 -5; point 3 3 4 6; point 3 4 3 6; point 0 3 3 1; point 0 3 4 1; point 0 4 3 1; point 0 4 4 4";
    private static final String PHASES = "phase 0 2 900000; phase 0 1 0; phase 1 1 0; phase 1 2 1000000000";

    private final String name;
    private final int columns;
    private final int side;
    private final List<Call> script;
    private final PlainModel model;
    private final List<Long> looks;
    private final List<Long> goesOn;

    private GridTest(String name, int columns, int side, String text) {
        this.name = name;
        this.columns = columns;
        this.side = side;
        script = Call.run(text);
        model = new PlainModel(columns, side);
        script.forEach(call -> call.on(model));
        looks = Looks.at(model.columns(), call -> call.on(model));
        PlainModel used = new PlainModel(model);
        goesOn = Looks.goingOn(model.columns(), call -> call.on(used));
    }

    public static void main(String[] args) {
        List<GridTest> states = List.of(
            new GridTest("new", 3, 2, ""),
            new GridTest("one column of none", 0, 0, "layer 0 0 7; cover 0 3; surface"),
            new GridTest("eight columns", 8, 100, "layer 7 0 70000; cover 6 3; row 0 0 5"),
            new GridTest("some of all", 3, 2, FILL + ";" + SURFACES + "; fit 2"),
            new GridTest("four rows", 3, 1, FOUR_ROWS + ";" + FILL),
            new GridTest("a row of the most load", 3, 1, "row 0 100000000 9; row 3 99999999 9;" + FILL),
            new GridTest("ten layers", 3, 1, FOUR_ROWS + ";" + TEN_LAYERS),
            new GridTest("year 50", 3, 1, FILL + "; run 48"),
            new GridTest("year 51", 3, 1, FILL + "; run 49"),
            new GridTest("year 99", 3, 1, FILL + "; run 50; run 47"),
            new GridTest("year 100", 3, 1, FILL + "; run 50; run 48"),
            new GridTest("eleven surveys", 3, 1, FILL + "; 9 * survey 0 2000"),
            new GridTest("twelve surveys", 3, 1, FILL + "; 10 * survey 0 2000"),
            new GridTest("four surfaces and phases", 3, 3, PHASES + ";" + SURFACES),
            new GridTest("199 told", 3, 1, FILL + "; 186 * cover 2 3"),
            new GridTest("200 told", 3, 1, FILL + "; 187 * cover 2 3"),
            new GridTest("the most factor", 3, 1, "row 0 0 100; layer 0 0 500; run 1; survey 0 0; 8 * fit 5"),
            new GridTest("the least factor", 3, 1, "row 0 0 100; layer 0 0 500; run 1; survey 0 1000000; 4 * fit 5"),
            new GridTest("all full", 3, 1, FOUR_ROWS + ";" + TEN_LAYERS + ";" + SURFACES + ";" + PHASES
                + "; run 50; run 50; 12 * survey 0 9; 200 * cover 1 2; fit 2"));
        for (GridTest state : states) {
            state.asBuilt();
            for (String[] call : CALLS) {
                state.choose(call, new long[call.length - 1], 0);
            }
        }
        Due.end();
    }

    private void asBuilt() {
        Due.same(name + ": looks", Looks.at(model.columns(), built()::ask), looks);
        Due.same(name + ": goes on", Looks.goingOn(model.columns(), built()::ask), goesOn);
    }

    private Cell built() {
        return new Cell(columns, side, script);
    }

    private void choose(String[] call, long[] numbers, int chosen) {
        if (chosen == numbers.length) {
            hold(new Call(call[0], numbers.clone()));
            return;
        }
        for (String word : call[chosen + 1].split(" ")) {
            numbers[chosen] = Call.number(word);
            choose(call, numbers, chosen + 1);
        }
    }

    private void hold(Call call) {
        String at = name + ", " + call;
        PlainModel after = new PlainModel(model);
        long due = call.on(after);
        Cell looked = built();
        Cell used = built();
        Due.is(at, looked.ask(call), due);
        used.ask(call);
        boolean changes = call.isChange() && !call.isRefusal(due);
        List<Long> dueLooks = changes ? Looks.at(model.columns(), c -> c.on(after)) : looks;
        List<Long> dueGoesOn = changes ? Looks.goingOn(model.columns(), c -> c.on(after)) : goesOn;
        Due.same(at + ": looks behind it", Looks.at(model.columns(), looked::ask), dueLooks);
        Due.same(at + ": goes on behind it", Looks.goingOn(model.columns(), used::ask), dueGoesOn);
    }
}
