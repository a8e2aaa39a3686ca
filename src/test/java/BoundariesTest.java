import java.util.ArrayList;
import java.util.List;

/**
 * Each sentence of the document that names a boundary, by answers worked out by hand: the last number that is
 * taken and the first one that is refused on each side, the full and the empty case. That a refused call changes
 * nothing is seen by Run of every refused call here.
 */
public final class BoundariesTest {
    private BoundariesTest() {
    }

    public static void main(String[] args) {
        terms();
        told();
        doneAnew();
        newObject();
        densities();
        rows();
        layers();
        rollings();
        runs();
        covers();
        surveys();
        questions();
        surfaces();
        points();
        rooms();
        phases();
        keptOnes();
        cracks();
        factors();
        sums();
        fits();
        Due.end();
    }

    private static void terms() {
        columns();
        kinds();
        firstThickness();
        passes();
        rowsAndLoads();
        yearsRounded();
        coversApart();
    }

    private static void columns() {
        Run.due("Terms, 'COLUMNS are 0 .. C - 1', of what is told", 3, 1,
            "layer 0 0 1 = 0", "layer 2 0 1 = 0", "layer -1 0 1 = -1", "layer 3 0 1 = -1",
            "layer INT_MIN 0 1 = -1", "layer INT_MAX 0 1 = -1",
            "roll 0 1 = 1", "roll 2 1 = 1", "roll -1 1 = 0", "roll 3 1 = 0", "roll INT_MIN 1 = 0", "roll INT_MAX 1 = 0",
            "cover 0 1 = 1", "cover 2 1 = 1", "cover -1 1 = 0", "cover 3 1 = 0", "cover INT_MIN 1 = 0", "cover INT_MAX 1 = 0",
            "survey 0 0 = 0", "survey 2 0 = 1", "survey -1 0 = -1", "survey 3 0 = -1",
            "survey INT_MIN 0 = -1", "survey INT_MAX 0 = -1",
            "phase 0 2 0 = 0", "phase -1 2 0 = -1", "phase 0 3 0 = -1", "phase 3 3 0 = -1", "phase -1 -1 0 = -1",
            "phase INT_MIN 0 0 = -1", "phase 0 INT_MAX 0 = -1");
        Run.due("Terms, 'COLUMNS are 0 .. C - 1', of what is asked", 3, 1,
            "layer 0 1 1 = 0", "cover 0 4 = 1", "layer 2 1 3 = 0", "cover 2 5 = 1",
            "height 0 = 6000", "height 1 = 0", "height 2 = 11000", "height -1 = -1", "height 3 = -1",
            "height INT_MIN = -1", "height INT_MAX = -1",
            "thickness 0 0 = 2000", "thickness 2 0 = 6000", "thickness -1 0 = -1", "thickness 3 0 = -1",
            "thickness INT_MIN 0 = -1", "thickness INT_MAX 0 = -1",
            "mass 0 1 = 1", "mass 2 1 = 3", "mass -1 1 = -1", "mass 3 1 = -1", "mass INT_MIN 1 = -1", "mass INT_MAX 1 = -1",
            "covered 0 = 4", "covered 2 = 5", "covered -1 = -1", "covered 3 = -1", "covered INT_MIN = -1", "covered INT_MAX = -1");
    }

    private static void kinds() {
        Run.due("Terms, 'KINDS are 0 .. 3'", 1, 1,
            "density 0 1000 = 1", "density 3 2000 = 1", "density -1 1000 = 0", "density 4 1000 = 0",
            "density INT_MIN 1000 = 0", "density INT_MAX 1000 = 0",
            "row 0 0 10 = 1", "row 3 0 20 = 1", "row -1 0 10 = 0", "row 4 0 10 = 0", "row INT_MIN 0 10 = 0", "row INT_MAX 0 10 = 0",
            "layer 0 0 8 = 0", "layer 0 3 8 = 1", "layer 0 -1 8 = -1", "layer 0 4 8 = -1",
            "layer 0 INT_MIN 8 = -1", "layer 0 INT_MAX 8 = -1",
            "thickness 0 0 = 8000", "thickness 0 1 = 4000",
            "mass 0 0 = 8", "mass 0 3 = 8", "mass 0 -1 = -1", "mass 0 4 = -1", "mass 0 INT_MIN = -1", "mass 0 INT_MAX = -1",
            "factor 0 = 1000", "factor 3 = 1000", "factor -1 = -1", "factor 4 = -1", "factor INT_MIN = -1", "factor INT_MAX = -1");
        Run.due("Terms, 'a DENSITY (.. 500 at first) and a FACTOR (1000 at first)'", 1, 1,
            "layer 0 0 1 = 0", "layer 0 1 1 = 1", "layer 0 2 1 = 2", "layer 0 3 1 = 3",
            "thickness 0 0 = 2000", "thickness 0 1 = 2000", "thickness 0 2 = 2000", "thickness 0 3 = 2000",
            "factor 0 = 1000", "factor 1 = 1000", "factor 2 = 1000", "factor 3 = 1000");
    }

    private static void firstThickness() {
        Run.due("Terms, a layer's thickness, 'down', to 0 too", 1, 100,
            "density 0 3000 = 1", "layer 0 0 29 = 0", "layer 0 0 30 = 1", "layer 0 0 59 = 2", "layer 0 0 60 = 3", "layer 0 0 1 = 4",
            "thickness 0 0 = 0", "thickness 0 1 = 1", "thickness 0 2 = 1", "thickness 0 3 = 2", "thickness 0 4 = 0",
            "roll 0 20 = 1", "thickness 0 4 = 0", "thickness 0 5 = -1", "mass 0 0 = 179", "height 0 = 4");
        Run.due("Terms, a layer's thickness, the greatest, wider than an int", 1, 1,
            "density 0 100 = 1", "layer 0 0 1000000 = 0", "thickness 0 0 = 10000000000", "height 0 = 10000000000",
            "row 0 0 300 = 1", "run 1 = 1", "thickness 0 0 = 7000000000", "roll 0 1 = 1", "thickness 0 0 = 6125000000");
        Run.due("Terms, 'above those that it had before'", 1, 1,
            "layer 0 0 3 = 0", "layer 0 0 2 = 1", "thickness 0 0 = 6000", "thickness 0 1 = 4000");
    }

    private static void passes() {
        Run.due("Terms, a pass, 'rounded down'", 1, 100,
            "density 0 1000 = 1",
            "layer 0 0 70 = 0", "thickness 0 0 = 7", "roll 0 20 = 1", "thickness 0 0 = 7",
            "layer 0 0 80 = 1", "roll 0 1 = 1", "thickness 0 1 = 7", "roll 0 20 = 1", "thickness 0 1 = 7",
            "layer 0 0 159 = 2", "thickness 0 2 = 15", "roll 0 1 = 1", "thickness 0 2 = 14", "roll 0 1 = 1", "thickness 0 2 = 13",
            "roll 0 1 = 1", "thickness 0 2 = 12", "roll 0 1 = 1", "thickness 0 2 = 11", "roll 0 1 = 1", "thickness 0 2 = 11",
            "layer 0 0 160 = 3", "roll 0 1 = 1", "thickness 0 3 = 14");
        Run.due("Terms, 'the passes that this layer had before', 0 of a new one", 2, 1,
            "layer 0 0 36 = 0", "roll 0 1 = 1", "thickness 0 0 = 63000", "roll 0 1 = 1", "thickness 0 0 = 56000",
            "roll 0 21 = 0", "roll 0 0 = 0", "roll 1 1 = 0", "roll 0 1 = 1", "thickness 0 0 = 50400",
            "layer 1 0 36 = 0", "roll 1 1 = 1", "thickness 1 0 = 63000",
            "layer 0 0 36 = 1", "roll 0 1 = 1", "thickness 0 1 = 63000", "thickness 0 0 = 50400", "fit 1 = 0",
            "roll 0 1 = 1", "thickness 0 1 = 56000");
    }

    private static void rowsAndLoads() {
        Run.due("Terms, 'the last row of its kind not above its load'", 3, 1,
            "row 0 0 10 = 1", "row 0 100 20 = 1", "row 0 200 0 = 1", "row 0 201 30 = 1",
            "layer 0 0 500 = 0", "layer 0 1 1 = 1", "layer 0 0 500 = 2", "layer 1 0 500 = 0", "layer 1 2 99 = 1",
            "layer 2 0 500 = 0", "layer 2 3 100 = 1", "run 1 = 1",
            "thickness 0 2 = 990000", "thickness 0 0 = 970000", "thickness 1 0 = 990000", "thickness 2 0 = 980000",
            "layer 1 2 100 = 2", "run 1 = 2", "thickness 1 0 = 970200",
            "layer 2 3 100 = 2", "run 1 = 3", "thickness 2 0 = 960400");
        Run.due("Terms, '(0 when there is none)': no row, and a load below every row", 1, 1,
            "layer 0 0 500 = 0", "layer 0 1 9 = 1", "run 50 = 50", "thickness 0 0 = 1000000",
            "row 0 10 300 = 1", "run 49 = 99", "thickness 0 0 = 1000000", "thickness 0 1 = 18000",
            "layer 0 2 1 = 2", "run 1 = 100", "thickness 0 0 = 700000", "thickness 0 1 = 18000");
        Run.due("Terms, 'the kilograms of all layers above it in its column', the most there are", 1, 1,
            "row 0 8000001 100 = 1", "row 0 9000000 200 = 1", "row 0 9000001 300 = 1",
            "layer 0 0 1000000 = 0", "layer 0 0 1000000 = 1", "layer 0 1 1000000 = 2", "layer 0 1 1000000 = 3",
            "layer 0 1 1000000 = 4", "layer 0 1 1000000 = 5", "layer 0 1 1000000 = 6", "layer 0 1 1000000 = 7",
            "layer 0 1 1000000 = 8", "layer 0 1 1000000 = 9", "run 1 = 1",
            "thickness 0 0 = 1600000000", "thickness 0 1 = 2000000000", "height 0 = 19600000000");
    }

    private static void yearsRounded() {
        Run.due("Terms, a year, 'rounded down'", 1, 1,
            "density 0 1001 = 1", "density 1 1000 = 1", "row 0 0 1 = 1", "row 1 0 1 = 1",
            "layer 0 0 1 = 0", "layer 0 1 1 = 1", "thickness 0 0 = 999", "thickness 0 1 = 1000",
            "run 1 = 1", "thickness 0 0 = 999", "thickness 0 1 = 999", "run 50 = 51", "thickness 0 0 = 999", "thickness 0 1 = 999");
        Run.due("Terms, a year, rounded each year and not at the end", 2, 1,
            "row 0 0 150 = 1", "layer 0 0 1 = 0", "run 3 = 3", "thickness 0 0 = 1229",
            "layer 1 0 1 = 0", "run 1 = 4", "thickness 1 0 = 1700", "run 1 = 5", "thickness 1 0 = 1445", "run 1 = 6", "thickness 1 0 = 1229");
    }

    private static void coversApart() {
        Run.due("Terms, covers 'do not settle, and are no load'", 1, 1,
            "row 0 1 300 = 1", "layer 0 0 1 = 0", "10 * cover 0 10000 = 1", "run 50 = 50", "thickness 0 0 = 2000",
            "roll 0 1 = 1", "covered 0 = 100000", "height 0 = 100001750", "mass 0 0 = 1");
        Run.due("Terms, covers of a column without a layer", 2, 1,
            "cover 1 7 = 1", "roll 1 1 = 0", "thickness 1 0 = -1", "run 1 = 1", "height 1 = 7000", "height 0 = 0");
    }

    /** The last of the 200 is each of the six in turn: it is taken, and done anew; the next of each is refused. */
    private static void told() {
        String[] last = {"row 0 1 1 = 1", "layer 0 0 1 = 1", "roll 0 1 = 1", "run 1 = 1", "cover 1 9 = 1", "survey 0 1 = 0"};
        String[] seen = {"height 0 = 1000000", "height 0 = 1002000", "height 0 = 875000", "height 0 = 900000", "covered 1 = 206", "sum = 998001"};
        for (int i = 0; i < last.length; i++) {
            Run.due("Terms, '200 of these at most', the 200th " + last[i], 2, 1,
                "row 0 0 100 = 1", "layer 0 0 500 = 0", "197 * cover 1 1 = 1", last[i], seen[i],
                "row 0 2 1 = 0", "row 1 0 1 = 0", "layer 0 0 1 = -1", "layer 1 0 1 = -1", "roll 0 1 = 0", "run 1 = -1",
                "cover 0 1 = 0", "cover 1 1 = 0", "survey 0 0 = -1", "survey 1 197 = -1", seen[i], "fit 1 = 0", seen[i],
                "density 0 3000 = 1", "surface = 0", "point 0 0 0 0 = 1", "phase 0 1 0 = 0");
        }
        Run.due("Terms, what is not among the 200: other calls, and refused ones", 2, 1,
            "10 * density 0 700 = 1", "surface = 0", "surface = 1", "10 * point 0 1 1 5 = 1", "phase 0 1 5 = 0", "10 * fit 1 = 0",
            "10 * height 0 = 0", "10 * sum = 0", "row 0 -1 0 = 0", "layer 0 0 0 = -1", "roll 0 1 = 0", "run 0 = -1", "cover 0 0 = 0",
            "survey 0 -1 = -1", "199 * cover 0 1 = 1", "10 * fit 5 = 0", "cover 0 1 = 1", "cover 0 1 = 0", "covered 0 = 200");
    }

    private static void doneAnew() {
        Run.due("Terms, 'done anew: rows, layers, rollings, runs, covers, surveys, in their order'", 1, 1,
            "layer 0 0 500 = 0", "run 1 = 1", "row 0 0 100 = 1", "run 1 = 2", "survey 0 895 = 0", "roll 0 1 = 1", "cover 0 9 = 1", "sum = 25",
            "thickness 0 0 = 787500", "height 0 = 796500", "fit 1 = 1", "factor 0 = 1050", "sum = 0", "thickness 0 0 = 783125", "height 0 = 792125");
        Run.due("Terms, 'done anew .. from the beginning': nothing is there twice", 1, 1,
            "row 0 0 100 = 1", "row 0 1 200 = 1", "layer 0 0 500 = 0", "cover 0 9 = 1", "run 1 = 1", "survey 0 909 = 0", "roll 0 1 = 1", "4 * fit 5 = 0",
            "row 0 2 10 = 1", "row 0 3 10 = 1", "row 0 4 10 = 0", "layer 0 0 500 = 1", "covered 0 = 9", "run 1 = 2", "survey 0 0 = 1", "mass 0 0 = 1000",
            "thickness 0 0 = 779625", "thickness 0 1 = 900000", "roll 0 1 = 1", "thickness 0 1 = 787500", "sum = 2849344");
    }

    private static void newObject() {
        Run.due("Promise 1, 'Columns of 1 .. 8': 1", 1, 2, "height 0 = 0", "height 1 = -1", "layer 0 0 2 = 0", "height 0 = 1000");
        Run.due("Promise 1, 'Columns of 1 .. 8': 8", 8, 2, "height 7 = 0", "height 8 = -1", "layer 7 0 2 = 0", "height 7 = 1000");
        Run.due("Promise 1, 'a side of 1 .. 100': 1", 2, 1, "layer 1 0 1 = 0", "height 1 = 2000");
        Run.due("Promise 1, 'a side of 1 .. 100': 100", 2, 100, "layer 1 0 1000000 = 0", "height 1 = 200000");
        int[] columns = {0, 9, -1, Integer.MIN_VALUE, Integer.MAX_VALUE};
        int[] sides = {0, 101, -1, Integer.MIN_VALUE, Integer.MAX_VALUE};
        for (int i = 0; i < columns.length; i++) {
            Run.due("Promise 1, '(of other numbers 1)': columns " + columns[i], columns[i], 2,
                "height 0 = 0", "height 1 = -1", "layer 1 0 1 = -1", "layer 0 0 2 = 0", "height 0 = 1000", "phase 0 0 0 = 0", "phase 0 1 0 = -1");
            Run.due("Promise 1, '(of other numbers 1)': side " + sides[i], 3, sides[i],
                "height 2 = 0", "height 3 = -1", "layer 2 0 2 = 0", "height 2 = 4000");
            Run.due("Promise 1, '(of other numbers 1)': both", columns[i], sides[i], "height 1 = -1", "layer 0 0 2 = 0", "height 0 = 4000");
        }
        Run.due("Promise 1, 'No layers, rows, covers, surfaces, phases, surveys; year 0'", 2, 1,
            "thickness 0 0 = -1", "mass 0 0 = 0", "covered 0 = 0", "room 0 0 0 = LONG_MIN", "kept 0 = 0", "crack 0 0 = -1", "sum = 0",
            "roll 0 1 = 0", "point 0 0 0 0 = 0", "fit 5 = 0", "layer 1 0 500 = 0", "run 1 = 1", "thickness 1 0 = 1000000",
            "survey 0 0 = 0", "surface = 0", "phase 0 0 0 = 0");
    }

    private static void densities() {
        Run.due("Promise 2, 'A kind's density becomes 100 .. 3000, for layers from now on'", 1, 1,
            "layer 0 1 300 = 0", "density 1 99 = 0", "density 1 3001 = 0", "density 1 0 = 0", "density 1 -1 = 0", "density 1 INT_MIN = 0",
            "density 1 INT_MAX = 0", "layer 0 1 300 = 1", "density 1 100 = 1", "layer 0 1 300 = 2", "density 1 3000 = 1",
            "density 1 99 = 0", "layer 0 1 300 = 3", "layer 0 2 300 = 4",
            "thickness 0 0 = 600000", "thickness 0 1 = 600000", "thickness 0 2 = 3000000", "thickness 0 3 = 100000", "thickness 0 4 = 600000");
        Run.due("Promise 2, 'for layers from now on', also when all is done anew", 1, 1,
            "row 0 0 100 = 1", "layer 0 0 500 = 0", "run 1 = 1", "survey 0 890 = 0", "density 0 3000 = 1", "sum = 100", "fit 1 = 1",
            "thickness 0 0 = 895000", "layer 0 0 3 = 1", "thickness 0 1 = 1000");
    }

    private static void rows() {
        Run.due("Promise 3, 'of a greater load (0 .. 100000000) than its row before'", 1, 1,
            "row 0 -1 1 = 0", "row 0 100000001 1 = 0", "row 0 LONG_MIN 1 = 0", "row 0 LONG_MAX 1 = 0", "row 0 4294967296 1 = 0",
            "row 0 0 1 = 1", "row 0 0 1 = 0", "row 0 -1 1 = 0", "row 0 1 1 = 1", "row 0 1 1 = 0", "row 0 0 1 = 0", "row 0 500 1 = 1",
            "row 0 499 1 = 0", "row 0 500 1 = 0", "row 0 100000001 1 = 0", "row 0 100000000 1 = 1",
            "row 1 100000000 1 = 1", "row 1 100000000 1 = 0", "row 1 100000001 1 = 0", "row 1 99999999 1 = 0", "row 2 0 1 = 1");
        Run.due("Promise 3, '0 .. 300 thousandths'", 1, 1,
            "row 0 0 -1 = 0", "row 0 0 301 = 0", "row 0 0 INT_MIN = 0", "row 0 0 INT_MAX = 0", "row 0 0 300 = 1",
            "row 0 1 301 = 0", "row 0 1 -1 = 0", "row 0 1 0 = 1", "layer 0 0 500 = 0", "run 1 = 1", "thickness 0 0 = 700000",
            "layer 0 0 1 = 1", "run 1 = 2", "thickness 0 0 = 700000", "thickness 0 1 = 1400");
        Run.due("Promise 3, 'it has 4'", 1, 1,
            "row 3 0 1 = 1", "row 3 1 2 = 1", "row 3 2 3 = 1", "row 3 3 100 = 1", "row 3 4 200 = 0", "row 3 5 200 = 0",
            "layer 0 3 500 = 0", "layer 0 3 5 = 1", "run 1 = 1", "thickness 0 0 = 900000", "row 3 4 200 = 0", "fit 1 = 0", "row 3 4 200 = 0",
            "row 2 0 1 = 1", "row 2 1 2 = 1", "row 2 2 3 = 1", "row 2 3 100 = 1", "row 2 4 200 = 0");
        Run.due("Promise 3, a row that is refused is none: years, and rows behind it", 1, 1,
            "row 0 10 301 = 0", "row 0 5 100 = 1", "row 0 5 200 = 0", "row 0 7 301 = 0", "layer 0 0 500 = 0", "layer 0 0 10 = 1", "run 1 = 1",
            "thickness 0 0 = 900000", "row 0 6 200 = 1", "run 1 = 2", "thickness 0 0 = 720000");
    }

    private static void layers() {
        Run.due("Promise 4, 'of 1 .. 1000000 kilograms'", 1, 1,
            "layer 0 0 0 = -1", "layer 0 0 -1 = -1", "layer 0 0 1000001 = -1", "layer 0 0 LONG_MIN = -1", "layer 0 0 LONG_MAX = -1",
            "layer 0 0 4294967297 = -1", "height 0 = 0", "layer 0 0 1 = 0", "layer 0 0 1000000 = 1", "layer 0 0 0 = -1", "layer 0 0 1000001 = -1",
            "thickness 0 0 = 2000", "thickness 0 1 = 2000000000", "mass 0 0 = 1000001");
        List<String> ten = new ArrayList<>();
        for (int i = 0; i < 10; i++) {
            ten.add("thickness 0 " + i + " = -1");
            ten.add("layer 0 " + i % 4 + " " + (i + 1) + " = " + i);
            ten.add("thickness 0 " + i + " = " + 2000 * (i + 1));
        }
        ten.addAll(List.of("layer 0 0 5 = -1", "layer 0 3 1 = -1", "thickness 0 10 = -1", "height 0 = 110000", "run 1 = 1", "fit 1 = 0",
            "layer 0 0 5 = -1", "layer 1 0 5 = 0", "layer 1 0 5 = 1", "thickness 0 9 = 20000", "roll 0 1 = 1", "thickness 0 9 = 17500"));
        Run.due("Promise 4, 'its number in its column, from 0 on .. it has 10'", 2, 1, ten.toArray(new String[0]));
    }

    private static void rollings() {
        Run.due("Promise 5, 'Passes, 1 .. 20'", 1, 1,
            "layer 0 0 36 = 0", "roll 0 0 = 0", "roll 0 -1 = 0", "roll 0 21 = 0", "roll 0 INT_MIN = 0", "roll 0 INT_MAX = 0",
            "thickness 0 0 = 72000", "roll 0 1 = 1", "thickness 0 0 = 63000", "roll 0 20 = 1", "thickness 0 0 = 18004");
        Run.due("Promise 5, 'one behind the other'", 2, 1,
            "layer 0 0 36 = 0", "layer 1 0 36 = 0", "roll 0 3 = 1", "roll 1 1 = 1", "roll 1 1 = 1", "roll 1 1 = 1",
            "thickness 0 0 = 50400", "thickness 1 0 = 50400");
        Run.due("Promise 5, 'it has no layer'", 2, 1,
            "roll 0 1 = 0", "roll 1 1 = 0", "layer 1 0 36 = 0", "roll 0 1 = 0", "cover 0 5 = 1", "roll 0 1 = 0", "roll 1 1 = 1",
            "layer 0 0 36 = 0", "roll 0 1 = 1", "thickness 0 0 = 63000", "thickness 1 0 = 63000");
    }

    private static void runs() {
        Run.due("Promise 6, 'Years, 1 .. 50'", 1, 1,
            "row 0 0 100 = 1", "layer 0 0 500 = 0", "run 0 = -1", "run -1 = -1", "run 51 = -1", "run INT_MIN = -1", "run INT_MAX = -1",
            "thickness 0 0 = 1000000", "run 1 = 1", "thickness 0 0 = 900000", "run 50 = 51", "run 51 = -1", "run 0 = -1");
        Run.due("Promise 6, 'it were above 100': 100 by two runs", 1, 1,
            "row 0 0 1 = 1", "layer 0 0 500 = 0", "run 50 = 50", "run 50 = 100", "run 1 = -1", "run 50 = -1", "run INT_MAX = -1",
            "cover 0 1 = 1", "fit 1 = 0", "run 1 = -1");
        Run.due("Promise 6, 'it were above 100': up to it by one", 1, 1,
            "row 0 0 1 = 1", "layer 0 0 500 = 0", "run 50 = 50", "run 49 = 99", "run 2 = -1", "run 50 = -1", "run 1 = 100", "run 1 = -1");
    }

    private static void covers() {
        Run.due("Promise 7, 'One more cover of 1 .. 10000 millimetres'", 2, 1,
            "cover 0 0 = 0", "cover 0 -1 = 0", "cover 0 10001 = 0", "cover 0 INT_MIN = 0", "cover 0 INT_MAX = 0", "covered 0 = 0",
            "cover 0 1 = 1", "covered 0 = 1", "cover 0 10000 = 1", "covered 0 = 10001", "cover 0 10001 = 0", "height 0 = 10001000", "covered 1 = 0");
        Run.due("Promise 7, the most covers there can be", 1, 1,
            "200 * cover 0 10000 = 1", "cover 0 10000 = 0", "covered 0 = 2000000", "height 0 = 2000000000");
        Run.due("Promise 7, the highest column there can be", 1, 1,
            "density 3 100 = 1", "layer 0 3 1000000 = 0", "layer 0 3 1000000 = 1", "layer 0 3 1000000 = 2", "layer 0 3 1000000 = 3",
            "layer 0 3 1000000 = 4", "layer 0 3 1000000 = 5", "layer 0 3 1000000 = 6", "layer 0 3 1000000 = 7", "layer 0 3 1000000 = 8",
            "layer 0 3 1000000 = 9", "190 * cover 0 10000 = 1", "height 0 = 101900000000", "mass 0 3 = 10000000", "covered 0 = 1900000");
    }

    private static void surveys() {
        Run.due("Promise 8, '0 .. 1000000000 millimetres'", 1, 1,
            "survey 0 -1 = -1", "survey 0 1000000001 = -1", "survey 0 LONG_MIN = -1", "survey 0 LONG_MAX = -1", "survey 0 4294967296 = -1",
            "sum = 0", "survey 0 0 = 0", "sum = 0", "survey 0 1000000000 = 1", "sum = 1000000000000", "survey 0 -1 = -1", "survey 0 1000000001 = -1");
        List<String> twelve = new ArrayList<>();
        for (int i = 0; i < 12; i++) {
            twelve.add("survey " + i % 2 + " " + (i + 1) + " = " + i);
        }
        twelve.addAll(List.of("sum = 650", "survey 0 1 = -1", "survey 1 0 = -1", "survey 1 100 = -1", "fit 5 = 0", "survey 0 1 = -1", "sum = 650",
            "cover 0 1 = 1", "layer 1 0 1 = 0", "sum = 650"));
        Run.due("Promise 8, 'Answers its number, from 0 on; NONE when .. there are 12'", 2, 1, twelve.toArray(new String[0]));
    }

    private static void questions() {
        Run.due("Promise 9, a column's height, 0 of an empty one", 2, 1, "height 0 = 0", "height 1 = 0", "cover 1 1 = 1", "height 1 = 1000", "height 2 = -1");
        Run.due("Promise 10, 'NONE likewise': columns, and layers from the first to the last", 2, 1,
            "thickness 0 0 = -1", "layer 0 0 1 = 0", "thickness 0 0 = 2000", "thickness 0 1 = -1", "thickness 0 -1 = -1", "thickness 1 0 = -1",
            "layer 0 0 2 = 1", "thickness 0 1 = 4000", "thickness 0 2 = -1", "thickness 0 INT_MIN = -1", "thickness 0 INT_MAX = -1",
            "thickness 2 0 = -1", "thickness -1 0 = -1", "thickness 2 2 = -1");
        Run.due("Promise 11, 0 of a kind that a column has not, 'NONE likewise'", 2, 1,
            "mass 0 0 = 0", "layer 0 0 1000000 = 0", "layer 0 0 1 = 1", "mass 0 0 = 1000001", "mass 0 1 = 0", "mass 1 0 = 0",
            "mass 2 0 = -1", "mass -1 0 = -1", "mass 0 4 = -1", "mass 0 -1 = -1", "mass 2 4 = -1");
        Run.due("Promise 12, 0 without covers, 'NONE likewise'", 2, 1,
            "covered 0 = 0", "layer 0 0 5 = 0", "covered 0 = 0", "cover 0 3 = 1", "covered 0 = 3", "covered 1 = 0", "covered 2 = -1", "covered -1 = -1");
    }

    private static void surfaces() {
        Run.due("Promise 13, 'SURFACES are numbered from 0 on, 4 at most'", 1, 1,
            "room 0 0 0 = LONG_MIN", "surface = 0", "room 0 0 0 = 0", "room 1 1 0 = LONG_MIN", "surface = 1", "room 1 1 0 = 0",
            "surface = 2", "room 3 3 0 = LONG_MIN", "surface = 3", "room 3 3 0 = 0", "surface = -1", "room 4 4 0 = LONG_MIN", "surface = -1",
            "point 3 0 0 1 = 1", "point 4 0 0 1 = 0");
        Run.due("Promise 13, a fifth surface leaves the four as they are", 1, 1,
            "surface = 0", "surface = 1", "surface = 2", "surface = 3", "point 0 0 0 1 = 1", "point 0 0 1 1 = 1", "point 0 1 0 1 = 1", "point 0 1 1 1 = 1",
            "point 3 0 0 9 = 1", "point 3 0 1 9 = 1", "point 3 1 0 9 = 1", "point 3 1 1 9 = 1", "room 0 3 0 = 8", "surface = -1", "room 0 3 0 = 8",
            "room 3 0 0 = -8", "room 1 2 0 = 0");
    }

    private static void points() {
        Run.due("Promise 14, 'A point of a surface', one that there is", 1, 1,
            "point 0 0 0 1 = 0", "surface = 0", "point 0 0 0 1 = 1", "point 1 0 0 1 = 0", "point -1 0 0 1 = 0", "point INT_MIN 0 0 1 = 0",
            "point INT_MAX 0 0 1 = 0", "surface = 1", "point 1 0 0 1 = 1", "point 2 0 0 1 = 0");
        Run.due("Promise 14, 'points x, y, of 0 .. 4 both'", 1, 1,
            "surface = 0", "point 0 0 0 1 = 1", "point 0 4 4 1 = 1", "point 0 0 4 1 = 1", "point 0 4 0 1 = 1",
            "point 0 -1 0 1 = 0", "point 0 5 0 1 = 0", "point 0 0 -1 1 = 0", "point 0 0 5 1 = 0", "point 0 1 -1 1 = 0", "point 0 -1 5 1 = 0",
            "point 0 5 -1 1 = 0", "point 0 5 5 1 = 0", "point 0 INT_MIN 0 1 = 0", "point 0 INT_MAX 0 1 = 0", "point 0 0 INT_MIN 1 = 0",
            "point 0 0 INT_MAX 1 = 0");
        List<String> z = new ArrayList<>(flat(2));
        z.addAll(List.of("room 0 1 0 = 0", "point 1 1 1 100000 = 1", "room 0 1 0 = 100000", "point 1 1 1 100001 = 0", "point 1 1 1 INT_MAX = 0",
            "room 0 1 0 = 100000", "point 1 1 1 -100000 = 1", "room 0 1 0 = -100000", "point 1 1 1 -100001 = 0", "point 1 1 1 INT_MIN = 0",
            "point 1 1 5 7 = 0", "point 1 5 1 7 = 0", "point 1 1 -1 7 = 0", "point 1 -1 1 7 = 0", "room 0 1 0 = -100000"));
        Run.due("Promise 14, 'at -100000 .. 100000 millimetres (told again it is that)'", 1, 1, z.toArray(new String[0]));
        refusedPointsAreNotTold();
    }

    /** Every place but one is told behind points that are refused: none of these may stand for the one that is left out. */
    private static void refusedPointsAreNotTold() {
        for (int left = 0; left < 25; left++) {
            List<String> lines = new ArrayList<>(List.of("surface = 0"));
            for (int i = -1; i <= 5; i++) {
                lines.addAll(List.of("point 0 " + i + " -1 6 = 0", "point 0 " + i + " 5 6 = 0", "point 0 -1 " + i + " 6 = 0", "point 0 5 " + i + " 6 = 0"));
            }
            lines.add("point 0 " + left / 5 + " " + left % 5 + " 100001 = 0");
            lines.add("surface = 1");
            for (int i = 0; i < 25; i++) {
                lines.add("point 1 " + i / 5 + " " + i % 5 + " 6 = 1");
                if (i != left) {
                    lines.add("point 0 " + i / 5 + " " + i % 5 + " 0 = 1");
                }
            }
            int around = (left / 5 % 4 == 0 ? 1 : 2) * (left % 5 % 4 == 0 ? 1 : 2);
            lines.add("room 0 1 0 = " + 6 * (16 - around));
            lines.add("room 1 0 0 = " + -6 * (16 - around));
            Run.due("Terms, 'of which all four points are told in both', without " + left, 1, 1, lines.toArray(new String[0]));
        }
    }

    /** Surfaces that lie at 0 in all 25 points. */
    private static List<String> flat(int count) {
        List<String> lines = new ArrayList<>();
        for (int s = 0; s < count; s++) {
            lines.add("surface = " + s);
            for (int i = 0; i < 25; i++) {
                lines.add("point " + s + " " + i / 5 + " " + i % 5 + " 0 = 1");
            }
        }
        return lines;
    }

    private static void rooms() {
        Run.due("Promise 15, 'LONG_MIN when there are none such': no surface, no part", 1, 1,
            "room 0 0 0 = LONG_MIN", "surface = 0", "surface = 1", "room 0 1 0 = 0", "room 0 1 1 = 1", "room 0 0 0 = 0", "room 1 1 1 = 1",
            "room 0 1 -1 = LONG_MIN", "room 0 1 2 = LONG_MIN", "room 0 1 INT_MIN = LONG_MIN", "room 0 1 INT_MAX = LONG_MIN",
            "room 0 2 0 = LONG_MIN", "room 2 0 0 = LONG_MIN", "room 2 2 1 = LONG_MIN", "room -1 0 0 = LONG_MIN", "room 0 -1 0 = LONG_MIN",
            "room INT_MIN 0 0 = LONG_MIN", "room 0 INT_MAX 1 = LONG_MIN", "surface = 2", "surface = 3", "room 3 0 0 = 0", "room 0 3 1 = 1",
            "room 4 0 0 = LONG_MIN", "room 0 4 0 = LONG_MIN");
        roomOfOneSquare();
        roomOfOnePoint();
        roomAtItsMost();
    }

    private static void roomOfOneSquare() {
        Run.due("Terms, the room, of a square of which all four points are told in both", 1, 1,
            "surface = 0", "surface = 1", "point 0 3 3 1 = 1", "point 0 3 4 1 = 1", "point 0 4 3 1 = 1", "point 0 4 4 1 = 1", "room 0 1 0 = 0",
            "point 1 3 3 8 = 1", "room 0 1 0 = 0", "point 1 3 4 8 = 1", "room 0 1 0 = 0", "point 1 4 3 8 = 1", "room 0 1 0 = 0", "room 0 1 1 = 1",
            "point 1 4 4 8 = 1", "room 0 1 0 = 7", "room 0 1 1 = 1", "room 1 0 0 = -7", "room 1 0 1 = 1");
        Run.due("Promise 15, 'a fraction in lowest terms': sixths, halves, thirds, wholes, on both sides of 0", 1, 1,
            "surface = 0", "surface = 1", "point 0 0 0 0 = 1", "point 0 0 1 0 = 1", "point 0 1 0 0 = 1", "point 0 1 1 0 = 1",
            "point 1 0 0 0 = 1", "point 1 0 1 1 = 1", "point 1 1 0 0 = 1", "point 1 1 1 0 = 1",
            "room 0 1 0 = 1", "room 0 1 1 = 6", "room 1 0 0 = -1", "room 1 0 1 = 6",
            "point 1 0 1 2 = 1", "room 0 1 0 = 1", "room 0 1 1 = 3", "room 1 0 0 = -1", "room 1 0 1 = 3",
            "point 1 0 1 3 = 1", "room 0 1 0 = 1", "room 0 1 1 = 2", "room 1 0 0 = -1", "room 1 0 1 = 2",
            "point 1 0 1 4 = 1", "room 0 1 0 = 2", "room 0 1 1 = 3", "room 1 0 0 = -2", "room 1 0 1 = 3",
            "point 1 0 1 5 = 1", "room 0 1 0 = 5", "room 0 1 1 = 6", "room 1 0 0 = -5", "room 1 0 1 = 6",
            "point 1 0 1 6 = 1", "room 0 1 0 = 1", "room 0 1 1 = 1", "room 1 0 0 = -1", "room 1 0 1 = 1",
            "point 1 0 1 7 = 1", "room 0 1 0 = 7", "room 0 1 1 = 6", "room 1 0 0 = -7", "room 1 0 1 = 6",
            "point 1 1 0 -7 = 1", "room 0 1 0 = 0", "room 0 1 1 = 1", "room 1 0 0 = 0", "room 1 0 1 = 1",
            "point 1 0 0 1 = 1", "room 0 1 0 = 1", "room 0 1 1 = 3", "point 1 1 1 1 = 1", "room 0 1 0 = 2", "room 0 1 1 = 3");
    }

    /** One point a millimetre up, in a side of 1: a third for each triangle's half square metre that it belongs to. */
    private static void roomOfOnePoint() {
        for (int x = 0; x < 5; x++) {
            for (int y = 0; y < 5; y++) {
                boolean sameEdge = (x == 0 || y == 0) && (x == 4 || y == 4);
                boolean corner = x % 4 == 0 && y % 4 == 0;
                int triangles = corner ? (sameEdge ? 1 : 2) : x % 4 == 0 || y % 4 == 0 ? 3 : 6;
                List<String> lines = new ArrayList<>(flat(2));
                lines.add("point 1 " + x + " " + y + " 6 = 1");
                lines.add("room 0 1 0 = " + triangles);
                lines.add("room 0 1 1 = 1");
                lines.add("room 1 0 0 = " + -triangles);
                Run.due("Terms, the way 'from x, y to x + 1, y + 1' parts a square, at " + x + " " + y, 1, 1, lines.toArray(new String[0]));
            }
        }
    }

    private static void roomAtItsMost() {
        List<String> lines = new ArrayList<>(List.of("surface = 0", "surface = 1"));
        for (int i = 0; i < 25; i++) {
            lines.add("point 0 " + i / 5 + " " + i % 5 + " -100000 = 1");
            lines.add("point 1 " + i / 5 + " " + i % 5 + " 100000 = 1");
        }
        lines.addAll(List.of("room 0 1 0 = 32000000000", "room 0 1 1 = 1", "room 1 0 0 = -32000000000", "room 1 0 1 = 1",
            "point 1 0 0 99999 = 1", "room 0 1 0 = 95999990000", "room 0 1 1 = 3", "room 1 0 0 = -95999990000", "room 1 0 1 = 3"));
        Run.due("Terms, the room, 'its sides being the side', the most there is", 1, 100, lines.toArray(new String[0]));
    }

    private static void phases() {
        Run.due("Promise 16, '(the first not behind the second)'", 3, 1,
            "phase 1 0 5 = -1", "phase 2 1 5 = -1", "phase 2 0 5 = -1", "phase 0 0 5 = 0", "phase 1 1 5 = 1", "phase 0 1 5 = 2", "phase 0 2 5 = 3");
        Run.due("Promise 16, 'a slope of 0 .. 1000000000 micrometres'", 2, 1,
            "phase 0 1 -1 = -1", "phase 0 1 1000000001 = -1", "phase 0 1 LONG_MIN = -1", "phase 0 1 LONG_MAX = -1", "phase 0 1 4294967296 = -1",
            "kept 0 = 0", "phase 0 1 0 = 0", "phase 0 1 1000000000 = 1", "phase 0 1 -1 = -1", "phase 0 1 1000000001 = -1",
            "kept 0 = 1", "kept 1 = 1", "kept 2 = 0", "layer 0 0 500000 = 0", "kept 0 = 0", "kept 1 = 1", "layer 0 0 1 = 1", "kept 1 = 0");
        Run.due("Promise 16, 'Answers its number; NONE when there are 4'", 2, 1,
            "cover 0 1 = 1", "kept 0 = 0", "phase 0 1 1000 = 0", "kept 0 = 1", "kept 1 = 0", "phase 0 1 999 = 1", "kept 1 = 0", "phase 0 0 3 = 2",
            "phase 0 1 1001 = 3", "kept 3 = 1", "phase 0 1 5 = -1", "phase 0 0 0 = -1", "kept 4 = 0", "kept 0 = 1", "kept 1 = 0", "kept 2 = 1", "kept 3 = 1");
    }

    private static void keptOnes() {
        Run.due("Promise 17, 'by more than the slope apart'", 2, 1,
            "density 0 1000 = 1", "density 1 1001 = 1", "layer 0 0 1 = 0", "layer 1 1 1 = 0", "height 0 = 1000", "height 1 = 999",
            "phase 0 1 0 = 0", "phase 0 1 1 = 1", "kept 0 = 0", "kept 1 = 1", "cover 1 1 = 1", "kept 1 = 0", "phase 0 1 999 = 2", "kept 2 = 1",
            "phase 0 1 998 = 3", "kept 3 = 0");
        Run.due("Promise 17, 'the next one in the phase': none before its first, none behind its last", 5, 1,
            "cover 1 5 = 1", "cover 2 5 = 1", "cover 3 5 = 1", "cover 4 9 = 1",
            "phase 1 3 0 = 0", "phase 0 3 0 = 1", "phase 1 4 0 = 2", "phase 0 0 0 = 3", "kept 0 = 1", "kept 1 = 0", "kept 2 = 0", "kept 3 = 1",
            "cover 2 1 = 1", "kept 0 = 0", "kept 3 = 1");
        Run.due("Promise 17, 'false when there is none such'", 2, 1,
            "kept 0 = 0", "phase 0 1 5 = 0", "kept 0 = 1", "kept -1 = 0", "kept 1 = 0", "kept 3 = 0", "kept 4 = 0", "kept INT_MIN = 0", "kept INT_MAX = 0");
    }

    private static void cracks() {
        Run.due("Promise 18, 'by more than so many micrometres apart from the next one's'", 3, 1,
            "crack 0 0 = -1", "density 0 1000 = 1", "density 1 1001 = 1", "layer 1 0 1 = 0", "layer 2 1 1 = 0", "crack 0 0 = 0", "crack 1 0 = 1",
            "crack 0 1 = 0", "crack 1 1 = -1", "crack 0 999 = 0", "crack 0 1000 = -1", "crack 2 0 = -1", "crack INT_MAX 0 = -1", "crack 0 LONG_MAX = -1");
        Run.due("Promise 18, 'or these are below 0'", 3, 1,
            "cover 1 3 = 1", "crack -1 0 = -1", "crack 0 -1 = -1", "crack -1 -1 = -1", "crack INT_MIN 0 = -1", "crack 0 LONG_MIN = -1",
            "crack 0 0 = 0", "crack 1 0 = 1", "crack 1 2999 = 1", "crack 1 3000 = -1");
        Run.due("Promise 18, the last column has no next one, nor has the only one", 1, 1, "cover 0 9 = 1", "crack 0 0 = -1", "crack 1 0 = -1");
        Run.due("Promise 18, the most columns", 8, 1,
            "cover 1 9 = 1", "cover 3 9 = 1", "cover 5 9 = 1", "cover 7 9 = 1", "crack 0 0 = 0", "crack 6 0 = 6", "crack 7 0 = -1", "crack 6 8999 = 6",
            "crack 0 9000 = -1");
        Run.due("Promise 18, more micrometres than an int holds", 2, 1,
            "density 0 100 = 1", "layer 1 0 1000000 = 0", "crack 0 9999999999 = 0", "crack 0 10000000000 = -1", "crack 0 4294967296 = 0");
    }

    private static void factors() {
        Run.due("Promise 19, 'NONE when there is none such'", 1, 1,
            "factor -1 = -1", "factor 0 = 1000", "factor 1 = 1000", "factor 2 = 1000", "factor 3 = 1000", "factor 4 = -1",
            "factor INT_MIN = -1", "factor INT_MAX = -1");
    }

    private static void sums() {
        Run.due("Promise 20, 0 without a survey", 1, 1, "sum = 0", "layer 0 0 5 = 0", "sum = 0", "run 1 = 1", "sum = 0");
        Run.due("Terms, 'over 1000, down, less what it told'", 2, 1,
            "density 0 1001 = 1", "layer 0 0 1 = 0", "survey 0 0 = 0", "sum = 0", "survey 0 1 = 1", "sum = 1", "cover 0 1 = 1", "survey 0 1 = 2", "sum = 1",
            "density 1 1000 = 1", "layer 1 1 1 = 0", "survey 1 0 = 3", "sum = 2", "survey 1 1 = 4", "sum = 2");
        Run.due("Terms, 'cut to -1000000 .. 1000000', below", 1, 1,
            "survey 0 999999 = 0", "sum = 999998000001", "survey 0 1000000 = 1", "sum = 1999998000001", "survey 0 1000001 = 2", "sum = 2999998000001",
            "survey 0 1000000000 = 3", "sum = 3999998000001");
        Run.due("Terms, 'cut to -1000000 .. 1000000', above", 1, 1,
            "density 0 100 = 1", "layer 0 0 1000000 = 0", "survey 0 9000001 = 0", "sum = 999998000001", "survey 0 9000000 = 1", "sum = 1999998000001",
            "survey 0 8999999 = 2", "sum = 2999998000001", "survey 0 0 = 3", "sum = 3999998000001");
        List<String> most = new ArrayList<>();
        for (int i = 0; i < 12; i++) {
            most.add("survey 0 1000000000 = " + i);
        }
        most.add("sum = 12000000000000");
        Run.due("Promise 20, the most there is", 1, 1, most.toArray(new String[0]));
        Run.due("Terms, 'the height then without covers' millimetres that came later'", 1, 1,
            "cover 0 7 = 1", "survey 0 0 = 0", "sum = 49", "cover 0 100 = 1", "sum = 49", "survey 0 0 = 1", "sum = 11498", "layer 0 0 1 = 0", "roll 0 1 = 1",
            "row 0 0 300 = 1", "run 1 = 1", "sum = 11498", "fit 1 = 0", "sum = 11498");
    }

    private static void fits() {
        fitRounds();
        fitBounds();
        fitKeepsOnlyLess();
    }

    /** 1000 millimetres that lose 100 in the year, or 5 more for each 50 of the factor; surveyed behind it. */
    private static List<String> settling(String survey, String... behind) {
        List<String> lines = new ArrayList<>(List.of("row 0 0 100 = 1", "layer 0 0 500 = 0", "run 1 = 1", survey));
        lines.addAll(List.of(behind));
        return lines;
    }

    private static void fitRounds() {
        Run.due("Promise 21, 'Up to so many rounds, 1 .. 5', 'NONE when rounds are not such'", 1, 1,
            settling("survey 0 0 = 0", "fit 0 = -1", "fit -1 = -1", "fit 6 = -1", "fit INT_MIN = -1", "fit INT_MAX = -1", "factor 0 = 1000",
                "fit 1 = 1", "factor 0 = 1050", "fit 5 = 5", "factor 0 = 1300", "fit 0 = -1", "fit 6 = -1", "thickness 0 0 = 870000").toArray(new String[0]));
        Run.due("Promise 21, 'A round in which none is kept ends it, and does not count', up", 1, 1,
            settling("survey 0 885 = 0", "sum = 225", "fit 2 = 2", "factor 0 = 1100", "sum = 25", "height 0 = 890000", "fit 2 = 1", "factor 0 = 1150", "sum = 0",
                "height 0 = 885000", "fit 5 = 0", "factor 0 = 1150", "sum = 0", "height 0 = 885000").toArray(new String[0]));
        Run.due("Promise 21, 'A round in which none is kept ends it, and does not count', down", 1, 1,
            settling("survey 0 920 = 0", "sum = 400", "fit 5 = 4", "factor 0 = 800", "sum = 0", "height 0 = 920000", "fit 1 = 0", "factor 0 = 800").toArray(new String[0]));
        Run.due("Promise 21, no survey, no layer, nothing told", 2, 1,
            "fit 1 = 0", "fit 5 = 0", "layer 0 0 5 = 0", "row 0 0 300 = 1", "run 2 = 2", "fit 5 = 0", "factor 0 = 1000", "thickness 0 0 = 4900",
            "survey 1 9 = 0", "fit 5 = 0", "factor 0 = 1000", "factor 3 = 1000", "sum = 81");
    }

    private static void fitBounds() {
        Run.due("Promise 21, '(if that is not above 3000)'", 1, 1,
            settling("survey 0 0 = 0", "7 * fit 5 = 5", "factor 0 = 2750", "fit 4 = 4", "factor 0 = 2950", "fit 5 = 1", "factor 0 = 3000", "sum = 490000",
                "height 0 = 700000", "fit 5 = 0", "factor 0 = 3000", "height 0 = 700000", "survey 0 1000700 = 1", "sum = 1000000490000",
                "fit 1 = 1", "factor 0 = 2950", "height 0 = 705000", "sum = 999990497050").toArray(new String[0]));
        Run.due("Promise 21, '(not below 0)'", 1, 1,
            settling("survey 0 1000000 = 0", "3 * fit 5 = 5", "factor 0 = 250", "fit 4 = 4", "factor 0 = 50", "fit 5 = 1", "factor 0 = 0", "height 0 = 1000000",
                "fit 5 = 0", "factor 0 = 0", "height 0 = 1000000", "run 50 = 51", "height 0 = 1000000").toArray(new String[0]));
        Run.due("Promise 21, the least factor and up again", 1, 1,
            settling("survey 0 1000 = 0", "4 * fit 5 = 5", "factor 0 = 0", "fit 5 = 0", "run 1 = 2", "survey 0 0 = 1", "fit 1 = 1", "factor 0 = 50",
                "height 0 = 990025").toArray(new String[0]));
        Run.due("Promise 21, the most thousandths by the most factor", 1, 1,
            "row 0 0 300 = 1", "layer 0 0 500 = 0", "run 1 = 1", "survey 0 0 = 0", "8 * fit 5 = 5", "factor 0 = 3000", "height 0 = 100000", "fit 1 = 0",
            "run 1 = 2", "height 0 = 10000", "run 50 = 52", "height 0 = 1");
    }

    private static void fitKeepsOnlyLess() {
        Run.due("Promise 21, 'kept when the sum is less by it': the same sum is not", 1, 1,
            "row 0 0 1 = 1", "layer 0 0 1 = 0", "run 1 = 1", "thickness 0 0 = 1998", "survey 0 9 = 0", "sum = 64", "fit 5 = 0", "factor 0 = 1000",
            "thickness 0 0 = 1998");
        Run.due("Promise 21, 'else': the factor less 50 only when the one and 50 is not kept", 1, 1,
            "density 0 100 = 1", "row 0 0 100 = 1", "layer 0 0 1000000 = 0", "run 1 = 1", "height 0 = 9000000000",
            "survey 0 8000000 = 0", "survey 0 10000000 = 1", "survey 0 10000000 = 2", "sum = 3000000000000",
            "fit 1 = 1", "factor 0 = 1050", "sum = 2902500000000", "height 0 = 8950000000");
        Run.due("Promise 21, 'A round goes through kinds 0 .. 3', each by the sum that the one before left", 1, 1,
            "row 0 0 100 = 1", "row 1 0 100 = 1", "row 2 0 100 = 1", "row 3 0 100 = 1",
            "layer 0 0 500 = 0", "layer 0 1 500 = 1", "layer 0 2 500 = 2", "layer 0 3 500 = 3", "run 1 = 1", "survey 0 3585 = 0", "sum = 225",
            "fit 5 = 1", "factor 0 = 1050", "factor 1 = 1050", "factor 2 = 1050", "factor 3 = 1000", "sum = 0", "height 0 = 3585000");
        Run.due("Promise 21, the first and the last kind", 2, 1,
            "row 0 0 100 = 1", "row 3 0 100 = 1", "layer 0 0 500 = 0", "layer 1 3 500 = 0", "run 1 = 1", "survey 0 905 = 0", "survey 1 890 = 1",
            "fit 5 = 2", "factor 0 = 950", "factor 1 = 1000", "factor 2 = 1000", "factor 3 = 1100", "height 0 = 905000", "height 1 = 890000");
    }
}
