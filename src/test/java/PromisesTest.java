/** Each promise by answers worked out by hand: ordinary inputs, edges, and inputs that are refused. */
public final class PromisesTest {
    private static final long MIN = Long.MIN_VALUE;
    private static final long MAX = Long.MAX_VALUE;

    private PromisesTest() {
    }

    public static void main(String[] args) {
        newObject();
        newObjectIsEmpty();
        density();
        row();
        rowsByLoad();
        rowsFromThenOn();
        layer();
        roll();
        run();
        yearsRoundEachTime();
        cover();
        survey();
        height();
        thickness();
        mass();
        covered();
        surface();
        point();
        room();
        roomBySquares();
        phase();
        kept();
        crack();
        factor();
        sum();
        sumOfThen();
        fitUpAndDown();
        fitBounds();
        fitRounds();
        fitManyKinds();
        fitDoesAllAnew();
        twoHundred();
        refusedCountsNot();
        Due.end();
    }

    private static void newObject() {
        int[] columns = {1, 8, 0, 9, -1, Integer.MIN_VALUE, Integer.MAX_VALUE};
        int[] columnsDue = {1, 8, 1, 1, 1, 1, 1};
        for (int i = 0; i < columns.length; i++) {
            CellSettling x = new CellSettling(columns[i], 2);
            Due.is("1: last column of " + columns[i], x.height(columnsDue[i] - 1), 0);
            Due.is("1: behind the last of " + columns[i], x.height(columnsDue[i]), CellSettling.NONE);
            x.layer(0, 0, 2000);
            Due.is("1: side stays, columns " + columns[i], x.height(0), 1000000);
        }
        int[] sides = {1, 100, 10, 0, 101, -5, Integer.MIN_VALUE, Integer.MAX_VALUE};
        long[] thicknessDue = {2000000000, 200000, 20000000, 2000000000, 2000000000, 2000000000, 2000000000, 2000000000};
        for (int i = 0; i < sides.length; i++) {
            CellSettling x = new CellSettling(3, sides[i]);
            x.layer(2, 0, 1000000);
            Due.is("1: side " + sides[i], x.thickness(2, 0), thicknessDue[i]);
        }
        Due.is("1: NONE", CellSettling.NONE, -1);
    }

    private static void newObjectIsEmpty() {
        CellSettling x = new CellSettling(2, 1);
        Due.is("1: no layer", x.thickness(0, 0), -1);
        Due.is("1: no mass", x.mass(1, 3), 0);
        Due.is("1: no cover", x.covered(1), 0);
        Due.is("1: no surface", x.room(0, 0, 0), MIN);
        Due.no("1: no phase", x.kept(0));
        Due.is("1: no crack", x.crack(0, 0), -1);
        Due.is("1: no survey", x.sum(), 0);
        Due.is("1: factor", x.factor(3), 1000);
        Due.is("1: year 0", x.run(1), 1);
    }

    private static void density() {
        CellSettling x = new CellSettling(1, 1);
        x.layer(0, 2, 600);
        Due.yes("2: least", x.density(2, 100));
        x.layer(0, 2, 600);
        Due.yes("2: most", x.density(2, 3000));
        x.layer(0, 2, 600);
        Due.no("2: below", x.density(2, 99));
        Due.no("2: above", x.density(2, 3001));
        Due.no("2: 0", x.density(2, 0));
        Due.no("2: negative", x.density(2, Integer.MIN_VALUE));
        Due.no("2: kind 4", x.density(4, 700));
        Due.no("2: kind -1", x.density(-1, 700));
        x.layer(0, 2, 600);
        x.layer(0, 3, 600);
        Due.is("2: at first 500", x.thickness(0, 0), 1200000);
        Due.is("2: 100", x.thickness(0, 1), 6000000);
        Due.is("2: 3000", x.thickness(0, 2), 200000);
        Due.is("2: refused stays", x.thickness(0, 3), 200000);
        Due.is("2: another kind", x.thickness(0, 4), 1200000);
        Due.is("2: no survey, no round", x.fit(1), 0);
        Due.is("2: done anew by its density then", x.thickness(0, 0), 1200000);
    }

    private static void row() {
        CellSettling x = new CellSettling(1, 1);
        Due.no("3: kind -1", x.row(-1, 0, 1));
        Due.no("3: kind 4", x.row(4, 0, 1));
        Due.no("3: load -1", x.row(0, -1, 1));
        Due.no("3: load above", x.row(0, 100000001, 1));
        Due.no("3: load far below", x.row(0, MIN, 1));
        Due.no("3: load far above", x.row(0, MAX, 1));
        Due.no("3: thousandths -1", x.row(0, 0, -1));
        Due.no("3: thousandths 301", x.row(0, 0, 301));
        Due.yes("3: least", x.row(0, 0, 0));
        Due.no("3: same load", x.row(0, 0, 5));
        Due.yes("3: next", x.row(0, 1, 300));
        Due.no("3: lesser load", x.row(0, 0, 5));
        Due.yes("3: third", x.row(0, 99999999, 5));
        Due.yes("3: fourth, most load", x.row(0, 100000000, 5));
        Due.yes("3: other kind, own loads", x.row(1, 0, 5));
        CellSettling y = new CellSettling(1, 1);
        for (int i = 0; i < 4; i++) {
            Due.yes("3: one of four", y.row(3, i, 5));
        }
        Due.no("3: a fifth", y.row(3, 4, 5));
    }

    private static void rowsByLoad() {
        CellSettling x = new CellSettling(1, 1);
        x.row(0, 100, 100);
        x.row(0, 200, 200);
        x.row(0, 300, 50);
        x.layer(0, 0, 500);
        x.layer(0, 0, 100);
        x.layer(0, 0, 1);
        x.layer(0, 0, 99);
        x.layer(0, 0, 100);
        x.run(1);
        Due.is("3: load 300", x.thickness(0, 0), 950000);
        Due.is("3: load 200", x.thickness(0, 1), 160000);
        Due.is("3: load 199", x.thickness(0, 2), 1800);
        Due.is("3: load 100", x.thickness(0, 3), 178200);
        Due.is("3: load 0, below every row", x.thickness(0, 4), 200000);
    }

    private static void rowsFromThenOn() {
        CellSettling x = new CellSettling(1, 1);
        x.layer(0, 0, 500);
        x.run(1);
        Due.is("3: no row", x.thickness(0, 0), 1000000);
        x.row(0, 0, 100);
        Due.is("3: a row alone", x.thickness(0, 0), 1000000);
        x.run(1);
        Due.is("3: a row then", x.thickness(0, 0), 900000);
        x.fit(1);
        Due.is("3: anew, the row in its place", x.thickness(0, 0), 900000);
    }

    private static void layer() {
        CellSettling x = new CellSettling(2, 3);
        Due.is("4: column -1", x.layer(-1, 0, 5), -1);
        Due.is("4: column 2", x.layer(2, 0, 5), -1);
        Due.is("4: kind -1", x.layer(0, -1, 5), -1);
        Due.is("4: kind 4", x.layer(0, 4, 5), -1);
        Due.is("4: kilograms 0", x.layer(0, 0, 0), -1);
        Due.is("4: kilograms -1", x.layer(0, 0, -1), -1);
        Due.is("4: kilograms above", x.layer(0, 0, 1000001), -1);
        Due.is("4: kilograms far above", x.layer(0, 0, (1L << 32) + 5), -1);
        Due.is("4: still empty", x.height(0), 0);
        Due.is("4: least", x.layer(0, 0, 1), 0);
        Due.is("4: 1000000 / 4500, down", x.thickness(0, 0), 222);
        Due.is("4: most", x.layer(0, 3, 1000000), 1);
        Due.is("4: 10^12 / 4500, down", x.thickness(0, 1), 222222222);
        Due.is("4: by column", x.layer(1, 0, 9), 0);
        for (int i = 2; i < 10; i++) {
            Due.is("4: number", x.layer(0, 1, 7), i);
        }
        Due.is("4: an eleventh", x.layer(0, 1, 7), -1);
        Due.is("4: no eleventh", x.thickness(0, 10), -1);
        Due.is("4: other column goes on", x.layer(1, 0, 9), 1);
        CellSettling thick = new CellSettling(1, 1);
        thick.density(0, 100);
        thick.layer(0, 0, 1000000);
        Due.is("4: thickest", thick.thickness(0, 0), 10000000000L);
    }

    private static void roll() {
        CellSettling x = new CellSettling(2, 1);
        Due.no("5: no layer", x.roll(0, 1));
        x.layer(0, 0, 1);
        Due.no("5: passes 0", x.roll(0, 0));
        Due.no("5: passes -1", x.roll(0, -1));
        Due.no("5: passes 21", x.roll(0, 21));
        Due.no("5: column 2", x.roll(2, 1));
        Due.no("5: column -1", x.roll(-1, 1));
        Due.no("5: other column has none", x.roll(1, 1));
        Due.is("5: refused", x.thickness(0, 0), 2000);
        Due.yes("5: one", x.roll(0, 1));
        Due.is("5: 2000 - 250", x.thickness(0, 0), 1750);
        Due.yes("5: two", x.roll(0, 2));
        Due.is("5: 1750 - 194 - 155", x.thickness(0, 0), 1401);
        x.layer(0, 0, 1);
        Due.yes("5: the topmost", x.roll(0, 1));
        Due.is("5: the new one from 8 on", x.thickness(0, 1), 1750);
        Due.is("5: the lower one stays", x.thickness(0, 0), 1401);
        x.layer(1, 0, 1);
        Due.yes("5: twenty", x.roll(1, 20));
        Due.is("5: by twenty", x.thickness(1, 0), rolled(2000, 0, 20));
        Due.yes("5: twenty more", x.roll(1, 20));
        Due.is("5: by forty", x.thickness(1, 0), rolled(2000, 0, 40));
    }

    private static long rolled(long t, int before, int passes) {
        long left = t;
        for (int i = 0; i < passes; i++) {
            left = left - left / (8 + before + i);
        }
        return left;
    }

    private static void run() {
        CellSettling x = new CellSettling(1, 1);
        Due.is("6: 0", x.run(0), -1);
        Due.is("6: -1", x.run(-1), -1);
        Due.is("6: 51", x.run(51), -1);
        Due.is("6: far above", x.run(Integer.MAX_VALUE), -1);
        Due.is("6: far below", x.run(Integer.MIN_VALUE), -1);
        Due.is("6: 50", x.run(50), 50);
        Due.is("6: 1", x.run(1), 51);
        Due.is("6: above 100", x.run(50), -1);
        Due.is("6: to 100", x.run(49), 100);
        Due.is("6: 101", x.run(1), -1);
        x.fit(1);
        Due.is("6: the year stays through a fit", x.run(1), -1);
    }

    private static void yearsRoundEachTime() {
        CellSettling x = new CellSettling(1, 1);
        x.row(0, 0, 150);
        x.layer(0, 0, 1);
        x.layer(0, 1, 1000);
        x.cover(0, 500);
        x.run(3);
        Due.is("6: 2000 - 300 - 255 - 216", x.thickness(0, 0), 1229);
        Due.is("6: a kind without rows", x.thickness(0, 1), 2000000);
        Due.is("6: covers do not settle", x.height(0), 2501229);
    }

    private static void cover() {
        CellSettling x = new CellSettling(2, 1);
        Due.no("7: 0", x.cover(0, 0));
        Due.no("7: -1", x.cover(0, -1));
        Due.no("7: 10001", x.cover(0, 10001));
        Due.no("7: column 2", x.cover(2, 5));
        Due.no("7: column -1", x.cover(-1, 5));
        Due.is("7: refused", x.height(0), 0);
        Due.yes("7: least", x.cover(0, 1));
        Due.yes("7: most", x.cover(0, 10000));
        Due.is("7: height", x.height(0), 10001000);
        Due.is("7: other column", x.height(1), 0);
        x.row(0, 1, 300);
        x.layer(0, 0, 1);
        x.cover(0, 10000);
        x.run(1);
        Due.is("7: no load", x.thickness(0, 0), 2000);
        Due.is("7: no mass", x.mass(0, 0), 1);
    }

    private static void survey() {
        CellSettling x = new CellSettling(2, 1);
        Due.is("8: column 2", x.survey(2, 5), -1);
        Due.is("8: column -1", x.survey(-1, 5), -1);
        Due.is("8: -1", x.survey(0, -1), -1);
        Due.is("8: above", x.survey(0, 1000000001), -1);
        Due.is("8: far above", x.survey(0, MAX), -1);
        Due.is("8: far below", x.survey(0, MIN), -1);
        Due.is("8: refused", x.sum(), 0);
        for (int i = 0; i < 12; i++) {
            Due.is("8: number", x.survey(i % 2, i == 0 ? 1000000000L : i - 1), i);
        }
        Due.is("8: a thirteenth", x.survey(0, 100), -1);
        Due.is("8: twelve alone count", x.sum(), 1000000000000L + 385);
    }

    private static void height() {
        CellSettling x = new CellSettling(2, 1);
        x.layer(0, 0, 3);
        x.layer(0, 1, 4);
        x.cover(0, 7);
        Due.is("9: layers and covers", x.height(0), 21000);
        Due.is("9: nothing", x.height(1), 0);
        Due.is("9: 2", x.height(2), -1);
        Due.is("9: -1", x.height(-1), -1);
        Due.is("9: far below", x.height(Integer.MIN_VALUE), -1);
        CellSettling high = new CellSettling(1, 1);
        high.density(0, 100);
        for (int i = 0; i < 10; i++) {
            high.layer(0, 0, 1000000);
        }
        Due.is("9: highest", high.height(0), 100000000000L);
    }

    private static void thickness() {
        CellSettling x = new CellSettling(2, 1);
        x.layer(0, 0, 3);
        x.layer(0, 1, 4);
        Due.is("10: lower", x.thickness(0, 0), 6000);
        Due.is("10: upper", x.thickness(0, 1), 8000);
        Due.is("10: no layer 2", x.thickness(0, 2), -1);
        Due.is("10: no layer -1", x.thickness(0, -1), -1);
        Due.is("10: far above", x.thickness(0, Integer.MAX_VALUE), -1);
        Due.is("10: empty column", x.thickness(1, 0), -1);
        Due.is("10: no column 2", x.thickness(2, 0), -1);
        Due.is("10: no column -1", x.thickness(-1, 0), -1);
    }

    private static void mass() {
        CellSettling x = new CellSettling(2, 1);
        x.layer(0, 0, 3);
        x.layer(0, 3, 4);
        x.layer(0, 0, 5);
        x.layer(1, 0, 100);
        x.roll(0, 5);
        x.row(0, 0, 300);
        x.run(9);
        Due.is("11: both", x.mass(0, 0), 8);
        Due.is("11: one", x.mass(0, 3), 4);
        Due.is("11: none", x.mass(0, 1), 0);
        Due.is("11: other column", x.mass(1, 0), 100);
        Due.is("11: kind 4", x.mass(0, 4), -1);
        Due.is("11: kind -1", x.mass(0, -1), -1);
        Due.is("11: column 2", x.mass(2, 0), -1);
        Due.is("11: column -1", x.mass(-1, 0), -1);
    }

    private static void covered() {
        CellSettling x = new CellSettling(2, 1);
        x.cover(1, 10000);
        x.cover(1, 7);
        x.layer(1, 0, 3);
        Due.is("12: both", x.covered(1), 10007);
        Due.is("12: none", x.covered(0), 0);
        Due.is("12: column 2", x.covered(2), -1);
        Due.is("12: column -1", x.covered(-1), -1);
        x.fit(1);
        Due.is("12: done anew", x.covered(1), 10007);
    }

    private static void surface() {
        CellSettling x = new CellSettling(1, 1);
        for (int i = 0; i < 4; i++) {
            Due.is("13: not yet there", x.room(i, i, 1), MIN);
            Due.is("13: number", x.surface(), i);
            Due.is("13: there", x.room(i, i, 1), 1);
        }
        Due.is("13: a fifth", x.surface(), -1);
        Due.is("13: no fifth", x.room(4, 0, 0), MIN);
        Due.is("13: four stay", x.room(3, 0, 0), 0);
    }

    private static void point() {
        CellSettling x = new CellSettling(1, 1);
        Due.no("14: no surface yet", x.point(0, 0, 0, 0));
        x.surface();
        Due.no("14: surface -1", x.point(-1, 0, 0, 0));
        Due.no("14: surface 1", x.point(1, 0, 0, 0));
        Due.no("14: x -1", x.point(0, -1, 0, 0));
        Due.no("14: x 5", x.point(0, 5, 0, 0));
        Due.no("14: y -1", x.point(0, 1, -1, 0));
        Due.no("14: y 5", x.point(0, 0, 5, 0));
        Due.no("14: z above", x.point(0, 0, 0, 100001));
        Due.no("14: z below", x.point(0, 0, 0, -100001));
        Due.no("14: z far below", x.point(0, 0, 0, Integer.MIN_VALUE));
        Due.yes("14: most", x.point(0, 0, 0, 100000));
        Due.yes("14: least", x.point(0, 4, 4, -100000));
        Due.yes("14: corner", x.point(0, 4, 0, 0));
        Due.yes("14: corner", x.point(0, 0, 4, 0));
        x.surface();
        square(x, 0, 0, 0, new int[] {0, 0, 0, 0});
        square(x, 1, 0, 0, new int[] {6, 6, 6, 6});
        Due.is("14: as told", x.room(0, 1, 0), 6);
        x.point(1, 0, 0, 9);
        x.point(1, 0, 0, 12);
        Due.is("14: told again", x.room(0, 1, 0), 8);
        x.point(1, 0, 0, 100001);
        x.point(1, 0, 5, 7);
        Due.is("14: refused", x.room(0, 1, 0), 8);
    }

    /** Tells the four points of a square: x y, x y+1, x+1 y, x+1 y+1. */
    private static void square(CellSettling c, int surface, int x, int y, int[] z) {
        c.point(surface, x, y, z[0]);
        c.point(surface, x, y + 1, z[1]);
        c.point(surface, x + 1, y, z[2]);
        c.point(surface, x + 1, y + 1, z[3]);
    }

    private static void room() {
        int[][] heights = {{1, 0, 0, 0}, {0, 1, 0, 0}, {0, 0, 1, 0}, {0, 0, 0, 1}, {-1, 0, 0, 0}, {0, 3, 0, 0}, {7, 1, 2, 3}, {1, 0, 0, -1}};
        int[] aboveSide1 = {1, 1, 1, 1, -1, 1, 23, 0};
        int[] belowSide1 = {3, 6, 6, 3, 3, 2, 6, 1};
        int[] aboveSide3 = {3, 3, 3, 3, -3, 9, 69, 0};
        int[] belowSide3 = {1, 2, 2, 1, 1, 2, 2, 1};
        for (int i = 0; i < heights.length; i++) {
            CellSettling one = flatAnd(1, heights[i]);
            Due.is("15: above, side 1, " + i, one.room(0, 1, 0), aboveSide1[i]);
            Due.is("15: below, side 1, " + i, one.room(0, 1, 1), belowSide1[i]);
            Due.is("15: back, above " + i, one.room(1, 0, 0), -aboveSide1[i]);
            Due.is("15: back, below " + i, one.room(1, 0, 1), belowSide1[i]);
            CellSettling three = flatAnd(3, heights[i]);
            Due.is("15: above, side 3, " + i, three.room(0, 1, 0), aboveSide3[i]);
            Due.is("15: below, side 3, " + i, three.room(0, 1, 1), belowSide3[i]);
        }
        CellSettling x = flatAnd(1, new int[] {1, 1, 1, 1});
        Due.is("15: to itself", x.room(1, 1, 0), 0);
        Due.is("15: to itself, below", x.room(1, 1, 1), 1);
        Due.is("15: part -1", x.room(0, 1, -1), MIN);
        Due.is("15: part 2", x.room(0, 1, 2), MIN);
        Due.is("15: surface 2", x.room(2, 1, 0), MIN);
        Due.is("15: to surface 2", x.room(0, 2, 1), MIN);
        Due.is("15: surface -1", x.room(-1, 0, 0), MIN);
        Due.is("15: to surface -1", x.room(0, -1, 0), MIN);
    }

    private static CellSettling flatAnd(int side, int[] heights) {
        CellSettling x = new CellSettling(1, side);
        x.surface();
        x.surface();
        square(x, 0, 3, 3, new int[] {0, 0, 0, 0});
        square(x, 1, 3, 3, heights);
        return x;
    }

    private static void roomBySquares() {
        CellSettling x = new CellSettling(1, 100);
        x.surface();
        x.surface();
        for (int i = 0; i < 25; i++) {
            x.point(0, i / 5, i % 5, -100000);
        }
        for (int i = 0; i < 24; i++) {
            x.point(1, i / 5, i % 5, 100000);
        }
        Due.is("15: fifteen whole squares", x.room(0, 1, 0), 15L * 10000 * 200000);
        x.point(1, 4, 4, 100000);
        Due.is("15: sixteen", x.room(0, 1, 0), 16L * 10000 * 200000);
        Due.is("15: sixteen, back", x.room(1, 0, 0), -16L * 10000 * 200000);
        CellSettling y = new CellSettling(1, 1);
        y.surface();
        y.surface();
        for (int i = 0; i < 25; i++) {
            y.point(0, i / 5, i % 5, 0);
        }
        square(y, 1, 1, 2, new int[] {5, 5, 5, 5});
        Due.is("15: one square told in both", y.room(0, 1, 0), 5);
        y.point(1, 2, 1, 5);
        y.point(1, 4, 4, 5);
        Due.is("15: three points are no square", y.room(0, 1, 0), 5);
        y.point(1, 1, 1, 5);
        Due.is("15: beside it", y.room(0, 1, 0), 10);
    }

    private static void phase() {
        CellSettling x = new CellSettling(3, 1);
        Due.is("16: from -1", x.phase(-1, 1, 5), -1);
        Due.is("16: to 3", x.phase(0, 3, 5), -1);
        Due.is("16: from 3", x.phase(3, 3, 5), -1);
        Due.is("16: behind", x.phase(2, 1, 5), -1);
        Due.is("16: to -1", x.phase(0, -1, 5), -1);
        Due.is("16: slope -1", x.phase(0, 1, -1), -1);
        Due.is("16: slope above", x.phase(0, 1, 1000000001), -1);
        Due.is("16: slope far above", x.phase(0, 1, MAX), -1);
        Due.no("16: refused", x.kept(0));
        Due.is("16: same column", x.phase(1, 1, 0), 0);
        Due.is("16: all", x.phase(0, 2, 1000000000), 1);
        Due.is("16: two", x.phase(1, 2, 5), 2);
        Due.is("16: again", x.phase(1, 2, 5), 3);
        Due.is("16: a fifth", x.phase(1, 2, 5), -1);
        Due.no("16: no fifth", x.kept(4));
    }

    private static void kept() {
        CellSettling x = new CellSettling(4, 1);
        x.cover(0, 100);
        x.layer(1, 0, 50);
        x.cover(2, 101);
        x.phase(0, 1, 0);
        x.phase(0, 2, 999);
        x.phase(0, 2, 1000);
        x.phase(3, 3, 0);
        Due.yes("17: 100000 and 100000", x.kept(0));
        Due.no("17: 1000 apart, slope 999", x.kept(1));
        Due.yes("17: 1000 apart, slope 1000; 3 is not in the phase", x.kept(2));
        Due.yes("17: one column", x.kept(3));
        Due.no("17: 4", x.kept(4));
        Due.no("17: -1", x.kept(-1));
        x.cover(0, 2);
        Due.no("17: falling by 2000", x.kept(2));
        x.cover(1, 2);
        Due.yes("17: as heights are now", x.kept(2));
    }

    private static void crack() {
        CellSettling x = new CellSettling(5, 1);
        x.cover(0, 5);
        x.cover(2, 3);
        x.cover(3, 3);
        x.cover(4, 7);
        Due.is("18: first", x.crack(0, 0), 0);
        Due.is("18: second", x.crack(1, 0), 1);
        Due.is("18: third, over equal ones", x.crack(2, 0), 3);
        Due.is("18: no fourth: the last has no next", x.crack(3, 0), -1);
        Due.is("18: 3000 is not more than 3000", x.crack(1, 3000), 3);
        Due.is("18: 3000 is more than 2999", x.crack(1, 2999), 1);
        Due.is("18: 5000", x.crack(0, 5000), -1);
        Due.is("18: 4999", x.crack(0, 4999), 0);
        Due.is("18: k -1", x.crack(-1, 0), -1);
        Due.is("18: apart -1", x.crack(0, -1), -1);
        Due.is("18: k far above", x.crack(Integer.MAX_VALUE, 0), -1);
        Due.is("18: apart far above", x.crack(0, MAX), -1);
        Due.is("18: apart far below", x.crack(0, MIN), -1);
        CellSettling one = new CellSettling(1, 1);
        one.cover(0, 5);
        Due.is("18: one column", one.crack(0, 0), -1);
    }

    private static void factor() {
        CellSettling x = new CellSettling(1, 1);
        for (int i = 0; i < 4; i++) {
            Due.is("19: at first", x.factor(i), 1000);
        }
        Due.is("19: 4", x.factor(4), -1);
        Due.is("19: -1", x.factor(-1), -1);
        Due.is("19: far below", x.factor(Integer.MIN_VALUE), -1);
    }

    private static void sum() {
        CellSettling x = new CellSettling(2, 1);
        Due.is("20: none", x.sum(), 0);
        x.layer(0, 0, 1);
        x.layer(0, 0, 1);
        x.roll(0, 1);
        x.survey(0, 3);
        Due.is("20: 3750 down is 3", x.sum(), 0);
        x.survey(0, 5);
        Due.is("20: below", x.sum(), 4);
        x.survey(1, 7);
        Due.is("20: all together", x.sum(), 53);
        x.survey(1, 1000000);
        Due.is("20: just not cut", x.sum(), 1000000000053L);
        x.survey(1, 1000001);
        Due.is("20: cut below", x.sum(), 2000000000053L);
        CellSettling high = new CellSettling(1, 1);
        high.layer(0, 0, 1000000);
        high.survey(0, 999999);
        Due.is("20: cut above", high.sum(), 1000000000000L);
        high.survey(0, 1000001);
        Due.is("20: just not cut above", high.sum(), 1000000000000L + 999999L * 999999L);
    }

    private static void sumOfThen() {
        CellSettling x = new CellSettling(1, 1);
        x.row(0, 0, 100);
        x.layer(0, 0, 50);
        x.cover(0, 20);
        x.survey(0, 110);
        x.cover(0, 1000);
        x.run(1);
        x.layer(0, 0, 500);
        x.roll(0, 3);
        Due.is("20: the height then", x.sum(), 100);
        x.density(0, 100);
        Due.is("20: density later", x.sum(), 100);
    }

    private static CellSettling settling(long surveyed) {
        CellSettling x = new CellSettling(1, 1);
        x.row(0, 0, 100);
        x.layer(0, 0, 500);
        x.run(1);
        x.survey(0, surveyed);
        return x;
    }

    private static void fitUpAndDown() {
        CellSettling up = settling(890);
        Due.is("21: one up", up.fit(1), 1);
        Due.is("21: factor", up.factor(0), 1050);
        Due.is("21: sum", up.sum(), 25);
        Due.is("21: thickness", up.thickness(0, 0), 895000);
        Due.is("21: then one more", up.fit(5), 1);
        Due.is("21: factor", up.factor(0), 1100);
        Due.is("21: sum", up.sum(), 0);
        Due.is("21: thickness, though the last try was another", up.thickness(0, 0), 890000);
        Due.is("21: at its end", up.fit(5), 0);
        Due.is("21: stays", up.factor(0), 1100);
        Due.is("21: stays", up.thickness(0, 0), 890000);
        up.run(1);
        Due.is("21: years from now on by it", up.thickness(0, 0), 792100);
        CellSettling down = settling(910);
        Due.is("21: two down", down.fit(5), 2);
        Due.is("21: factor", down.factor(0), 900);
        Due.is("21: height", down.height(0), 910000);
        Due.is("21: other kinds stay", down.factor(1), 1000);
    }

    private static void fitBounds() {
        CellSettling x = settling(0);
        int[] wrong = {0, -1, 6, Integer.MIN_VALUE, Integer.MAX_VALUE};
        for (int rounds : wrong) {
            Due.is("21: rounds " + rounds, x.fit(rounds), -1);
            Due.is("21: refused changes nothing", x.factor(0), 1000);
        }
        for (int i = 0; i < 8; i++) {
            Due.is("21: five more", x.fit(5), 5);
        }
        Due.is("21: 3000 is not passed", x.fit(5), 0);
        Due.is("21: most", x.factor(0), 3000);
        Due.is("21: by it", x.thickness(0, 0), 700000);
        CellSettling y = settling(1000000);
        for (int i = 0; i < 4; i++) {
            Due.is("21: five less", y.fit(5), 5);
        }
        Due.is("21: 0 is not passed", y.fit(5), 0);
        Due.is("21: least", y.factor(0), 0);
        Due.is("21: by it", y.thickness(0, 0), 1000000);
        y.survey(0, 1000);
        y.run(5);
        Due.is("21: nothing settles", y.height(0), 1000000);
    }

    /** At the most factor only the lesser one is tried; at the least one only the greater one. */
    private static void fitRounds() {
        CellSettling x = settling(0);
        for (int i = 0; i < 8; i++) {
            x.fit(5);
        }
        x.survey(0, 1000000);
        Due.is("21: down from the most", x.fit(1), 1);
        Due.is("21: factor", x.factor(0), 2950);
        CellSettling y = settling(1000);
        for (int i = 0; i < 4; i++) {
            y.fit(5);
        }
        Due.is("21: the least", y.factor(0), 0);
        y.run(1);
        y.survey(0, 0);
        Due.is("21: up from the least", y.fit(1), 1);
        Due.is("21: factor", y.factor(0), 50);
    }

    private static void fitManyKinds() {
        CellSettling x = new CellSettling(4, 1);
        long[] surveyed = {890, 900, 905, 880};
        int[] factors = {1100, 1000, 950, 1200};
        for (int i = 0; i < 4; i++) {
            x.row(i, 0, 100);
            x.layer(i, i, 500);
        }
        x.run(1);
        for (int i = 0; i < 4; i++) {
            x.survey(i, surveyed[i]);
        }
        Due.is("21: rounds until none is kept", x.fit(5), 4);
        for (int i = 0; i < 4; i++) {
            Due.is("21: factor of " + i, x.factor(i), factors[i]);
            Due.is("21: height of " + i, x.height(i), surveyed[i] * 1000);
        }
        CellSettling y = new CellSettling(1, 1);
        for (int i = 0; i < 2; i++) {
            y.row(i, 0, 100);
            y.layer(0, i, 500);
        }
        y.run(1);
        y.survey(0, 1795);
        Due.is("21: the first kind does it", y.fit(5), 1);
        Due.is("21: kept", y.factor(0), 1050);
        Due.is("21: no longer less", y.factor(1), 1000);
    }

    private static void fitDoesAllAnew() {
        CellSettling x = new CellSettling(1, 1);
        x.layer(0, 0, 500);
        x.run(1);
        x.row(0, 0, 100);
        x.run(1);
        x.survey(0, 895);
        x.density(0, 1000);
        x.cover(0, 9);
        x.roll(0, 1);
        x.layer(0, 0, 1);
        Due.is("21: one", x.fit(1), 1);
        Due.is("21: rolled after it settled anew", x.thickness(0, 0), 783125);
        Due.is("21: density of its time", x.thickness(0, 1), 1000);
        Due.is("21: with its cover", x.height(0), 793125);
        Due.yes("21: passes are those of before", x.roll(0, 1));
        Due.is("21: rolled", x.thickness(0, 1), 875);
        Due.no("21: rows are those of before", x.row(0, 0, 5));
        Due.yes("21: a row more", x.row(0, 1, 5));
        Due.is("21: surveys are those of before", x.survey(0, 0), 1);
        Due.is("21: the year is that of before", x.run(50), 52);
    }

    private static void twoHundred() {
        CellSettling x = new CellSettling(2, 1);
        Due.yes("3: told", x.row(0, 0, 100));
        Due.is("4: told", x.layer(0, 0, 500), 0);
        Due.is("6: told", x.run(1), 1);
        Due.is("8: told", x.survey(0, 800), 0);
        Due.yes("5: told", x.roll(0, 1));
        for (int i = 5; i < 199; i++) {
            Due.yes("7: told", x.cover(1, 1));
        }
        Due.yes("7: the 200th", x.cover(1, 1));
        Due.no("3: 200 were told", x.row(0, 5, 10));
        Due.is("4: 200 were told", x.layer(0, 0, 5), -1);
        Due.no("5: 200 were told", x.roll(0, 1));
        Due.is("6: 200 were told", x.run(1), -1);
        Due.no("7: 200 were told", x.cover(0, 1));
        Due.is("8: 200 were told", x.survey(0, 5), -1);
        Due.yes("2: is not told", x.density(0, 700));
        Due.is("13: is not told", x.surface(), 0);
        Due.yes("14: is not told", x.point(0, 0, 0, 0));
        Due.is("16: is not told", x.phase(0, 1, 5), 0);
        Due.is("12: all of them", x.covered(1), 195);
        Due.is("12: none", x.covered(0), 0);
        Due.is("21: all 200 done anew", x.fit(5), 5);
        Due.is("19: factor", x.factor(0), 1250);
        Due.is("10: thickness", x.thickness(0, 0), 765625);
        Due.is("12: still all", x.covered(1), 195);
        Due.is("4: refused stays refused", x.thickness(0, 1), -1);
    }

    private static void refusedCountsNot() {
        CellSettling x = new CellSettling(1, 1);
        for (int i = 0; i < 20; i++) {
            x.row(0, -1, 1);
            x.layer(0, 0, 0);
            x.roll(0, 1);
            x.run(0);
            x.cover(0, 0);
            x.survey(0, -1);
            x.density(0, 200);
            x.surface();
            x.phase(0, 0, 1);
            x.fit(1);
        }
        for (int i = 0; i < 200; i++) {
            Due.yes("7: refused ones and others are not told", x.cover(0, 1));
        }
        Due.no("7: 200 were told", x.cover(0, 1));
    }
}
