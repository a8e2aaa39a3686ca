/**
 * A landfill by columns and layers that settle year by year; the document's promises say what each
 * call does. What stands here is at all times what was told, done from the beginning by the factors
 * as they are: so the sum of surveys is kept along the way, and only a fit does things anew.
 */
public final class CellSettling {
    public static final int NONE = -1;

    private static final int MOST_COLUMNS = 8;
    private static final int MOST_SIDE = 100;
    private static final int KINDS = 4;
    private static final int LEAST_DENSITY = 100;
    private static final int MOST_DENSITY = 3000;
    private static final long MOST_KILOGRAMS = 1000000;
    private static final int MOST_PASSES = 20;
    private static final int MOST_YEARS_A_RUN = 50;
    private static final int MOST_YEARS = 100;
    private static final int MOST_COVER = 10000;
    private static final int MOST_SURVEYS = 12;
    private static final long MOST_SURVEYED = 1000000000;
    private static final long MOST_OFF = 1000000;
    private static final int MOST_SURFACES = 4;
    private static final int MOST_Z = 100000;
    private static final int MOST_PHASES = 4;
    private static final long MOST_SLOPE = 1000000000;
    private static final int MOST_FACTOR = 3000;
    private static final int FACTOR_STEP = 50;
    private static final int MOST_ROUNDS = 5;
    private static final long MICROMETRES_A_METRE = 1000000;
    private static final long MICROMETRES_A_MILLIMETRE = 1000;

    private final int side;
    private final Column[] columns;
    private final Kind[] kinds;
    private final Told told;
    private final Surface[] surfaces;
    private final Phase[] phases;
    private int surfaceCount;
    private int phaseCount;
    private int year;
    private int surveyCount;
    private long squares;

    public CellSettling(int columns, int side) {
        this.side = isWithin(side, 1, MOST_SIDE) ? side : 1;
        this.columns = new Column[isWithin(columns, 1, MOST_COLUMNS) ? columns : 1];
        for (int i = 0; i < this.columns.length; i++) {
            this.columns[i] = new Column();
        }
        kinds = new Kind[KINDS];
        for (int i = 0; i < KINDS; i++) {
            kinds[i] = new Kind();
        }
        told = new Told();
        surfaces = new Surface[MOST_SURFACES];
        phases = new Phase[MOST_PHASES];
    }

    public boolean density(int kind, int v) {
        Kind of = kindAt(kind);
        if (of == null || !isWithin(v, LEAST_DENSITY, MOST_DENSITY)) {
            return false;
        }
        of.density = v;
        return true;
    }

    public boolean row(int kind, long load, int thousandths) {
        Kind of = kindAt(kind);
        if (of == null || !of.takesRow(load, thousandths) || told.isFull()) {
            return false;
        }
        tell(Told.ROW, kind, thousandths, load, 0);
        return true;
    }

    public int layer(int column, int kind, long kilograms) {
        Column at = columnAt(column);
        Kind of = kindAt(kind);
        if (at == null || of == null || !isWithin(kilograms, 1, MOST_KILOGRAMS)) {
            return NONE;
        }
        if (at.isFull() || told.isFull()) {
            return NONE;
        }
        tell(Told.LAYER, column, kind, kilograms, firstThickness(of, kilograms));
        return at.layerCount - 1;
    }

    public boolean roll(int column, int passes) {
        Column at = columnAt(column);
        if (at == null || at.layerCount == 0 || !isWithin(passes, 1, MOST_PASSES) || told.isFull()) {
            return false;
        }
        tell(Told.ROLL, column, passes, 0, 0);
        return true;
    }

    public int run(int years) {
        if (!isWithin(years, 1, MOST_YEARS_A_RUN) || year + years > MOST_YEARS || told.isFull()) {
            return NONE;
        }
        tell(Told.RUN, 0, years, 0, 0);
        return year;
    }

    public boolean cover(int column, int millimetres) {
        if (columnAt(column) == null || !isWithin(millimetres, 1, MOST_COVER) || told.isFull()) {
            return false;
        }
        tell(Told.COVER, column, millimetres, 0, 0);
        return true;
    }

    public int survey(int column, long millimetres) {
        if (columnAt(column) == null || !isWithin(millimetres, 0, MOST_SURVEYED)) {
            return NONE;
        }
        if (surveyCount >= MOST_SURVEYS || told.isFull()) {
            return NONE;
        }
        tell(Told.SURVEY, column, 0, millimetres, 0);
        return surveyCount - 1;
    }

    public long height(int column) {
        Column at = columnAt(column);
        return at == null ? NONE : at.top();
    }

    public long thickness(int column, int layer) {
        Column at = columnAt(column);
        if (at == null || !isWithin(layer, 0, at.layerCount - 1)) {
            return NONE;
        }
        return at.thicknesses[layer];
    }

    public long mass(int column, int kind) {
        Column at = columnAt(column);
        if (at == null || kindAt(kind) == null) {
            return NONE;
        }
        return at.kilogramsOf(kind);
    }

    public int covered(int column) {
        Column at = columnAt(column);
        return at == null ? NONE : at.covers;
    }

    public int surface() {
        if (surfaceCount >= MOST_SURFACES) {
            return NONE;
        }
        surfaces[surfaceCount] = new Surface();
        surfaceCount++;
        return surfaceCount - 1;
    }

    public boolean point(int surface, int x, int y, int z) {
        Surface of = surfaceAt(surface);
        if (of == null || !Surface.isPlace(x, y) || !isWithin(z, -MOST_Z, MOST_Z)) {
            return false;
        }
        of.put(x, y, z);
        return true;
    }

    public long room(int a, int b, int part) {
        Surface from = surfaceAt(a);
        Surface to = surfaceAt(b);
        if (from == null || to == null || !isWithin(part, 0, 1)) {
            return Long.MIN_VALUE;
        }
        long sixfold = from.sixfoldTo(to) * side * side;
        long divisor = sharedWithSix(sixfold);
        return part == 0 ? sixfold / divisor : 6 / divisor;
    }

    public int phase(int from, int to, long slope) {
        if (columnAt(from) == null || columnAt(to) == null || from > to) {
            return NONE;
        }
        if (!isWithin(slope, 0, MOST_SLOPE) || phaseCount >= MOST_PHASES) {
            return NONE;
        }
        phases[phaseCount] = new Phase(from, to, slope);
        phaseCount++;
        return phaseCount - 1;
    }

    public boolean kept(int phase) {
        Phase of = phaseAt(phase);
        if (of == null) {
            return false;
        }
        for (int i = of.from; i < of.to; i++) {
            if (stepBehind(i) > of.slope) {
                return false;
            }
        }
        return true;
    }

    public int crack(int k, long apart) {
        if (k < 0 || apart < 0) {
            return NONE;
        }
        int before = 0;
        for (int i = 0; i < columns.length - 1; i++) {
            if (stepBehind(i) > apart) {
                if (before == k) {
                    return i;
                }
                before++;
            }
        }
        return NONE;
    }

    public int factor(int kind) {
        Kind of = kindAt(kind);
        return of == null ? NONE : of.factor;
    }

    public long sum() {
        return squares;
    }

    public int fit(int rounds) {
        if (!isWithin(rounds, 1, MOST_ROUNDS)) {
            return NONE;
        }
        long least = squares;
        int counted = 0;
        for (int i = 0; i < rounds; i++) {
            long before = least;
            for (int kind = 0; kind < KINDS; kind++) {
                least = leastByKind(kinds[kind], least);
            }
            if (least >= before) {
                break;
            }
            counted++;
        }
        // The last try may have been one that was not kept.
        doAllAnew();
        return counted;
    }

    /**
     * The lesser sum that a kind's next factor comes to, or the one before. Leaves the kind with the
     * factor that is kept; the columns may be those of a try that is not.
     */
    private long leastByKind(Kind kind, long before) {
        int factor = kind.factor;
        for (int step = FACTOR_STEP; step >= -FACTOR_STEP; step -= 2 * FACTOR_STEP) {
            if (isWithin(factor + step, 0, MOST_FACTOR)) {
                kind.factor = factor + step;
                doAllAnew();
                if (squares < before) {
                    return squares;
                }
            }
        }
        kind.factor = factor;
        return before;
    }

    private void doAllAnew() {
        year = 0;
        surveyCount = 0;
        squares = 0;
        for (int i = 0; i < columns.length; i++) {
            columns[i].empty();
        }
        for (int i = 0; i < KINDS; i++) {
            kinds[i].forgetRows();
        }
        for (int i = 0; i < told.count; i++) {
            carryOut(i);
        }
    }

    private void tell(int what, int place, int number, long amount, long thickness) {
        told.add(what, place, number, amount, thickness);
        carryOut(told.count - 1);
    }

    /** The one way from what was told to what stands, so that doing it anew cannot differ. */
    private void carryOut(int i) {
        int place = told.places[i];
        int number = told.numbers[i];
        switch (told.whats[i]) {
            case Told.ROW:
                kinds[place].addRow(told.amounts[i], number);
                break;
            case Told.LAYER:
                columns[place].lay(number, told.amounts[i], told.thicknesses[i]);
                break;
            case Told.ROLL:
                columns[place].press(number);
                break;
            case Told.RUN:
                passYears(number);
                break;
            case Told.COVER:
                columns[place].covers += number;
                break;
            case Told.SURVEY:
                compare(columns[place], told.amounts[i]);
                break;
            default:
                break;
        }
    }

    private void passYears(int years) {
        for (int i = 0; i < columns.length; i++) {
            columns[i].settle(years, kinds);
        }
        year += years;
    }

    private void compare(Column column, long millimetres) {
        long off = column.top() / MICROMETRES_A_MILLIMETRE - millimetres;
        long cut = Math.max(-MOST_OFF, Math.min(MOST_OFF, off));
        squares += cut * cut;
        surveyCount++;
    }

    /** The divisor is above 0: a density is never below 100, and the side never below 1. */
    private long firstThickness(Kind kind, long kilograms) {
        return kilograms * MICROMETRES_A_METRE / ((long) kind.density * side * side);
    }

    /** How far apart the heights of a column, not the last one, and of the next one are. */
    private long stepBehind(int column) {
        return Math.abs(columns[column].top() - columns[column + 1].top());
    }

    private Column columnAt(int number) {
        return isWithin(number, 0, columns.length - 1) ? columns[number] : null;
    }

    private Kind kindAt(int number) {
        return isWithin(number, 0, KINDS - 1) ? kinds[number] : null;
    }

    private Surface surfaceAt(int number) {
        return isWithin(number, 0, surfaceCount - 1) ? surfaces[number] : null;
    }

    private Phase phaseAt(int number) {
        return isWithin(number, 0, phaseCount - 1) ? phases[number] : null;
    }

    private static boolean isWithin(long number, long least, long most) {
        return number >= least && number <= most;
    }

    /** The greatest divisor of both; 6 has no primes but 2 and 3, so no loop is needed. */
    private static long sharedWithSix(long number) {
        return (number % 2 == 0 ? 2 : 1) * (number % 3 == 0 ? 3 : 1);
    }

    /** What one kind of fill is like: its density, its factor and its rows, by growing loads. */
    private static final class Kind {
        private static final int MOST_ROWS = 4;
        private static final long MOST_LOAD = 100000000;
        private static final int MOST_THOUSANDTHS = 300;

        private final long[] loads = new long[MOST_ROWS];
        private final int[] thousandths = new int[MOST_ROWS];
        private int rowCount;
        private int density = 500;
        private int factor = 1000;

        boolean takesRow(long load, int share) {
            if (rowCount >= MOST_ROWS) {
                return false;
            }
            if (!isWithin(load, 0, MOST_LOAD) || !isWithin(share, 0, MOST_THOUSANDTHS)) {
                return false;
            }
            return rowCount == 0 || load > loads[rowCount - 1];
        }

        void addRow(long load, int share) {
            if (rowCount >= MOST_ROWS) {
                return;
            }
            loads[rowCount] = load;
            thousandths[rowCount] = share;
            rowCount++;
        }

        void forgetRows() {
            rowCount = 0;
        }

        /** What a layer of this kind loses in a year under a load, in millionths. */
        long yearlyMillionths(long load) {
            for (int i = rowCount - 1; i >= 0; i--) {
                if (loads[i] <= load) {
                    return (long) thousandths[i] * factor;
                }
            }
            return 0;
        }
    }

    /** The layers of a column from the lowest up, and its covers in millimetres. */
    private static final class Column {
        private static final int MOST_LAYERS = 10;
        private static final int FIRST_PASS_DIVISOR = 8;
        private static final long MILLIONTHS = 1000000;

        private final int[] kindNumbers = new int[MOST_LAYERS];
        private final int[] passes = new int[MOST_LAYERS];
        private final long[] kilograms = new long[MOST_LAYERS];
        private final long[] thicknesses = new long[MOST_LAYERS];
        private int layerCount;
        private int covers;

        boolean isFull() {
            return layerCount >= MOST_LAYERS;
        }

        void empty() {
            layerCount = 0;
            covers = 0;
        }

        void lay(int kind, long weight, long thick) {
            if (isFull()) {
                return;
            }
            kindNumbers[layerCount] = kind;
            passes[layerCount] = 0;
            kilograms[layerCount] = weight;
            thicknesses[layerCount] = thick;
            layerCount++;
        }

        void press(int times) {
            if (layerCount == 0) {
                return;
            }
            int highest = layerCount - 1;
            for (int i = 0; i < times; i++) {
                thicknesses[highest] -= thicknesses[highest] / (FIRST_PASS_DIVISOR + passes[highest]);
                passes[highest]++;
            }
        }

        /** Layer by layer, not year by year: loads are kilograms, which no year changes. */
        void settle(int years, Kind[] kinds) {
            long load = 0;
            for (int i = layerCount - 1; i >= 0; i--) {
                long millionths = kinds[kindNumbers[i]].yearlyMillionths(load);
                thicknesses[i] = settled(thicknesses[i], millionths, years);
                load += kilograms[i];
            }
        }

        private static long settled(long thick, long millionths, int years) {
            long left = thick;
            for (int i = 0; i < years; i++) {
                long loss = left * millionths / MILLIONTHS;
                if (loss == 0) {
                    break;
                }
                left -= loss;
            }
            return left;
        }

        /** The height in micrometres. */
        long top() {
            long all = covers * MICROMETRES_A_MILLIMETRE;
            for (int i = 0; i < layerCount; i++) {
                all += thicknesses[i];
            }
            return all;
        }

        long kilogramsOf(int kind) {
            long all = 0;
            for (int i = 0; i < layerCount; i++) {
                if (kindNumbers[i] == kind) {
                    all += kilograms[i];
                }
            }
            return all;
        }
    }

    /**
     * What was told, in its order. A layer's first thickness is told along with it, as a density
     * that is told later does not reach it.
     */
    private static final class Told {
        private static final int ROW = 0;
        private static final int LAYER = 1;
        private static final int ROLL = 2;
        private static final int RUN = 3;
        private static final int COVER = 4;
        private static final int SURVEY = 5;
        private static final int MOST = 200;

        private final int[] whats = new int[MOST];
        private final int[] places = new int[MOST];
        private final int[] numbers = new int[MOST];
        private final long[] amounts = new long[MOST];
        private final long[] thicknesses = new long[MOST];
        private int count;

        boolean isFull() {
            return count >= MOST;
        }

        void add(int what, int place, int number, long amount, long thick) {
            if (isFull()) {
                return;
            }
            whats[count] = what;
            places[count] = place;
            numbers[count] = number;
            amounts[count] = amount;
            thicknesses[count] = thick;
            count++;
        }
    }

    /** A surveyed surface: heights in millimetres at the points that were told. */
    private static final class Surface {
        private static final int POINTS_A_WAY = 5;

        private final int[] heights = new int[POINTS_A_WAY * POINTS_A_WAY];
        private final boolean[] isTold = new boolean[POINTS_A_WAY * POINTS_A_WAY];

        static boolean isPlace(int x, int y) {
            return isWithin(x, 0, POINTS_A_WAY - 1) && isWithin(y, 0, POINTS_A_WAY - 1);
        }

        void put(int x, int y, int z) {
            int place = x * POINTS_A_WAY + y;
            heights[place] = z;
            isTold[place] = true;
        }

        /** Six times the room to another surface, with sides of 1: whole, so nothing is rounded. */
        long sixfoldTo(Surface other) {
            long all = 0;
            for (int x = 0; x < POINTS_A_WAY - 1; x++) {
                for (int y = 0; y < POINTS_A_WAY - 1; y++) {
                    all += sixfoldOfSquare(other, x * POINTS_A_WAY + y);
                }
            }
            return all;
        }

        /** The ends of the way that parts the square belong to both of its triangles. */
        private long sixfoldOfSquare(Surface other, int near) {
            int right = near + POINTS_A_WAY;
            int up = near + 1;
            int far = right + 1;
            if (!inBoth(other, near) || !inBoth(other, right) || !inBoth(other, up) || !inBoth(other, far)) {
                return 0;
            }
            return 2 * (rise(other, near) + rise(other, far)) + rise(other, right) + rise(other, up);
        }

        private boolean inBoth(Surface other, int place) {
            return isTold[place] && other.isTold[place];
        }

        private long rise(Surface other, int place) {
            return (long) other.heights[place] - heights[place];
        }
    }

    /** Columns from one to another one, and the most micrometres that neighbours may be apart. */
    private static final class Phase {
        private final int from;
        private final int to;
        private final long slope;

        Phase(int from, int to, long slope) {
            this.from = from;
            this.to = to;
            this.slope = slope;
        }
    }
}
