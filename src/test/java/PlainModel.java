import java.math.BigInteger;
import java.util.ArrayList;
import java.util.List;

/**
 * The document taken word by word, with no thought of speed: every answer about the fill comes from
 * doing all that was told anew, year by year, and rooms are sums of whole prisms as fractions.
 */
final class PlainModel {
    private final int columns;
    private final int side;
    private final int[] densities = {500, 500, 500, 500};
    private final int[] factors = {1000, 1000, 1000, 1000};
    private final List<long[]> told = new ArrayList<>();
    private final List<Integer[][]> surfaces = new ArrayList<>();
    private final List<long[]> phases = new ArrayList<>();

    PlainModel(int columns, int side) {
        this.columns = columns >= 1 && columns <= 8 ? columns : 1;
        this.side = side >= 1 && side <= 100 ? side : 1;
    }

    /** The same again, so that a call can be tried on it. */
    PlainModel(PlainModel other) {
        this(other.columns, other.side);
        for (int i = 0; i < 4; i++) {
            densities[i] = other.densities[i];
            factors[i] = other.factors[i];
        }
        told.addAll(other.told);
        phases.addAll(other.phases);
        for (Integer[][] points : other.surfaces) {
            Integer[][] same = new Integer[5][];
            for (int i = 0; i < 5; i++) {
                same[i] = points[i].clone();
            }
            surfaces.add(same);
        }
    }

    int columns() {
        return columns;
    }

    /** What stands after all that was told: layers are {kind, kilograms, thickness, passes}. */
    private final class Fill {
        private final List<List<long[]>> layers = new ArrayList<>();
        private final List<List<long[]>> rows = new ArrayList<>();
        private final int[] covers = new int[columns];
        private long year = 0;
        private int surveys = 0;
        private long sum = 0;

        Fill(int[] by) {
            for (int i = 0; i < columns; i++) {
                layers.add(new ArrayList<>());
            }
            for (int i = 0; i < 4; i++) {
                rows.add(new ArrayList<>());
            }
            for (long[] t : told) {
                tell(t, by);
            }
        }

        private void tell(long[] t, int[] by) {
            int at = (int) t[1];
            if (t[0] == 'r') {
                rows.get(at).add(new long[] {t[2], t[3]});
            } else if (t[0] == 'l') {
                long first = t[3] * 1000000 / (t[4] * side * side);
                layers.get(at).add(new long[] {t[2], t[3], first, 0});
            } else if (t[0] == 'o') {
                long[] top = layers.get(at).get(layers.get(at).size() - 1);
                for (int i = 0; i < t[2]; i++) {
                    top[2] = top[2] - top[2] / (8 + top[3]);
                    top[3] = top[3] + 1;
                }
            } else if (t[0] == 'y') {
                for (int i = 0; i < t[2]; i++) {
                    oneYear(by);
                }
            } else if (t[0] == 'c') {
                covers[at] += (int) t[2];
            } else {
                long off = Math.floorDiv(height(at), 1000) - t[2];
                long cut = off < -1000000 ? -1000000 : off > 1000000 ? 1000000 : off;
                sum += cut * cut;
                surveys++;
            }
        }

        private void oneYear(int[] by) {
            year++;
            for (List<long[]> column : layers) {
                for (int i = 0; i < column.size(); i++) {
                    long load = 0;
                    for (int j = i + 1; j < column.size(); j++) {
                        load += column.get(j)[1];
                    }
                    long[] layer = column.get(i);
                    long thousandths = 0;
                    for (long[] row : rows.get((int) layer[0])) {
                        if (row[0] <= load) {
                            thousandths = row[1];
                        }
                    }
                    long product = Math.multiplyExact(Math.multiplyExact(layer[2], thousandths), (long) by[(int) layer[0]]);
                    layer[2] = layer[2] - product / 1000000;
                }
            }
        }

        long height(int column) {
            long all = 1000L * covers[column];
            for (long[] layer : layers.get(column)) {
                all += layer[2];
            }
            return all;
        }
    }

    private Fill now() {
        return new Fill(factors);
    }

    private boolean isColumn(long c) {
        return c >= 0 && c < columns;
    }

    private static boolean isKind(long k) {
        return k >= 0 && k < 4;
    }

    private boolean mayTell() {
        return told.size() < 200;
    }

    long density(int kind, int v) {
        if (!isKind(kind) || v < 100 || v > 3000) {
            return 0;
        }
        densities[kind] = v;
        return 1;
    }

    long row(int kind, long load, int thousandths) {
        if (!isKind(kind) || load < 0 || load > 100000000 || thousandths < 0 || thousandths > 300 || !mayTell()) {
            return 0;
        }
        List<long[]> rows = now().rows.get(kind);
        if (rows.size() == 4 || !rows.isEmpty() && rows.get(rows.size() - 1)[0] >= load) {
            return 0;
        }
        told.add(new long[] {'r', kind, load, thousandths});
        return 1;
    }

    long layer(int column, int kind, long kilograms) {
        if (!isColumn(column) || !isKind(kind) || kilograms < 1 || kilograms > 1000000 || !mayTell()) {
            return -1;
        }
        int number = now().layers.get(column).size();
        if (number == 10) {
            return -1;
        }
        told.add(new long[] {'l', column, kind, kilograms, densities[kind]});
        return number;
    }

    long roll(int column, int passes) {
        if (!isColumn(column) || passes < 1 || passes > 20 || !mayTell() || now().layers.get(column).isEmpty()) {
            return 0;
        }
        told.add(new long[] {'o', column, passes});
        return 1;
    }

    long run(int years) {
        if (years < 1 || years > 50 || !mayTell() || now().year + years > 100) {
            return -1;
        }
        told.add(new long[] {'y', 0, years});
        return now().year;
    }

    long cover(int column, int millimetres) {
        if (!isColumn(column) || millimetres < 1 || millimetres > 10000 || !mayTell()) {
            return 0;
        }
        told.add(new long[] {'c', column, millimetres});
        return 1;
    }

    long survey(int column, long millimetres) {
        if (!isColumn(column) || millimetres < 0 || millimetres > 1000000000 || !mayTell() || now().surveys == 12) {
            return -1;
        }
        told.add(new long[] {'s', column, millimetres});
        return now().surveys - 1;
    }

    long height(int column) {
        return isColumn(column) ? now().height(column) : -1;
    }

    long thickness(int column, int layer) {
        if (!isColumn(column)) {
            return -1;
        }
        List<long[]> layers = now().layers.get(column);
        return layer >= 0 && layer < layers.size() ? layers.get(layer)[2] : -1;
    }

    long mass(int column, int kind) {
        if (!isColumn(column) || !isKind(kind)) {
            return -1;
        }
        long all = 0;
        for (long[] layer : now().layers.get(column)) {
            all += layer[0] == kind ? layer[1] : 0;
        }
        return all;
    }

    long covered(int column) {
        return isColumn(column) ? now().covers[column] : -1;
    }

    long surface() {
        if (surfaces.size() == 4) {
            return -1;
        }
        surfaces.add(new Integer[5][5]);
        return surfaces.size() - 1;
    }

    long point(int surface, int x, int y, int z) {
        if (surface < 0 || surface >= surfaces.size() || x < 0 || x > 4 || y < 0 || y > 4) {
            return 0;
        }
        if (z < -100000 || z > 100000) {
            return 0;
        }
        surfaces.get(surface)[x][y] = z;
        return 1;
    }

    long room(int a, int b, int part) {
        int count = surfaces.size();
        if (a < 0 || a >= count || b < 0 || b >= count || part < 0 || part > 1) {
            return Long.MIN_VALUE;
        }
        BigInteger[] all = {BigInteger.ZERO, BigInteger.ONE};
        for (int x = 0; x < 4; x++) {
            for (int y = 0; y < 4; y++) {
                int[][] corners = {{x, y}, {x + 1, y}, {x, y + 1}, {x + 1, y + 1}};
                if (allTold(a, corners) && allTold(b, corners)) {
                    all = plus(all, prism(a, b, new int[][] {corners[0], corners[1], corners[3]}));
                    all = plus(all, prism(a, b, new int[][] {corners[0], corners[2], corners[3]}));
                }
            }
        }
        BigInteger shared = all[0].gcd(all[1]);
        return all[part].divide(shared).longValueExact();
    }

    private boolean allTold(int surface, int[][] points) {
        for (int[] p : points) {
            if (surfaces.get(surface)[p[0]][p[1]] == null) {
                return false;
            }
        }
        return true;
    }

    private BigInteger[] prism(int a, int b, int[][] points) {
        long heights = 0;
        for (int[] p : points) {
            heights += surfaces.get(b)[p[0]][p[1]] - surfaces.get(a)[p[0]][p[1]];
        }
        return new BigInteger[] {BigInteger.valueOf(heights * side * side), BigInteger.valueOf(2 * 3)};
    }

    private static BigInteger[] plus(BigInteger[] p, BigInteger[] q) {
        return new BigInteger[] {p[0].multiply(q[1]).add(q[0].multiply(p[1])), p[1].multiply(q[1])};
    }

    long phase(int from, int to, long slope) {
        if (phases.size() == 4 || !isColumn(from) || !isColumn(to) || from > to || slope < 0 || slope > 1000000000) {
            return -1;
        }
        phases.add(new long[] {from, to, slope});
        return phases.size() - 1;
    }

    long kept(int phase) {
        if (phase < 0 || phase >= phases.size()) {
            return 0;
        }
        Fill fill = now();
        long[] p = phases.get(phase);
        for (int i = (int) p[0]; i + 1 <= p[1]; i++) {
            if (Math.abs(fill.height(i) - fill.height(i + 1)) > p[2]) {
                return 0;
            }
        }
        return 1;
    }

    long crack(int k, long apart) {
        if (k < 0 || apart < 0) {
            return -1;
        }
        Fill fill = now();
        List<Integer> cracks = new ArrayList<>();
        for (int i = 0; i + 1 < columns; i++) {
            if (Math.abs(fill.height(i) - fill.height(i + 1)) > apart) {
                cracks.add(i);
            }
        }
        return k < cracks.size() ? cracks.get(k) : -1;
    }

    long factor(int kind) {
        return isKind(kind) ? factors[kind] : -1;
    }

    long sum() {
        return now().sum;
    }

    long fit(int rounds) {
        if (rounds < 1 || rounds > 5) {
            return -1;
        }
        int counted = 0;
        while (counted < rounds) {
            boolean any = false;
            for (int k = 0; k < 4; k++) {
                any |= better(k, factors[k] + 50) || better(k, factors[k] - 50);
            }
            if (!any) {
                return counted;
            }
            counted++;
        }
        return counted;
    }

    private boolean better(int kind, int factor) {
        if (factor < 0 || factor > 3000) {
            return false;
        }
        int[] others = factors.clone();
        others[kind] = factor;
        if (new Fill(others).sum >= now().sum) {
            return false;
        }
        factors[kind] = factor;
        return true;
    }
}
