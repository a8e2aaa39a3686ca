import java.util.Random;

/** Runs of 512 calls by fixed seeds, each answer held against the plain model's. */
public final class RandomRunsTest {
    private static final int RUNS = 240;
    private static final int CALLS = 512;
    private static final int[] EDGES = {Integer.MIN_VALUE, -1, 0, 1, Integer.MAX_VALUE};

    private final Random random;
    private final int columns;
    private final CellSettling x;
    private final PlainModel model;
    private final boolean fine;
    private int sinceFit = 0;

    private RandomRunsTest(int seed) {
        random = new Random(seed);
        columns = seed % 10;
        int side = seed % 3 == 0 ? 1 + random.nextInt(3) : random.nextInt(103);
        x = new CellSettling(columns, side);
        model = new PlainModel(columns, side);
        fine = seed % 4 != 0;
    }

    public static void main(String[] args) {
        for (int seed = 0; seed < RUNS && !Due.anyWrong(); seed++) {
            RandomRunsTest run = new RandomRunsTest(seed);
            for (int i = 0; i < CALLS && !Due.anyWrong(); i++) {
                run.call("seed " + seed + " call " + i + ": ");
            }
        }
        Due.end();
    }

    /** Mostly from least to most, now and then just outside or far away. */
    private int in(int least, int most) {
        int way = random.nextInt(fine ? 60 : 12);
        if (way == 0) {
            return random.nextBoolean() ? least - 1 : most + 1;
        }
        if (way == 1) {
            return EDGES[random.nextInt(EDGES.length)];
        }
        if (way <= 3) {
            return random.nextBoolean() ? least : most;
        }
        return least + random.nextInt(most - least + 1);
    }

    private long wide(int least, int most) {
        int way = random.nextInt(80);
        if (way == 0) {
            return random.nextBoolean() ? Long.MIN_VALUE : Long.MAX_VALUE;
        }
        return way == 1 ? (1L << 32) + least : in(least, most);
    }

    private int column() {
        return in(0, columns >= 1 && columns <= 8 ? columns - 1 : 0);
    }

    private static long bit(boolean b) {
        return b ? 1 : 0;
    }

    private void call(String at) {
        int way = random.nextInt(24);
        if (way < 12) {
            tell(at, way);
        } else if (way < 18) {
            ask(at, way);
        } else if (way < 22) {
            surfaces(at, way);
        } else {
            fits(at);
        }
    }

    private void tell(String at, int way) {
        int c = column();
        int k = in(0, 3);
        if (way <= 2) {
            long kg = random.nextBoolean() ? wide(1, 1000000) : wide(1, 5000);
            Due.is(at + "layer", x.layer(c, k, kg), model.layer(c, k, kg));
        } else if (way == 3) {
            int v = in(100, 3000);
            Due.is(at + "density", bit(x.density(k, v)), model.density(k, v));
        } else if (way <= 5) {
            long load = random.nextInt(3) == 0 ? wide(0, 100000000) : wide(0, 20000);
            int t = in(0, random.nextBoolean() ? 30 : 300);
            Due.is(at + "row", bit(x.row(k, load, t)), model.row(k, load, t));
        } else if (way <= 7) {
            int passes = in(1, 20);
            Due.is(at + "roll", bit(x.roll(c, passes)), model.roll(c, passes));
        } else if (way == 8) {
            int years = random.nextInt(8) == 0 ? in(1, 50) : in(1, 4);
            Due.is(at + "run", x.run(years), model.run(years));
        } else if (way == 9) {
            int mm = in(1, 10000);
            Due.is(at + "cover", bit(x.cover(c, mm)), model.cover(c, mm));
        } else {
            survey(at, c);
        }
    }

    /** Mostly near the height, so that a fit has a slope to go down. */
    private void survey(String at, int c) {
        if (random.nextInt(4) == 0) {
            return;
        }
        long height = Math.max(0, model.height(c)) / 1000;
        long near = Math.min(1000000000, height * (80 + random.nextInt(30)) / 100);
        long told = random.nextInt(5) == 0 ? wide(0, 1000000000) : near;
        Due.is(at + "survey", x.survey(c, told), model.survey(c, told));
    }

    private void ask(String at, int way) {
        int c = column();
        int k = in(0, 3);
        int n = in(0, 9);
        if (way == 12) {
            Due.is(at + "height", x.height(c), model.height(c));
        } else if (way == 13) {
            Due.is(at + "thickness", x.thickness(c, n), model.thickness(c, n));
        } else if (way == 14) {
            Due.is(at + "mass", x.mass(c, k), model.mass(c, k));
            Due.is(at + "covered", x.covered(c), model.covered(c));
        } else if (way == 15) {
            int to = column();
            long slope = random.nextInt(5) == 0 ? wide(0, 1000000000) : wide(0, 3000000);
            Due.is(at + "phase", x.phase(c, to, slope), model.phase(c, to, slope));
        } else if (way == 16) {
            Due.is(at + "kept", bit(x.kept(k)), model.kept(k));
        } else {
            long apart = random.nextBoolean() ? wide(0, 20000) : wide(0, 100000000);
            Due.is(at + "crack", x.crack(n % 4, apart), model.crack(n % 4, apart));
        }
    }

    private void surfaces(String at, int way) {
        int a = in(0, 3);
        int b = in(0, 3);
        if (way == 18 && random.nextInt(10) == 0) {
            Due.is(at + "surface", x.surface(), model.surface());
        } else if (way == 19) {
            int part = in(0, 1);
            Due.is(at + "room", x.room(a, b, part), model.room(a, b, part));
        } else {
            int px = in(0, 4);
            int py = in(0, fine ? 2 : 4);
            int z = in(-100000, 100000);
            Due.is(at + "point", bit(x.point(a, px, py, z)), model.point(a, px, py, z));
        }
    }

    private void fits(String at) {
        Due.is(at + "sum", x.sum(), model.sum());
        int k = in(0, 3);
        Due.is(at + "factor", x.factor(k), model.factor(k));
        sinceFit++;
        if (sinceFit % 4 == 0) {
            int rounds = in(1, 5);
            Due.is(at + "fit", x.fit(rounds), model.fit(rounds));
            wholeFill(at);
        }
    }

    private void wholeFill(String at) {
        Due.is(at + "sum after a fit", x.sum(), model.sum());
        for (int i = 0; i < 4; i++) {
            Due.is(at + "factor after a fit", x.factor(i), model.factor(i));
        }
        for (int c = 0; c < 8; c++) {
            Due.is(at + "height after a fit", x.height(c), model.height(c));
        }
    }
}
