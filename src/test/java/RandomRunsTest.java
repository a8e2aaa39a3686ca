import java.util.Random;

/** Runs of up to 512 calls by fixed seeds, each answer held against the plain model's. */
public final class RandomRunsTest {
    private static final int RUNS = 300;
    private static final int[] EDGES = {Integer.MIN_VALUE, -1, 0, 1, Integer.MAX_VALUE};
    private static final int FIT_EVERY = 4;

    private final int seed;
    private final Random random;
    private final int columns;
    private final Cell cell;
    private final PlainModel model;
    private final boolean fine;
    private int sinceFit = 0;

    private RandomRunsTest(int seed) {
        this.seed = seed;
        random = new Random(seed);
        columns = seed % 10;
        int side = seed % 3 == 0 ? 1 + random.nextInt(3) : random.nextInt(103);
        cell = new Cell(columns, side);
        model = new PlainModel(columns, side);
        fine = seed % 4 != 0;
    }

    public static void main(String[] args) {
        for (int seed = 0; seed < RUNS && !Due.anyWrong(); seed++) {
            RandomRunsTest run = new RandomRunsTest(seed);
            while (run.cell.callsLeft() > 0 && !Due.anyWrong()) {
                run.step();
            }
        }
        Due.end();
    }

    private void both(String name, long... numbers) {
        if (cell.callsLeft() == 0) {
            return;
        }
        Call call = new Call(name, numbers);
        Due.is("seed " + seed + ", " + cell.callsLeft() + " calls before the end: " + call, cell.ask(call), call.on(model));
    }

    /** Mostly from least to most, now and then just outside or far away. */
    private int in(int least, int most) {
        int way = random.nextInt(fine ? 60 : 12);
        if (way == 0) {
            return random.nextBoolean() ? least - 1 : most + 1;
        }
        if (way == 1) {
            return EDGES[random.nextInt(EDGES.length)];
        }
        if (way <= 3) {
            return random.nextBoolean() ? least : most;
        }
        return least + random.nextInt(most - least + 1);
    }

    private long wide(int least, int most) {
        int way = random.nextInt(80);
        if (way == 0) {
            return random.nextBoolean() ? Long.MIN_VALUE : Long.MAX_VALUE;
        }
        return way == 1 ? (1L << 32) + least : in(least, most);
    }

    private int column() {
        return in(0, model.columns() - 1);
    }

    private void step() {
        int way = random.nextInt(24);
        if (way < 12) {
            tell(way);
        } else if (way < 18) {
            ask(way);
        } else if (way < 22) {
            surfaces(way);
        } else {
            fits();
        }
    }

    private void tell(int way) {
        if (way <= 2) {
            both("layer", column(), in(0, 3), random.nextBoolean() ? wide(1, 1000000) : wide(1, 5000));
        } else if (way == 3) {
            both("density", in(0, 3), in(100, 3000));
        } else if (way <= 5) {
            long load = random.nextInt(3) == 0 ? wide(0, 100000000) : wide(0, 20000);
            both("row", in(0, 3), load, in(0, random.nextBoolean() ? 30 : 300));
        } else if (way <= 7) {
            both("roll", column(), in(1, 20));
        } else if (way == 8) {
            both("run", random.nextInt(8) == 0 ? in(1, 50) : in(1, 4));
        } else if (way == 9) {
            both("cover", column(), in(1, 10000));
        } else {
            survey(column());
        }
    }

    /** Mostly near the height, so that a fit has a slope to go down. */
    private void survey(int c) {
        if (random.nextInt(4) == 0) {
            return;
        }
        long height = Math.max(0, model.height(c)) / 1000;
        long near = Math.min(1000000000, height * (80 + random.nextInt(30)) / 100);
        both("survey", c, random.nextInt(5) == 0 ? wide(0, 1000000000) : near);
    }

    private void ask(int way) {
        int c = column();
        if (way == 12) {
            both("height", c);
        } else if (way == 13) {
            both("thickness", c, in(0, 9));
        } else if (way == 14) {
            both("mass", c, in(0, 3));
            both("covered", c);
        } else if (way == 15) {
            both("phase", c, column(), random.nextInt(5) == 0 ? wide(0, 1000000000) : wide(0, 3000000));
        } else if (way == 16) {
            both("kept", in(0, 3));
        } else {
            both("crack", in(0, 3), random.nextBoolean() ? wide(0, 20000) : wide(0, 100000000));
        }
    }

    private void surfaces(int way) {
        if (way == 18 && random.nextInt(10) == 0) {
            both("surface");
        } else if (way == 19) {
            both("room", in(0, 3), in(0, 3), in(0, 1));
        } else {
            both("point", in(0, 3), in(0, 4), in(0, fine ? 2 : 4), in(-100000, 100000));
        }
    }

    private void fits() {
        both("sum");
        both("factor", in(0, 3));
        sinceFit++;
        if (sinceFit % FIT_EVERY == 0) {
            both("fit", in(1, 5));
            wholeFill();
        }
    }

    private void wholeFill() {
        both("sum");
        for (int i = 0; i < 4; i++) {
            both("factor", i);
        }
        for (int c = 0; c < columns; c++) {
            both("height", c);
        }
    }
}
