import java.util.ArrayList;
import java.util.List;

/** One call of the face by its name and numbers, so that runs of calls can be told as text. */
record Call(String name, long... numbers) {
    /** Of a text such as "layer 0 1 500"; INT_MIN, INT_MAX, LONG_MIN and LONG_MAX are numbers too. */
    static Call of(String text) {
        String[] words = text.trim().split(" +");
        long[] numbers = new long[words.length - 1];
        for (int i = 0; i < numbers.length; i++) {
            numbers[i] = number(words[i + 1]);
        }
        return new Call(words[0], numbers);
    }

    /** Of a text such as "layer 0 1 500; 3 * cover 0 7; sum": the second one three times. */
    static List<Call> run(String text) {
        List<Call> calls = new ArrayList<>();
        for (String part : text.isEmpty() ? new String[0] : text.split(";")) {
            int star = part.indexOf('*');
            int times = star < 0 ? 1 : Integer.parseInt(part.substring(0, star).trim());
            for (int i = 0; i < times; i++) {
                calls.add(of(part.substring(star + 1)));
            }
        }
        return calls;
    }

    static long number(String word) {
        return switch (word) {
            case "INT_MIN" -> Integer.MIN_VALUE;
            case "INT_MAX" -> Integer.MAX_VALUE;
            case "LONG_MIN" -> Long.MIN_VALUE;
            case "LONG_MAX" -> Long.MAX_VALUE;
            default -> Long.parseLong(word);
        };
    }

    /** Whether an answer says that the call was refused, or that there is none such. */
    boolean isRefusal(long answer) {
        return switch (name) {
            case "density", "row", "roll", "cover", "point", "kept" -> answer == 0;
            case "room" -> answer == Long.MIN_VALUE;
            case "sum" -> false;
            default -> answer == -1;
        };
    }

    /** Whether it may change the object when it is taken; the others only ask. */
    boolean isChange() {
        return switch (name) {
            case "height", "thickness", "mass", "covered", "room", "kept", "crack", "factor", "sum" -> false;
            default -> true;
        };
    }

    /** The answer; a boolean counts 1 or 0. */
    long on(CellSettling x) {
        return switch (name) {
            case "density" -> bit(x.density(whole(0), whole(1)));
            case "row" -> bit(x.row(whole(0), numbers[1], whole(2)));
            case "layer" -> x.layer(whole(0), whole(1), numbers[2]);
            case "roll" -> bit(x.roll(whole(0), whole(1)));
            case "run" -> x.run(whole(0));
            case "cover" -> bit(x.cover(whole(0), whole(1)));
            case "survey" -> x.survey(whole(0), numbers[1]);
            case "height" -> x.height(whole(0));
            case "thickness" -> x.thickness(whole(0), whole(1));
            case "mass" -> x.mass(whole(0), whole(1));
            case "covered" -> x.covered(whole(0));
            case "surface" -> x.surface();
            case "point" -> bit(x.point(whole(0), whole(1), whole(2), whole(3)));
            case "room" -> x.room(whole(0), whole(1), whole(2));
            case "phase" -> x.phase(whole(0), whole(1), numbers[2]);
            case "kept" -> bit(x.kept(whole(0)));
            case "crack" -> x.crack(whole(0), numbers[1]);
            case "factor" -> x.factor(whole(0));
            case "sum" -> x.sum();
            case "fit" -> x.fit(whole(0));
            default -> throw new IllegalArgumentException(name);
        };
    }

    long on(PlainModel m) {
        return switch (name) {
            case "density" -> m.density(whole(0), whole(1));
            case "row" -> m.row(whole(0), numbers[1], whole(2));
            case "layer" -> m.layer(whole(0), whole(1), numbers[2]);
            case "roll" -> m.roll(whole(0), whole(1));
            case "run" -> m.run(whole(0));
            case "cover" -> m.cover(whole(0), whole(1));
            case "survey" -> m.survey(whole(0), numbers[1]);
            case "height" -> m.height(whole(0));
            case "thickness" -> m.thickness(whole(0), whole(1));
            case "mass" -> m.mass(whole(0), whole(1));
            case "covered" -> m.covered(whole(0));
            case "surface" -> m.surface();
            case "point" -> m.point(whole(0), whole(1), whole(2), whole(3));
            case "room" -> m.room(whole(0), whole(1), whole(2));
            case "phase" -> m.phase(whole(0), whole(1), numbers[2]);
            case "kept" -> m.kept(whole(0));
            case "crack" -> m.crack(whole(0), numbers[1]);
            case "factor" -> m.factor(whole(0));
            case "sum" -> m.sum();
            case "fit" -> m.fit(whole(0));
            default -> throw new IllegalArgumentException(name);
        };
    }

    private int whole(int i) {
        return Math.toIntExact(numbers[i]);
    }

    private static long bit(boolean b) {
        return b ? 1 : 0;
    }

    @Override
    public String toString() {
        StringBuilder all = new StringBuilder(name).append('(');
        for (int i = 0; i < numbers.length; i++) {
            all.append(i == 0 ? "" : ", ").append(numbers[i]);
        }
        return all.append(')').toString();
    }
}
