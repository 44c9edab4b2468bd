import java.lang.reflect.InvocationTargetException;
import java.lang.reflect.Method;
import java.util.ArrayList;
import java.util.Arrays;
import java.util.List;
import java.util.Random;

/** Runs of 512 calls by chance, always the same ones, at and beyond every edge: each answer is the Model's. */
public final class ModelTest {
    private static final int RUNS = 500;
    private static final int CALLS = 512;
    /** Each call with its parameters: signs to choose from, a least and a most number, or what names a thing. */
    private static final String[] CALLED = {
        "column fsn", "layer column slc 50..500", "layer column slc 50..60", "wet column layer wetness",
        "wet column layer wetness", "water column layer", "capacity column layer", "link column other",
        "scale column 10..400", "plant column 1..8 0..50", "harvest column", "stress column 0..1",
        "mulch column 0..1", "rule column 0..9999 0..200", "rule column 0..300 0..200", "spread column nst 1..1000000",
        "spread column n 1..3000", "manure column 1..1000000", "solute column layer nst", "out column nst",
        "eaten column", "weather -30..45 0..999 0..99", "weather 0..45 0..60 0..20", "weather -9..0 0..9 0..9",
        "law 0..9999 0..999", "law 0..500 0..999", "hours 1..48", "hours 1..3", "hours 1..2", "hours 1..2",
        "standing column", "recharge column", "runoff column", "vapour column", "isFrozen column layer",
        "frost column layer", "heave column", "crack column", "tension column layer", "reflection column layer",
        "setRight column", "weigh column", "fines column", "forecast column 1..48 10..400",
        "fits column 1..48 0..99999", "fits column 1..9 0..300", "fit column 1..48 0..99999 0..39",
        "fit column 1..5 0..300 0..3", "missing", "frozenShare", "meanWater", "checksum", "isTrue"};

    private final Random chance;
    private final LysimeterField field = new LysimeterField();
    private final Model model = new Model();

    private ModelTest(int seed) {
        chance = new Random(seed);
    }

    public static void main(String[] args) {
        for (int seed = 0; seed < RUNS; seed++) {
            new ModelTest(seed).run(seed);
        }
        Check.end("ModelTest");
    }

    private void run(int seed) {
        List<String> told = new ArrayList<>();
        for (int i = 0; i < CALLS; i++) {
            String[] call = CALLED[chance.nextInt(i < 20 ? 3 : CALLED.length)].split(" ");
            long[] numbers = new long[call.length - 1];
            for (int p = 0; p < numbers.length; p++) {
                numbers[p] = number(call[p + 1], numbers);
            }
            String due = model.answer(call[0], numbers);
            String got = answer(call[0], numbers);
            told.add(call[0] + Arrays.toString(numbers));
            Check.is("run " + seed + ", call " + i + " " + told.get(i), got, due);
            if (!got.equals(due)) {
                System.out.println("the calls were " + told);
                return;
            }
        }
    }

    private long number(String parameter, long[] before) {
        if (parameter.equals("column")) {
            return oftenWithin(0, model.columns() - 1);
        }
        if (parameter.equals("other")) {
            return oftenWithin(-1, model.columns() - 1);
        }
        if (parameter.equals("layer")) {
            return oftenWithin(0, isColumn(before[0]) ? model.layers((int) before[0]) - 1 : 7);
        }
        if (parameter.equals("wetness")) {
            return wetness(before[0], before[1]);
        }
        if (parameter.contains("..")) {
            String[] ends = parameter.split("\\.\\.");
            return oftenWithin(Integer.parseInt(ends[0]), Integer.parseInt(ends[1]));
        }
        return chance.nextInt(30) == 0 ? chance.nextInt(256) : parameter.charAt(chance.nextInt(parameter.length()));
    }

    private boolean isColumn(long number) {
        return number >= 0 && number < model.columns();
    }

    private long oftenWithin(int least, int most) {
        switch (chance.nextInt(40)) {
            case 0: return least - 1;
            case 1: return most + 1;
            case 2: return chance.nextBoolean() ? Integer.MIN_VALUE : Integer.MAX_VALUE;
            case 3: case 4: return least;
            case 5: case 6: return most;
            default: return least + chance.nextInt(Math.max(1, most - least + 1));
        }
    }

    private long wetness(long column, long layer) {
        if (!isColumn(column) || layer < 0 || layer >= model.layers((int) column)) {
            return chance.nextInt(1000);
        }
        long[] points = model.turningPoints((int) column, (int) layer);
        if (chance.nextInt(3) == 0) {
            return oftenWithin(0, (int) points[points.length - 1]);
        }
        return points[chance.nextInt(points.length)] + chance.nextInt(5) - 2;
    }

    /** What the class answers to the call, or the name of what it throws. */
    private String answer(String name, long[] numbers) {
        Method method = Arrays.stream(LysimeterField.class.getMethods())
                .filter(m -> m.getName().equals(name)).findFirst().orElseThrow();
        Class<?>[] types = method.getParameterTypes();
        Object[] values = new Object[types.length];
        for (int p = 0; p < types.length; p++) {
            values[p] = valueOf(numbers[p], types[p]);
        }
        return Check.answer(() -> calledOn(method, values));
    }

    private static Object valueOf(long number, Class<?> type) {
        if (type == char.class) {
            return (char) number;
        }
        return type == boolean.class ? (Object) (number != 0) : (Object) (int) number;
    }

    private Object calledOn(Method method, Object[] values) {
        try {
            return method.invoke(field, values);
        } catch (InvocationTargetException e) {
            throw (RuntimeException) e.getCause();
        } catch (IllegalAccessException e) {
            throw new AssertionError(e);
        }
    }
}
