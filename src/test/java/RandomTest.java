import java.util.Random;

/** Runs of 500 calls by chance, always the same ones: what has to hold after every one of them. */
public final class RandomTest {
    private static final int RUNS = 200;
    private static final int CALLS = 500;
    private static final String BOTTOMS = "fsn";
    private static final String SOILS = "slc";
    private static final String KINDS = "nst";

    private final Random chance;
    private final LysimeterField field = new LysimeterField();
    private final long[] spread = new long[KINDS.length()];
    private int columns = 0;
    private int temperature = 10;
    private int rain = 0;
    private int thirst = 0;

    private RandomTest(int seed) {
        chance = new Random(seed);
    }

    public static void main(String[] args) {
        for (int seed = 0; seed < RUNS; seed++) {
            new RandomTest(seed).run(seed);
        }
        Check.end("RandomTest");
    }

    private void run(int seed) {
        for (int i = 0; i < CALLS; i++) {
            callOne();
            if (i % 20 == 0) {
                String where = "run " + seed + ", call " + i;
                Check.is(where + ", missing", field.missing(), 0);
                Check.is(where + ", true", field.isTrue(), true);
                checkSolutes(where);
            }
        }
        checkForecasts("run " + seed);
    }

    private int upTo(int most) {
        return chance.nextInt(most + 1);
    }

    private char of(String signs) {
        return signs.charAt(chance.nextInt(signs.length()));
    }

    private void callOne() {
        int c = columns == 0 ? 0 : chance.nextInt(columns);
        Check.answer(() -> {
            switch (chance.nextInt(13)) {
                case 0: columns = Math.max(columns, field.column(of(BOTTOMS)) + 1); break;
                case 1: case 2: field.layer(c, of(SOILS), 50 + upTo(150)); break;
                case 3: field.wet(c, upTo(3), upTo(700)); break;
                case 4: field.link(c, upTo(6) - 1); break;
                case 5: field.scale(c, 10 + upTo(390)); break;
                case 6: field.plant(c, 1 + upTo(4), upTo(50)); break;
                case 7: if (upTo(3) == 0) { field.harvest(c); } break;
                case 8: field.mulch(c, chance.nextBoolean()); field.rule(c, upTo(900), upTo(200)); break;
                case 9: case 10: changeWeather(); break;
                case 11: spreadSome(c); break;
                default: field.hours(1 + upTo(9)); break;
            }
            return "";
        });
    }

    private void changeWeather() {
        temperature = upTo(50) - 20;
        rain = upTo(3) == 0 ? upTo(999) : upTo(20);
        thirst = upTo(3) == 0 ? upTo(99) : 0;
        field.weather(temperature, rain, thirst);
    }

    private void spreadSome(int c) {
        int kind = upTo(2);
        int amount = 1 + upTo(9999);
        field.spread(c, KINDS.charAt(kind), amount);
        spread[kind] += amount;
    }

    private void checkSolutes(String where) {
        for (int kind = 0; kind < KINDS.length(); kind++) {
            char sign = KINDS.charAt(kind);
            long found = 0;
            for (int c = 0; c < columns; c++) {
                found += field.out(c, sign) + (sign == 'n' ? field.eaten(c) : 0);
                for (int l = 0; l < layersOf(c); l++) {
                    found += field.solute(c, l, sign);
                }
            }
            Check.is(where + ", solute " + sign, found, spread[kind]);
        }
    }

    private int layersOf(int column) {
        int layers = 0;
        while (layers < 8 && !Check.answer(layerProbe(column, layers)).equals("IndexOutOfBoundsException")) {
            layers++;
        }
        return layers;
    }

    private java.util.function.Supplier<Object> layerProbe(int column, int layer) {
        return () -> field.water(column, layer);
    }

    /** With no rain, rules and links, and what ran come, the yard does what was forecast. */
    private void checkForecasts(String where) {
        field.weather(temperature, 0, thirst);
        for (int c = 0; c < columns; c++) {
            field.link(c, -1);
            field.rule(c, 0, 0);
        }
        field.hours(1);
        long[] told = new long[columns];
        for (int c = 0; c < columns; c++) {
            int scale = field.scale(c, 100);
            field.scale(c, scale);
            told[c] = field.recharge(c) + field.forecast(c, 17, scale);
        }
        field.hours(17);
        for (int c = 0; c < columns; c++) {
            Check.is(where + ", forecast of column " + c, field.recharge(c), told[c]);
        }
    }
}
