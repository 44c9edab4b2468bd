import java.util.NoSuchElementException;
import java.util.function.Consumer;
import java.util.function.IntConsumer;
import java.util.function.ObjIntConsumer;
import java.util.function.Supplier;

/**
 * The document's limits: of every number the least and the greatest that are taken and the next one beyond each, what
 * is empty, what is full, and which exception is thrown of those that apply.
 */
public final class LimitTest {
    private static final Class<IndexOutOfBoundsException> INDEX = IndexOutOfBoundsException.class;
    private static final Class<IllegalArgumentException> ARGUMENT = IllegalArgumentException.class;
    private static final Class<IllegalStateException> STATE = IllegalStateException.class;
    private static final Class<NoSuchElementException> ELEMENT = NoSuchElementException.class;
    private static final Class<UnsupportedOperationException> UNSUPPORTED = UnsupportedOperationException.class;
    private static final Class<ArithmeticException> ARITHMETIC = ArithmeticException.class;
    private static final int NONE = -1;

    public static void main(String[] args) {
        numbers();
        numbersOfWhatIsThere();
        signs();
        whatTheLeastAndTheMostDo();
        aFieldWithoutColumns();
        aColumnWithoutLayers();
        hoursOfAColumnWithoutLayers();
        aFullField();
        aFullColumn();
        aFullBedOfPlants();
        theExceptionListedFirst();
        Check.end("LimitTest");
    }

    /** Two columns: 0 of sand 100, loam 100 and clay 100, wet, with a plant, and 1 of clay 50, in an hour's course. */
    private static LysimeterField some() {
        LysimeterField f = Check.field("f s100 l100 c100", "s c50");
        f.weather(12, 90, 5);
        f.law(30, 8);
        f.plant(0, 2, 15);
        f.spread(0, 'n', 3000);
        f.spread(0, 't', 900);
        f.manure(0, 5000);
        f.link(0, 1);
        f.rule(0, 120, 30);
        f.wet(0, 0, 350);
        f.hours(3);
        return f;
    }

    /** Six columns of eight layers each, with two plants each. */
    private static LysimeterField full() {
        LysimeterField f = new LysimeterField();
        for (int c = 0; c < 6; c++) {
            Check.addColumn(f, "fsn".charAt(c % 3) + " c60 l70 s80 s100 l50 c50 s500 l90");
            f.plant(c, 8, 20);
            f.plant(c, 3, 50);
            f.spread(c, 'n', 1000 + c);
            f.rule(c, 200, 30);
        }
        for (int c = 0; c < 6; c++) {
            f.link(c, (c + 1) % 6);
        }
        f.weather(7, 80, 2);
        f.hours(30);
        return f;
    }

    private static void refuses(String what, Class<? extends RuntimeException> due, Consumer<LysimeterField> call) {
        Check.refuses(what, due, LimitTest::some, call);
    }

    /** The least and the most are taken; what is beyond them is refused, and changes nothing. */
    private static void range(String what, int least, int most, ObjIntConsumer<LysimeterField> call) {
        range(what, ARGUMENT, least, most, LimitTest::some, call);
    }

    private static void range(String what, Class<? extends RuntimeException> due, int least, int most,
            Supplier<LysimeterField> maker, ObjIntConsumer<LysimeterField> call) {
        for (int number : new int[] {least, most}) {
            takes(what + " " + number, maker, f -> call.accept(f, number));
        }
        for (int number : new int[] {least - 1, most + 1, Integer.MIN_VALUE, Integer.MAX_VALUE}) {
            Check.refuses(what + " " + number, due, maker, f -> call.accept(f, number));
        }
    }

    private static void takes(String what, Supplier<LysimeterField> maker, Consumer<LysimeterField> call) {
        LysimeterField f = maker.get();
        Check.is(what, Check.answer(() -> {
            call.accept(f);
            return "taken";
        }), "taken");
        Check.is(what + ", true", f.isTrue(), true);
    }

    private static void numbers() {
        range("thickness", 50, 500, (f, n) -> f.layer(0, 's', n));
        range("thickness of loam", 50, 500, (f, n) -> f.layer(1, 'l', n));
        range("thickness of clay", 50, 500, (f, n) -> f.layer(1, 'c', n));
        range("water of sand", 0, 350, (f, n) -> f.wet(0, 0, n));
        range("water of loam", 0, 450, (f, n) -> f.wet(0, 1, n));
        range("water of clay", 0, 500, (f, n) -> f.wet(0, 2, n));
        range("water of clay 50", 0, 250, (f, n) -> f.wet(1, 0, n));
        range("scale", 10, 400, (f, n) -> f.scale(0, n));
        range("reach", 1, 8, (f, n) -> f.plant(0, n, 5));
        range("thirst of a plant", 0, 50, (f, n) -> f.plant(0, 5, n));
        range("threshold", 0, 9999, (f, n) -> f.rule(0, n, 5));
        range("watering", 0, 200, (f, n) -> f.rule(0, 5, n));
        for (char kind : new char[] {'n', 's', 't'}) {
            range("spread of " + kind, 1, 1000000, (f, n) -> f.spread(0, kind, n));
        }
        range("manure", 1, 1000000, (f, n) -> f.manure(0, n));
        range("temperature", -30, 45, (f, n) -> f.weather(n, 1, 1));
        range("rain", 0, 999, (f, n) -> f.weather(1, n, 1));
        range("thirst of the air", 0, 99, (f, n) -> f.weather(1, 1, n));
        range("limit", 0, 9999, (f, n) -> f.law(n, 1));
        range("fine", 0, 999, (f, n) -> f.law(1, n));
        range("hours", 1, 48, (f, n) -> f.hours(n));
        range("hours of a forecast", 1, 48, (f, n) -> f.forecast(0, n, 100));
        range("scale of a forecast", 10, 400, (f, n) -> f.forecast(0, 5, n));
        range("hours of fits", 1, 48, (f, n) -> f.fits(0, n, 100));
        range("out of fits", 0, 99999, (f, n) -> f.fits(0, 5, n));
        range("hours of a fit", 1, 48, (f, n) -> f.fit(0, n, 100, 0));
        range("out of a fit", 0, 99999, (f, n) -> f.fit(0, 5, n, 0));
    }

    private static void numbersOfWhatIsThere() {
        Supplier<LysimeterField> maker = LimitTest::some;
        range("column", INDEX, 0, 1, maker, (f, n) -> f.standing(n));
        range("column of a layer", INDEX, 0, 1, maker, (f, n) -> f.water(n, 0));
        range("column to link", INDEX, 0, 1, maker, (f, n) -> f.link(n, -1));
        range("other column", INDEX, -1, 1, maker, (f, n) -> f.link(0, n));
        range("layer to wet", INDEX, 0, 2, maker, (f, n) -> f.wet(0, n, 1));
        range("layer's water", INDEX, 0, 2, maker, (f, n) -> f.water(0, n));
        range("layer's capacity", INDEX, 0, 2, maker, (f, n) -> f.capacity(0, n));
        range("layer's solute", INDEX, 0, 2, maker, (f, n) -> f.solute(0, n, 's'));
        range("layer is frozen", INDEX, 0, 2, maker, (f, n) -> f.isFrozen(0, n));
        range("layer's frost", INDEX, 0, 2, maker, (f, n) -> f.frost(0, n));
        range("layer's tension", INDEX, 0, 2, maker, (f, n) -> f.tension(0, n));
        range("layer's reflection", INDEX, 0, 2, maker, (f, n) -> f.reflection(0, n));
        range("layer of one", INDEX, 0, 0, maker, (f, n) -> f.water(1, n));
        range("plant of one", ELEMENT, 0, 0, maker, (f, n) -> f.stress(0, n));
        range("plant of two", ELEMENT, 0, 1, LimitTest::full, (f, n) -> f.stress(5, n));
        range("column of six", INDEX, 0, 5, LimitTest::full, (f, n) -> f.recharge(n));
        range("layer of eight", INDEX, 0, 7, LimitTest::full, (f, n) -> f.water(5, n));
        range("fit of forty", ELEMENT, 0, 39, () -> Check.field("n s100"), (f, n) -> f.fit(0, 48, 9, n));
        range("fit of one", ELEMENT, 0, 0, LimitTest::fullLoam, (f, n) -> f.fit(0, 5, 80, n));
    }

    private static LysimeterField fullLoam() {
        LysimeterField f = Check.field("f l100");
        f.wet(0, 0, 440);
        return f;
    }

    /** Every sign from 0 to 300: the document's alone are taken. */
    private static void signs() {
        LysimeterField f = some();
        for (int sign = 0; sign <= 300; sign++) {
            char c = (char) sign;
            signIs("bottom", "fsn", sign, () -> some().column(c));
            signIs("soil", "slc", sign, () -> some().layer(0, c, 100));
            signIs("kind to spread", "nst", sign, () -> f.spread(0, c, 1));
            signIs("kind in a layer", "nst", sign, () -> f.solute(0, 0, c));
            signIs("kind that went out", "nst", sign, () -> f.out(0, c));
        }
        refuses("bottom of a soil", ARGUMENT, x -> x.column('l'));
        refuses("great bottom", ARGUMENT, x -> x.column('F'));
        refuses("soil of a bottom", ARGUMENT, x -> x.layer(0, 'f', 100));
        refuses("kind of a soil", ARGUMENT, x -> x.spread(0, 'l', 1));
        refuses("soil beyond a byte", ARGUMENT, x -> x.layer(0, (char) ('s' + 256), 100));
        refuses("kind beyond a byte", ARGUMENT, x -> x.spread(0, (char) ('n' + 256), 1));
        refuses("last sign", ARGUMENT, x -> x.column((char) 65535));
    }

    private static void signIs(String what, String taken, int sign, Supplier<Object> call) {
        boolean refused = Check.answer(call).equals("IllegalArgumentException");
        Check.is(what + " " + sign + " is refused", refused, taken.indexOf(sign) < 0);
    }

    /** What is taken at an end of its range is what counts then. */
    private static void whatTheLeastAndTheMostDo() {
        LysimeterField f = Check.field("n s100", "n", "n l50");
        Check.is("temperature at first", f.weather(-30, 999, 99), 10);
        f.hours(1);
        Check.is("30 degrees below", f.frost(0, 0), 30);
        Check.is("most rain", f.runoff(1), 999 - 50);
        Check.is("most thirst finds 50 that stand", f.vapour(1), 50);
        Check.is("least temperature before", f.weather(45, 0, 0), -30);
        f.hours(1);
        Check.is("45 degrees above", f.frost(0, 0), 0);
        f.manure(0, 1000);
        f.hours(1);
        Check.is("45 thousandths of manure", f.solute(0, 0, 'n'), 45);
        Check.is("least rain", f.standing(1), 0);
        Check.is("least thirst", f.vapour(1), 50);
        Check.is("most temperature before", f.weather(0, 0, 99), 45);
        long before = f.vapour(2);
        f.wet(2, 0, 225);
        f.hours(1);
        Check.is("most thirst", f.vapour(2) - before, 99);
        LysimeterField calm = Check.field("f s100");
        calm.manure(0, 100);
        calm.hours(48);
        Check.is("no rain at first", calm.standing(0) + calm.water(0, 0), 100);
        Check.is("no thirst at first", calm.vapour(0), 0);
        Check.is("10 degrees at first", calm.solute(0, 0, 'n') > 0, true);
    }

    private static void aFieldWithoutColumns() {
        Supplier<LysimeterField> none = LysimeterField::new;
        for (int c : new int[] {0, -1, 5, Integer.MIN_VALUE, Integer.MAX_VALUE}) {
            for (Consumer<LysimeterField> call : callsOfColumn(c)) {
                Check.refuses("no columns, column " + c, INDEX, none, call);
            }
        }
        Check.refuses("no layers in no columns, share", ARITHMETIC, none, LysimeterField::frozenShare);
        Check.refuses("no layers in no columns, mean", ARITHMETIC, none, LysimeterField::meanWater);
        LysimeterField f = new LysimeterField();
        Check.is("weather of nothing", f.weather(20, 900, 50), 10);
        Check.is("law of nothing", f.law(0, 999), 9999);
        Check.is("hours of nothing", f.hours(48), 48);
        Check.is("missing of nothing", f.missing(), 0);
        Check.is("checksum of nothing", f.checksum(), 7);
        Check.is("truth of nothing", f.isTrue(), true);
        Check.is("the first column then", f.column('n'), 0);
        Check.is("drift is from when it was made", f.setRight(0), 0);
    }

    /** Every call that names a column, with all else as it may be. */
    private static Iterable<Consumer<LysimeterField>> callsOfColumn(int c) {
        return java.util.List.of(f -> f.layer(c, 's', 100), f -> f.wet(c, 0, 0), f -> f.water(c, 0),
                f -> f.capacity(c, 0), f -> f.link(c, NONE), f -> f.scale(c, 100), f -> f.plant(c, 1, 1),
                f -> f.harvest(c), f -> f.stress(c, 0), f -> f.mulch(c, true), f -> f.rule(c, 1, 1),
                f -> f.spread(c, 'n', 1), f -> f.manure(c, 1), f -> f.solute(c, 0, 'n'), f -> f.out(c, 'n'),
                f -> f.eaten(c), f -> f.standing(c), f -> f.recharge(c), f -> f.runoff(c), f -> f.vapour(c),
                f -> f.isFrozen(c, 0), f -> f.frost(c, 0), f -> f.heave(c), f -> f.crack(c), f -> f.tension(c, 0),
                f -> f.reflection(c, 0), f -> f.setRight(c), f -> f.weigh(c), f -> f.fines(c),
                f -> f.forecast(c, 1, 100), f -> f.fits(c, 1, 0), f -> f.fit(c, 1, 0, 0));
    }

    private static void aColumnWithoutLayers() {
        Supplier<LysimeterField> bare = () -> Check.field("f");
        for (int l : new int[] {0, -1, 7, Integer.MIN_VALUE, Integer.MAX_VALUE}) {
            Check.refuses("bare, wet " + l, INDEX, bare, f -> f.wet(0, l, 0));
            Check.refuses("bare, water " + l, INDEX, bare, f -> f.water(0, l));
            Check.refuses("bare, capacity " + l, INDEX, bare, f -> f.capacity(0, l));
            Check.refuses("bare, solute " + l, INDEX, bare, f -> f.solute(0, l, 'n'));
            Check.refuses("bare, frozen " + l, INDEX, bare, f -> f.isFrozen(0, l));
            Check.refuses("bare, frost " + l, INDEX, bare, f -> f.frost(0, l));
            Check.refuses("bare, tension " + l, INDEX, bare, f -> f.tension(0, l));
            Check.refuses("bare, reflection " + l, INDEX, bare, f -> f.reflection(0, l));
        }
        Check.refuses("bare, spread", UNSUPPORTED, bare, f -> f.spread(0, 'n', 1));
        Check.refuses("bare, share", ARITHMETIC, bare, LysimeterField::frozenShare);
        Check.refuses("bare, mean", ARITHMETIC, bare, LysimeterField::meanWater);
        Check.refuses("bare, stress", ELEMENT, bare, f -> f.stress(0, 0));
        LysimeterField f = Check.field("f");
        Check.is("no heave", f.heave(0), 0);
        Check.is("no crack", f.crack(0), 0);
        Check.is("no weight", f.weigh(0), 0);
        Check.is("no forecast", f.forecast(0, 48, 400), 0);
        Check.is("all scales fit", f.fits(0, 48, 99999), 40);
        Check.is("the least of all", f.fit(0, 1, 0, 0), 10);
        Check.is("nothing to harvest", f.harvest(0), 0);
        Check.is("checksum", f.checksum(), 7 * 31 * 31);
        Check.is("nothing missing", f.missing(), 0);
    }

    private static void hoursOfAColumnWithoutLayers() {
        for (String bottom : new String[] {"f", "s", "n"}) {
            LysimeterField f = Check.field(bottom);
            f.plant(0, 8, 7);
            f.rule(0, 9999, 200);
            f.manure(0, 1000);
            f.weather(45, 51, 0);
            f.hours(1);
            Check.is(bottom + ", all but 50 runs off", f.runoff(0), 1);
            Check.is(bottom + ", 50 stand, not watered", f.standing(0), 50);
            Check.is(bottom + ", nothing out", f.recharge(0), 0);
            Check.is(bottom + ", a plant gets nothing", f.stress(0, 0), 7);
            Check.is(bottom + ", manure stays", f.manure(0, 1), 1001);
            f.weather(-30, 0, 49);
            f.hours(1);
            Check.is(bottom + ", the air takes what stands", f.standing(0), 1);
            f.hours(1);
            Check.is(bottom + ", and no more", f.vapour(0), 50);
            Check.is(bottom + ", nothing missing", f.missing(), 0);
            Check.is(bottom + ", true", f.isTrue(), true);
            Check.is(bottom + ", a layer then", f.layer(0, 's', 100), 1);
            Check.is(bottom + ", which had no frost", f.frost(0, 0), 0);
        }
    }

    private static void aFullField() {
        Supplier<LysimeterField> full = LimitTest::full;
        for (char bottom : new char[] {'f', 's', 'n'}) {
            Check.refuses("seventh column " + bottom, STATE, full, f -> f.column(bottom));
        }
        Check.refuses("seventh column of no bottom", ARGUMENT, full, f -> f.column('x'));
        for (Consumer<LysimeterField> call : callsOfColumn(6)) {
            Check.refuses("column 6 of six", INDEX, full, call);
        }
        LysimeterField f = full();
        for (Consumer<LysimeterField> call : callsOfColumn(5)) {
            Check.is("column 5 of six", Check.answer(() -> {
                call.accept(f);
                return "";
            }).contains("Index"), false);
        }
        for (int h = 0; h < 8; h++) {
            f.weather(h % 2 == 0 ? -25 : 35, 200, 30);
            Check.is("hours of a full field", f.hours(12), 30 + 12 * (h + 1));
            Check.is("nothing missing in a full field", f.missing(), 0);
            Check.is("truth of a full field", f.isTrue(), true);
            Check.is("checksum of a full field", f.checksum(), checksumByReadings(f));
        }
    }

    private static long checksumByReadings(LysimeterField f) {
        long sum = 7;
        for (int c = 0; c < 6; c++) {
            sum = 31 * (31 * sum + f.standing(c)) + f.recharge(c);
            for (int l = 0; l < 8; l++) {
                sum = 31 * (31 * (31 * sum + f.water(c, l)) + f.solute(c, l, 'n')) + f.frost(c, l);
            }
        }
        return sum;
    }

    private static void aFullColumn() {
        Supplier<LysimeterField> full = LimitTest::full;
        for (char soil : new char[] {'s', 'l', 'c'}) {
            Check.refuses("ninth layer " + soil, STATE, full, f -> f.layer(3, soil, 500));
        }
        Check.refuses("ninth layer of no soil", ARGUMENT, full, f -> f.layer(3, 'n', 500));
        Check.refuses("ninth layer, too thin", ARGUMENT, full, f -> f.layer(3, 's', 49));
        Check.refuses("ninth layer, too thick", ARGUMENT, full, f -> f.layer(3, 's', 501));
        Check.refuses("layer 8 of eight", INDEX, full, f -> f.wet(3, 8, 0));
        LysimeterField f = Check.field("f s50 s50 s50 s50 s50 s50 s50 s50");
        f.wet(0, 7, 175);
        f.hours(1);
        Check.is("the eighth is the lowest", f.recharge(0), 62);
        f.plant(0, 8, 50);
        f.wet(0, 7, 175);
        for (int l = 0; l < 7; l++) {
            f.wet(0, l, 0);
        }
        f.hours(1);
        Check.is("a reach of eight", f.vapour(0), 50);
    }

    private static void aFullBedOfPlants() {
        Supplier<LysimeterField> full = LimitTest::full;
        Check.refuses("third plant", STATE, full, f -> f.plant(4, 8, 50));
        Check.refuses("third plant, least", STATE, full, f -> f.plant(4, 1, 0));
        Check.refuses("third plant, no reach", ARGUMENT, full, f -> f.plant(4, 0, 5));
        Check.refuses("third plant, great reach", ARGUMENT, full, f -> f.plant(4, 9, 5));
        Check.refuses("third plant, no thirst", ARGUMENT, full, f -> f.plant(4, 5, -1));
        Check.refuses("third plant, great thirst", ARGUMENT, full, f -> f.plant(4, 5, 51));
        LysimeterField f = full();
        Check.is("harvest of a full bed", f.harvest(4), 2);
        Check.throwsIt("no plant any more", ELEMENT, () -> f.stress(4, 0));
        Check.is("room again", f.plant(4, 8, 50), 1);
        Check.is("without old stress", f.stress(4, 0), 0);
        Check.is("room for another", f.plant(4, 8, 50), 2);
        Check.throwsIt("full again", STATE, () -> f.plant(4, 8, 50));
        Check.is("other beds stay", f.harvest(3), 2);
    }

    private static void theExceptionListedFirst() {
        refuses("layer, nothing right", INDEX, f -> f.layer(2, 'x', 0));
        refuses("wet, no layer and too much", INDEX, f -> f.wet(0, 3, 99999));
        refuses("wet, no column and too little", INDEX, f -> f.wet(2, 0, -1));
        refuses("link, no columns, the same", INDEX, f -> f.link(2, 2));
        refuses("link, none to none", INDEX, f -> f.link(-1, -1));
        refuses("link, no other", INDEX, f -> f.link(0, 2));
        refuses("link, other below none", INDEX, f -> f.link(0, -2));
        refuses("link, the same", ARGUMENT, f -> f.link(1, 1));
        refuses("scale, nothing right", INDEX, f -> f.scale(2, 9));
        refuses("plant, nothing right", INDEX, f -> f.plant(2, 0, 51));
        refuses("plant, both numbers", ARGUMENT, f -> f.plant(0, 9, 51));
        refuses("stress, nothing right", INDEX, f -> f.stress(2, 2));
        refuses("rule, nothing right", INDEX, f -> f.rule(2, -1, 201));
        refuses("spread, nothing right", INDEX, f -> f.spread(2, 'x', 0));
        refuses("manure, nothing right", INDEX, f -> f.manure(2, 0));
        refuses("solute, no layer and no kind", INDEX, f -> f.solute(0, 3, 'x'));
        refuses("out, nothing right", INDEX, f -> f.out(2, 'x'));
        refuses("tension, no layer", INDEX, f -> f.tension(0, 3));
        refuses("reflection, no layer", INDEX, f -> f.reflection(0, 3));
        refuses("forecast, nothing right", INDEX, f -> f.forecast(2, 0, 9));
        refuses("fits, nothing right", INDEX, f -> f.fits(2, 49, -1));
        refuses("fit, nothing right", INDEX, f -> f.fit(2, 49, -1, 40));
        refuses("fit, hours and index", ARGUMENT, f -> f.fit(0, 49, 5, 40));
        refuses("fit, out and index", ARGUMENT, f -> f.fit(0, 48, 100000, -1));
        Supplier<LysimeterField> bare = () -> Check.field("n");
        Check.refuses("spread, no layer, no kind", ARGUMENT, bare, f -> f.spread(0, 'x', 1));
        Check.refuses("spread, no layer, nothing", ARGUMENT, bare, f -> f.spread(0, 'n', 0));
        Check.refuses("spread, no layer, too much", ARGUMENT, bare, f -> f.spread(0, 'n', 1000001));
        Check.refuses("spread, no layer", UNSUPPORTED, bare, f -> f.spread(0, 'n', 1000000));
        IntConsumer both = n -> refuses("weather, all of it " + n, ARGUMENT, f -> f.weather(n, n, n));
        both.accept(-31);
        both.accept(1000);
    }
}
