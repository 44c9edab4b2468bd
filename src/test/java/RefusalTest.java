import java.util.NoSuchElementException;
import java.util.function.Consumer;

/** Wrong inputs of every promise that throws: which exception, in the document's order, and nothing changed. */
public final class RefusalTest {
    private static final Class<IndexOutOfBoundsException> INDEX = IndexOutOfBoundsException.class;
    private static final Class<IllegalArgumentException> ARGUMENT = IllegalArgumentException.class;
    private static final Class<IllegalStateException> STATE = IllegalStateException.class;
    private static final Class<NoSuchElementException> ELEMENT = NoSuchElementException.class;
    private static final Class<UnsupportedOperationException> UNSUPPORTED = UnsupportedOperationException.class;
    private static final int[] NO_COLUMNS = {-1, 6, Integer.MIN_VALUE, Integer.MAX_VALUE};
    private static final int[] NO_LAYERS = {-1, 8, Integer.MIN_VALUE, Integer.MAX_VALUE};

    public static void main(String[] args) {
        noSuchColumn();
        noSuchLayer();
        makingColumns();
        settingColumns();
        plantsAndSolutes();
        weatherLawAndHours();
        forecasts();
        nothingThere();
        Check.end("RefusalTest");
    }

    /** Six columns: 0 has 8 layers and 2 plants, 1 has two layers, the others none. */
    private static LysimeterField full() {
        LysimeterField f = Check.field("f s100 l100 c100 c100 s50 l60 c70 s500", "s c100 l100", "n", "f", "s", "n");
        f.wet(0, 0, 350);
        f.wet(1, 0, 100);
        f.weather(12, 70, 3);
        f.law(40, 9);
        f.plant(0, 3, 20);
        f.plant(0, 8, 30);
        f.link(0, 1);
        f.link(1, 0);
        f.rule(0, 150, 20);
        f.spread(0, 'n', 4000);
        f.spread(1, 's', 300);
        f.manure(1, 900);
        f.mulch(1, true);
        f.scale(1, 130);
        f.hours(5);
        return f;
    }

    private static void refuses(String what, Class<? extends RuntimeException> due, Consumer<LysimeterField> call) {
        Check.refuses(what, due, RefusalTest::full, call);
    }

    private static void noSuchColumn() {
        for (int c : NO_COLUMNS) {
            refuses("layer of " + c, INDEX, f -> f.layer(c, 'x', 0));
            refuses("wet of " + c, INDEX, f -> f.wet(c, 0, -1));
            refuses("water of " + c, INDEX, f -> f.water(c, 0));
            refuses("capacity of " + c, INDEX, f -> f.capacity(c, 0));
            refuses("link of " + c, INDEX, f -> f.link(c, c));
            refuses("scale of " + c, INDEX, f -> f.scale(c, 0));
            refuses("plant of " + c, INDEX, f -> f.plant(c, 0, -1));
            refuses("harvest of " + c, INDEX, f -> f.harvest(c));
            refuses("stress of " + c, INDEX, f -> f.stress(c, 2));
            refuses("mulch of " + c, INDEX, f -> f.mulch(c, true));
            refuses("rule of " + c, INDEX, f -> f.rule(c, -1, -1));
            refuses("spread of " + c, INDEX, f -> f.spread(c, 'x', 0));
            refuses("manure of " + c, INDEX, f -> f.manure(c, 0));
            refuses("solute of " + c, INDEX, f -> f.solute(c, 0, 'x'));
            refuses("out of " + c, INDEX, f -> f.out(c, 'x'));
            refuses("eaten of " + c, INDEX, f -> f.eaten(c));
            refuses("standing of " + c, INDEX, f -> f.standing(c));
            refuses("recharge of " + c, INDEX, f -> f.recharge(c));
            refuses("runoff of " + c, INDEX, f -> f.runoff(c));
            refuses("vapour of " + c, INDEX, f -> f.vapour(c));
            refuses("isFrozen of " + c, INDEX, f -> f.isFrozen(c, 0));
            refuses("frost of " + c, INDEX, f -> f.frost(c, 0));
            refuses("heave of " + c, INDEX, f -> f.heave(c));
            refuses("crack of " + c, INDEX, f -> f.crack(c));
            refuses("tension of " + c, INDEX, f -> f.tension(c, 0));
            refuses("reflection of " + c, INDEX, f -> f.reflection(c, 0));
            refuses("setRight of " + c, INDEX, f -> f.setRight(c));
            refuses("weigh of " + c, INDEX, f -> f.weigh(c));
            refuses("fines of " + c, INDEX, f -> f.fines(c));
            refuses("forecast of " + c, INDEX, f -> f.forecast(c, 0, 0));
            refuses("fits of " + c, INDEX, f -> f.fits(c, 0, -1));
            refuses("fit of " + c, INDEX, f -> f.fit(c, 0, -1, -1));
        }
    }

    private static void noSuchLayer() {
        for (int l : NO_LAYERS) {
            refuses("wet of layer " + l, INDEX, f -> f.wet(0, l, -1));
            refuses("water of layer " + l, INDEX, f -> f.water(0, l));
            refuses("capacity of layer " + l, INDEX, f -> f.capacity(0, l));
            refuses("solute of layer " + l, INDEX, f -> f.solute(0, l, 'x'));
            refuses("isFrozen of layer " + l, INDEX, f -> f.isFrozen(0, l));
            refuses("frost of layer " + l, INDEX, f -> f.frost(0, l));
            refuses("tension of layer " + l, INDEX, f -> f.tension(0, l));
            refuses("reflection of layer " + l, INDEX, f -> f.reflection(0, l));
        }
        refuses("water of a column's third layer", INDEX, f -> f.water(1, 2));
        refuses("water without layers", INDEX, f -> f.water(2, 0));
    }

    private static void makingColumns() {
        refuses("seventh column", STATE, f -> f.column('f'));
        for (char bottom : new char[] {'F', 'x', 'l', 0, 255}) {
            refuses("bottom " + (int) bottom, ARGUMENT, f -> f.column(bottom));
        }
        refuses("ninth layer", STATE, f -> f.layer(0, 's', 50));
        refuses("ninth layer of no soil", ARGUMENT, f -> f.layer(0, 'x', 50));
        refuses("ninth layer, too thin", ARGUMENT, f -> f.layer(0, 's', 49));
        for (char soil : new char[] {'S', 'n', 'f', 0, 255}) {
            refuses("soil " + (int) soil, ARGUMENT, f -> f.layer(2, soil, 100));
        }
        for (int thickness : new int[] {49, 501, 0, -100, Integer.MIN_VALUE, Integer.MAX_VALUE}) {
            refuses("thickness " + thickness, ARGUMENT, f -> f.layer(2, 'l', thickness));
        }
        for (int water : new int[] {-1, 351, Integer.MIN_VALUE, Integer.MAX_VALUE}) {
            refuses("wet by " + water, ARGUMENT, f -> f.wet(0, 0, water));
        }
    }

    private static void settingColumns() {
        for (int other : new int[] {-2, 6, Integer.MIN_VALUE, Integer.MAX_VALUE}) {
            refuses("link to " + other, INDEX, f -> f.link(0, other));
        }
        refuses("link to itself", ARGUMENT, f -> f.link(5, 5));
        for (int scale : new int[] {9, 401, 0, -10, Integer.MIN_VALUE, Integer.MAX_VALUE}) {
            refuses("scale " + scale, ARGUMENT, f -> f.scale(0, scale));
        }
        for (int threshold : new int[] {-1, 10000, Integer.MIN_VALUE, Integer.MAX_VALUE}) {
            refuses("threshold " + threshold, ARGUMENT, f -> f.rule(0, threshold, 5));
        }
        for (int amount : new int[] {-1, 201, Integer.MIN_VALUE, Integer.MAX_VALUE}) {
            refuses("watering " + amount, ARGUMENT, f -> f.rule(0, 5, amount));
        }
    }

    private static void plantsAndSolutes() {
        for (int reach : new int[] {0, 9, -1, Integer.MIN_VALUE, Integer.MAX_VALUE}) {
            refuses("reach " + reach, ARGUMENT, f -> f.plant(1, reach, 5));
        }
        for (int thirst : new int[] {-1, 51, Integer.MIN_VALUE, Integer.MAX_VALUE}) {
            refuses("thirst " + thirst, ARGUMENT, f -> f.plant(0, 5, thirst));
        }
        refuses("third plant", STATE, f -> f.plant(0, 1, 1));
        for (int plant : new int[] {-1, 2, Integer.MIN_VALUE, Integer.MAX_VALUE}) {
            refuses("stress of plant " + plant, ELEMENT, f -> f.stress(0, plant));
        }
        refuses("stress without plants", ELEMENT, f -> f.stress(1, 0));
        for (char kind : new char[] {'N', 'l', 'x', 0, 255}) {
            refuses("spread " + (int) kind, ARGUMENT, f -> f.spread(0, kind, 5));
            refuses("solute " + (int) kind, ARGUMENT, f -> f.solute(0, 0, kind));
            refuses("out " + (int) kind, ARGUMENT, f -> f.out(0, kind));
        }
        for (int amount : new int[] {0, 1000001, -1, Integer.MIN_VALUE, Integer.MAX_VALUE}) {
            refuses("spread of " + amount, ARGUMENT, f -> f.spread(2, 'n', amount));
            refuses("manure of " + amount, ARGUMENT, f -> f.manure(0, amount));
        }
        refuses("spread onto none", UNSUPPORTED, f -> f.spread(2, 'n', 5));
    }

    private static void weatherLawAndHours() {
        for (int temperature : new int[] {-31, 46, Integer.MIN_VALUE, Integer.MAX_VALUE}) {
            refuses("temperature " + temperature, ARGUMENT, f -> f.weather(temperature, 1, 1));
        }
        for (int rain : new int[] {-1, 1000, Integer.MIN_VALUE, Integer.MAX_VALUE}) {
            refuses("rain " + rain, ARGUMENT, f -> f.weather(1, rain, 1));
        }
        for (int thirst : new int[] {-1, 100, Integer.MIN_VALUE, Integer.MAX_VALUE}) {
            refuses("thirst of the air " + thirst, ARGUMENT, f -> f.weather(1, 1, thirst));
        }
        for (int limit : new int[] {-1, 10000, Integer.MIN_VALUE, Integer.MAX_VALUE}) {
            refuses("limit " + limit, ARGUMENT, f -> f.law(limit, 1));
        }
        for (int fine : new int[] {-1, 1000, Integer.MIN_VALUE, Integer.MAX_VALUE}) {
            refuses("fine " + fine, ARGUMENT, f -> f.law(1, fine));
        }
        for (int hours : new int[] {0, 49, -1, Integer.MIN_VALUE, Integer.MAX_VALUE}) {
            refuses("hours " + hours, ARGUMENT, f -> f.hours(hours));
        }
    }

    private static void forecasts() {
        for (int hours : new int[] {0, 49, -1, Integer.MIN_VALUE, Integer.MAX_VALUE}) {
            refuses("forecast of hours " + hours, ARGUMENT, f -> f.forecast(0, hours, 100));
            refuses("fits of hours " + hours, ARGUMENT, f -> f.fits(0, hours, 100));
            refuses("fit of hours " + hours, ARGUMENT, f -> f.fit(0, hours, 100, -1));
        }
        for (int scale : new int[] {9, 401, -1, Integer.MIN_VALUE, Integer.MAX_VALUE}) {
            refuses("forecast by " + scale, ARGUMENT, f -> f.forecast(0, 1, scale));
        }
        for (int out : new int[] {-1, 100000, Integer.MIN_VALUE, Integer.MAX_VALUE}) {
            refuses("fits to " + out, ARGUMENT, f -> f.fits(0, 1, out));
            refuses("fit to " + out, ARGUMENT, f -> f.fit(0, 1, out, -1));
        }
        for (int index : new int[] {-1, 40, Integer.MIN_VALUE, Integer.MAX_VALUE}) {
            refuses("fit " + index, ELEMENT, f -> f.fit(2, 1, 0, index));
        }
    }

    private static void nothingThere() {
        Check.refuses("tension of dry clay", ELEMENT, () -> clayAfterADay(250), f -> f.tension(0, 0));
        Check.refuses("reflection above 500", ELEMENT, () -> clayAfterADay(500), f -> f.reflection(0, 0));
        Check.refuses("no column", INDEX, LysimeterField::new, f -> f.layer(0, 's', 100));
        Check.refuses("share of nothing", ArithmeticException.class, LysimeterField::new, f -> f.frozenShare());
        Check.refuses("mean of nothing", ArithmeticException.class, LysimeterField::new, f -> f.meanWater());
    }

    private static LysimeterField clayAfterADay(int water) {
        LysimeterField f = Check.field("n c100");
        f.wet(0, 0, water);
        f.hours(24);
        return f;
    }
}
