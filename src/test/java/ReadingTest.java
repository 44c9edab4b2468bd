import java.util.NoSuchElementException;

/** Promises 30 to 42: instruments, fines, forecasts and fits, and what is told of the whole field. */
public final class ReadingTest {
    public static void main(String[] args) {
        promise30Tension();
        promise31Reflection();
        promise32SetRight();
        promise33Weigh();
        promise34Fines();
        promise35Forecast();
        promise35WhatAForecastLeavesOut();
        promise36Fits();
        promise37Fit();
        promise38Missing();
        promise39FrozenShare();
        promise40MeanWater();
        promise41Checksum();
        promise42IsTrue();
        Check.end("ReadingTest");
    }

    private static LysimeterField wetted(String column, int water) {
        LysimeterField f = Check.field(column);
        f.wet(0, 0, water);
        return f;
    }

    private static void promise30Tension() {
        Check.is("full", wetted("n s100", 350).tension(0, 0), 0);
        Check.is("sand at its field, cut", wetted("n s100", 100).tension(0, 0), 725);
        Check.is("at 800", wetted("n c100", 251).tension(0, 0), 800);
        Check.throwsIt("above 800", NoSuchElementException.class, () -> wetted("n c100", 250).tension(0, 0));
        Check.is("at 800, cut", wetted("n s500", 371).tension(0, 0), 800);
        Check.throwsIt("at 801", NoSuchElementException.class, () -> wetted("n s500", 370).tension(0, 0));
        Check.throwsIt("dry", NoSuchElementException.class, () -> wetted("n s100", 0).tension(0, 0));
        LysimeterField f = wetted("n s100 l100", 350);
        f.weather(-10, 0, 0);
        f.hours(1);
        Check.throwsIt("frozen", NoSuchElementException.class, () -> f.tension(0, 0));
        Check.is("not frozen", f.tension(0, 1), 514);
        Check.throwsIt("no such layer", IndexOutOfBoundsException.class, () -> f.tension(0, 2));
    }

    private static void promise31Reflection() {
        LysimeterField f = Check.field("n l51 c100");
        Check.is("water by thickness, cut", f.reflection(0, 0), 249);
        f.wet(0, 1, 500);
        Check.is("at 500", f.reflection(0, 1), 500);
        f.hours(23);
        Check.is("a begun day", f.reflection(0, 0), 249);
        Check.is("a begun day at 500", f.reflection(0, 1), 500);
        f.hours(1);
        Check.is("a day", f.reflection(0, 0), 250);
        Check.throwsIt("above 500", NoSuchElementException.class, () -> f.reflection(0, 1));
        f.hours(47);
        Check.is("not yet three days", f.reflection(0, 0), 251);
        Check.addColumn(f, "n l100");
        f.hours(1);
        Check.is("three days", f.reflection(0, 0), 252);
        Check.is("since the column was made", f.reflection(1, 0), 250);
        f.layer(1, 'l', 100);
        f.weather(-30, 0, 0);
        f.hours(23);
        Check.is("a day of the column, frozen", f.reflection(1, 0), 251);
        Check.is("a layer added later", f.reflection(1, 1), 251);
    }

    private static void promise32SetRight() {
        LysimeterField f = Check.field("n l100", "n l100");
        f.hours(30);
        Check.is("a day too much", f.setRight(0), 1);
        Check.is("set right", f.setRight(0), 0);
        Check.is("reads right", f.reflection(0, 0), 250);
        Check.is("the other one does not", f.reflection(1, 0), 251);
        f.hours(23);
        Check.is("a begun day since", f.reflection(0, 0), 250);
        f.hours(1);
        Check.is("a day since", f.reflection(0, 0), 251);
        Check.is("two days of the other one", f.setRight(1), 2);
    }

    private static void promise33Weigh() {
        Check.is("nothing", Check.field("n").weigh(0), 0);
        LysimeterField f = Check.field("n s100 l100");
        Check.is("all layers", f.weigh(0), 350);
        f.wet(0, 0, 104);
        Check.is("rounded down", f.weigh(0), 350);
        f.wet(0, 0, 105);
        Check.is("to 5", f.weigh(0), 355);
        LysimeterField stands = wetted("n c100", 500);
        stands.weather(10, 37, 0);
        stands.hours(1);
        Check.is("what stands too", stands.weigh(0), 535);
    }

    private static void promise34Fines() {
        Check.is("above the limit", finesOf(1000, 2855, 1), 7);
        Check.is("at the limit", finesOf(1000, 2856, 1), 0);
        Check.is("each hour", finesOf(1000, 100, 3), 21);
        Check.is("by the nitrate of the hour alone", finesOf(1000, 2854, 2), 7);
        Check.is("by the water of the hour alone", finesOf(1000, 2000, 2), 14);
        Check.is("one of nitrate by 125 of water", finesOf(3, 7, 1), 7);
        Check.is("only nitrate", finesOf(0, 0, 3), 0);
        LysimeterField drop = wetted("f c100", 390);
        drop.spread(0, 'n', 390);
        drop.law(999, 5);
        drop.hours(1);
        Check.is("one of nitrate by one of water", drop.fines(0), 5);
        LysimeterField thin = Check.field("f s500");
        thin.wet(0, 0, 1750);
        thin.scale(0, 400);
        thin.spread(0, 'n', 2);
        thin.law(0, 5);
        thin.hours(1);
        Check.is("a little went out", thin.out(0, 'n'), 1);
        Check.is("share of it, cut, is not above 0", thin.fines(0), 0);
        LysimeterField lawless = wetted("f s100", 350);
        lawless.spread(0, 'n', 1000000);
        lawless.hours(1);
        Check.is("no fine at first", lawless.fines(0), 0);
    }

    private static long finesOf(int nitrate, int limit, int hours) {
        LysimeterField f = wetted("f s100", 350);
        Check.addColumn(f, "n s100");
        if (nitrate > 0) {
            f.spread(0, 'n', nitrate);
            f.spread(1, 'n', nitrate);
        }
        f.spread(0, 's', 100000);
        f.law(limit, 7);
        f.hours(hours);
        Check.is("no fine where nothing goes out", f.fines(1), 0);
        return f.fines(0);
    }

    private static void promise35Forecast() {
        LysimeterField f = wetted("f l100", 440);
        Check.is("by its own scale", f.forecast(0, 5, 100), 144);
        Check.is("one hour", f.forecast(0, 1, 100), 47);
        Check.is("by the least scale", f.forecast(0, 1, 10), 4);
        Check.is("by the most scale", f.forecast(0, 1, 400), 190);
        Check.is("most hours", f.forecast(0, 48, 400), 190);
        Check.stays("forecast", f, x -> x.forecast(0, 48, 10));
        f.plant(0, 1, 50);
        f.mulch(0, true);
        f.weather(-1, 0, 60);
        Check.stays("forecast with a plant and frost", f, x -> x.forecast(0, 48, 100));
        long told = f.forecast(0, 13, 100);
        f.hours(13);
        Check.is("as it comes", f.recharge(0), told);
        LysimeterField many = Check.field("f s100", "s l100", "n c100");
        many.wet(0, 0, 350);
        many.wet(1, 0, 450);
        Check.is("of one column", many.forecast(0, 1, 100), 125);
        Check.is("of another one", many.forecast(1, 1, 100), 50);
        Check.is("of a tight one", many.forecast(2, 1, 100), 0);
        Check.is("of none without layers", Check.field("f").forecast(0, 9, 100), 0);
    }

    private static void promise35WhatAForecastLeavesOut() {
        LysimeterField f = Check.field("f s100", "n");
        f.weather(10, 999, 0);
        f.rule(0, 9999, 200);
        f.link(1, 0);
        Check.is("no rain and no watering", f.forecast(0, 48, 100), 0);
        f.hours(1);
        f.weather(10, 0, 0);
        f.wet(0, 0, 100);
        Check.is("what stands sinks, what is running does not come", f.forecast(0, 1, 400), 50);
        f.hours(1);
        Check.is("but both come in truth, and the watering", f.recharge(0), 100 + 100);
        Check.is("more than is taken in", f.runoff(0), 949 + 949);
    }

    private static void promise36Fits() {
        LysimeterField f = wetted("f l100", 440);
        Check.is("one fit", f.fits(0, 5, 80), 1);
        Check.is("all that give the same", f.fits(0, 1, 190), 1);
        Check.is("far above", f.fits(0, 48, 99999), fitsByForecasts(f, 48, 99999));
        Check.is("all fit a tight one", Check.field("n l100").fits(0, 48, 0), 40);
        Check.is("and differ alike", Check.field("n l100").fits(0, 1, 99999), 40);
        Check.stays("fits", f, x -> x.fits(0, 48, 100));
        int ties = 0;
        for (int out = 0; out < 200; out++) {
            int due = fitsByForecasts(f, 3, out);
            Check.is("fits to " + out, f.fits(0, 3, out), due);
            ties += due > 1 ? 1 : 0;
        }
        Check.is("some have ties", ties > 0, true);
    }

    private static int fitsByForecasts(LysimeterField f, int hours, int out) {
        long least = leastMiss(f, hours, out);
        int count = 0;
        for (int scale = 10; scale <= 400; scale += 10) {
            count += miss(f, hours, out, scale) == least ? 1 : 0;
        }
        return count;
    }

    private static long leastMiss(LysimeterField f, int hours, int out) {
        long least = Long.MAX_VALUE;
        for (int scale = 10; scale <= 400; scale += 10) {
            least = Math.min(least, miss(f, hours, out, scale));
        }
        return least;
    }

    private static long miss(LysimeterField f, int hours, int out, int scale) {
        return Math.abs(f.forecast(0, hours, scale) - out);
    }

    private static void promise37Fit() {
        LysimeterField f = wetted("f l100", 440);
        Check.is("the fit", f.fit(0, 5, 80, 0), 40);
        Check.throwsIt("no second one", NoSuchElementException.class, () -> f.fit(0, 5, 80, 1));
        Check.throwsIt("none before", NoSuchElementException.class, () -> f.fit(0, 5, 80, -1));
        LysimeterField tight = Check.field("n l100");
        Check.is("the least of all", tight.fit(0, 9, 3, 0), 10);
        Check.is("the most of all", tight.fit(0, 9, 3, 39), 400);
        Check.throwsIt("none behind", NoSuchElementException.class, () -> tight.fit(0, 9, 3, 40));
        Check.stays("fit", f, x -> x.fit(0, 48, 100, 0));
        for (int out = 0; out < 200; out += 7) {
            int index = 0;
            for (int scale = 10; scale <= 400; scale += 10) {
                if (miss(f, 3, out, scale) == leastMiss(f, 3, out)) {
                    Check.is("fit " + index + " to " + out, f.fit(0, 3, out, index), scale);
                    index++;
                }
            }
        }
    }

    private static void promise38Missing() {
        LysimeterField f = Check.field("f s100 l100", "s c100 c100", "n");
        f.link(0, 1);
        f.link(1, 2);
        f.link(2, 0);
        f.wet(0, 0, 350);
        f.wet(1, 0, 0);
        f.rule(1, 300, 77);
        f.plant(0, 2, 33);
        for (int i = 0; i < 5; i++) {
            f.weather(i * 7 - 15, 123 * i, i * 9);
            f.hours(7);
            Check.is("missing after " + i, f.missing(), 0);
        }
        f.layer(2, 's', 300);
        f.wet(0, 1, 5);
        Check.is("missing after a late layer", f.missing(), 0);
    }

    private static void promise39FrozenShare() {
        LysimeterField f = Check.field("n", "n s100 s100", "n s100");
        Check.is("none frozen", f.frozenShare(), 0.0f);
        f.weather(-10, 0, 0);
        f.hours(1);
        Check.is("two of three", f.frozenShare(), 2.0f / 3.0f);
        f.hours(1);
        Check.is("all", f.frozenShare(), 1.0f);
        LysimeterField first = Check.field("n s100 s100 s100", "n l50 l50");
        first.weather(-7, 0, 0);
        first.hours(1);
        Check.is("one of five", first.frozenShare(), 1.0f / 5.0f);
        first.hours(1);
        Check.is("three of five", first.frozenShare(), 3.0f / 5.0f);
        Check.throwsIt("no layers", ArithmeticException.class, () -> Check.field("n").frozenShare());
    }

    private static void promise40MeanWater() {
        LysimeterField f = Check.field("n", "n s100 l100", "n s103");
        Check.is("mean of three", f.meanWater(), 453.0 / 3.0);
        f.wet(1, 0, 99);
        Check.is("mean of three, not even", f.meanWater(), 452.0 / 3.0);
        Check.is("mean of two columns", Check.field("n s100", "n l100 c100").meanWater(), 730.0 / 3.0);
        Check.throwsIt("no layers", ArithmeticException.class, () -> Check.field("n").meanWater());
        Check.throwsIt("no columns", ArithmeticException.class, () -> new LysimeterField().meanWater());
    }

    private static void promise41Checksum() {
        LysimeterField f = Check.field("f s100 l100", "n");
        f.spread(0, 'n', 1000);
        f.spread(0, 's', 55);
        f.wet(0, 1, 450);
        f.weather(-10, 60, 0);
        f.hours(1);
        long due = 7;
        long[] parts = {50, 50, 100, 1000, 10, 400, 0, 0, 50, 0};
        for (long part : parts) {
            due = 31 * due + part;
        }
        Check.is("checksum of two columns", f.checksum(), due);
        Check.is("checksum again", f.checksum(), due);
    }

    private static void promise42IsTrue() {
        LysimeterField f = Check.field("f c100 c200 l100", "s s100 l300", "n");
        f.link(0, 1);
        f.link(1, 0);
        f.plant(0, 8, 20);
        f.rule(1, 200, 30);
        f.scale(1, 250);
        f.manure(1, 100000);
        f.spread(0, 'n', 5000);
        f.spread(0, 't', 77);
        LysimeterField slow = wetted("f c500", 2500);
        slow.scale(0, 10);
        Check.is("true while water sinks for days", slow.isTrue(), true);
        slow.wet(0, 0, 0);
        Check.is("true without any water", slow.isTrue(), true);
        for (int i = 0; i < 6; i++) {
            f.weather(25 - i * 10, 50 * i, 5 * i);
            f.hours(5);
            Check.is("true after " + i, f.isTrue(), true);
            Check.stays("isTrue", f, x -> x.isTrue());
        }
    }
}
