/** Promises 1 to 20: making columns, and telling what they are, carry and stand in. */
public final class SetUpTest {
    public static void main(String[] args) {
        promise1NewObject();
        promise2Column();
        promise3Layer();
        promise4Wet();
        promise5Water();
        promise6Capacity();
        promise7Link();
        promise8Scale();
        promise9Plant();
        promise10Harvest();
        promise11Stress();
        promise12Mulch();
        promise13Rule();
        promise14Spread();
        promise15Manure();
        promise16Solute();
        promise17Out();
        promise18Eaten();
        promise19Weather();
        promise20Law();
        Check.end("SetUpTest");
    }

    private static void promise1NewObject() {
        LysimeterField f = new LysimeterField();
        Check.is("checksum of a new field", f.checksum(), 7);
        Check.is("missing in a new field", f.missing(), 0);
        Check.is("a new field is true", f.isTrue(), true);
        Check.throwsIt("standing in a new field", IndexOutOfBoundsException.class, () -> f.standing(0));
        Check.is("hours of a new field", f.hours(48), 48);
    }

    private static void promise2Column() {
        LysimeterField f = new LysimeterField();
        char[] bottoms = {'f', 's', 'n', 'f', 's', 'n'};
        for (int i = 0; i < bottoms.length; i++) {
            Check.is("column " + i, f.column(bottoms[i]), i);
        }
        Check.throwsIt("a seventh column", IllegalStateException.class, () -> f.column('f'));
        Check.throwsIt("no bottom, and full", IllegalArgumentException.class, () -> f.column('F'));
        Check.is("free bottom", rechargeOfFullLoam("f", 450), 50);
        Check.is("seeping bottom, full", rechargeOfFullLoam("s", 450), 50);
        Check.is("seeping bottom, not full", rechargeOfFullLoam("s", 449), 0);
        Check.is("tight bottom", rechargeOfFullLoam("n", 450), 0);
    }

    private static long rechargeOfFullLoam(String bottom, int water) {
        LysimeterField f = Check.field(bottom + " l100");
        f.wet(0, 0, water);
        f.hours(1);
        return f.recharge(0);
    }

    private static void promise3Layer() {
        LysimeterField f = new LysimeterField();
        f.column('n');
        int[] thick = {50, 500, 51, 500, 50, 500, 55, 59};
        char[] soils = {'s', 's', 'l', 'l', 'c', 'c', 'c', 's'};
        int[] capacities = {175, 1750, 229, 2250, 250, 2500, 275, 206};
        int[] fields = {50, 500, 127, 1250, 190, 1900, 209, 59};
        for (int i = 0; i < thick.length; i++) {
            Check.is("layers with " + i, f.layer(0, soils[i], thick[i]), i + 1);
            Check.is("capacity of " + soils[i] + thick[i], f.capacity(0, i), capacities[i]);
            Check.is("first water of " + soils[i] + thick[i], f.water(0, i), fields[i]);
        }
        Check.is("the uppermost is the first", f.capacity(0, 0), 175);
        Check.throwsIt("a ninth layer", IllegalStateException.class, () -> f.layer(0, 's', 100));
        Check.throwsIt("no soil, and full", IllegalArgumentException.class, () -> f.layer(0, 'S', 100));
        Check.is("missing with layers", f.missing(), 0);
    }

    private static void promise4Wet() {
        LysimeterField f = Check.field("n s100 l100");
        Check.is("wet to capacity", f.wet(0, 1, 450), 250);
        Check.is("wet to nothing", f.wet(0, 1, 0), 450);
        Check.is("wet again", f.wet(0, 1, 7), 0);
        Check.waters("after wet", f, 0, 100, 7);
        Check.is("missing after wet", f.missing(), 0);
    }

    private static void promise5Water() {
        LysimeterField f = Check.field("f s100", "f l100 c200");
        Check.waters("first column", f, 0, 100);
        Check.waters("second column", f, 1, 250, 760);
    }

    private static void promise6Capacity() {
        LysimeterField f = Check.field("f s100", "f l100 c200");
        f.wet(1, 1, 3);
        Check.is("capacity of sand", f.capacity(0, 0), 350);
        Check.is("capacity of loam", f.capacity(1, 0), 450);
        Check.is("capacity of clay", f.capacity(1, 1), 1000);
    }

    private static void promise7Link() {
        LysimeterField f = Check.field("n", "n", "n");
        Check.is("first link", f.link(0, 2), -1);
        Check.is("second link", f.link(0, 1), 2);
        Check.is("other's link", f.link(1, 2), -1);
        Check.is("no link", f.link(0, -1), 1);
        Check.is("no link before", f.link(0, -1), -1);
    }

    private static void promise8Scale() {
        LysimeterField f = Check.field("f s100");
        Check.is("scale to least", f.scale(0, 10), 100);
        f.wet(0, 0, 350);
        f.hours(1);
        Check.is("least scale, cut", f.recharge(0), 12);
        Check.is("scale to most", f.scale(0, 400), 10);
        f.wet(0, 0, 350);
        f.hours(1);
        Check.is("no more than it has above its field", f.recharge(0), 262);
        Check.is("scale at the end", f.scale(0, 100), 400);
    }

    private static void promise9Plant() {
        LysimeterField f = Check.field("n s100 s100", "n");
        Check.is("first plant", f.plant(0, 1, 50), 1);
        Check.is("second plant", f.plant(0, 8, 0), 2);
        Check.is("plant of another column", f.plant(1, 8, 50), 1);
        f.hours(1);
        Check.waters("reach of one", f, 0, 50, 100);
        Check.throwsIt("third plant", IllegalStateException.class, () -> f.plant(0, 1, 1));
        Check.throwsIt("third plant without reach", IllegalArgumentException.class, () -> f.plant(0, 0, 1));
    }

    private static void promise10Harvest() {
        LysimeterField f = Check.field("n s100", "n s100");
        Check.is("nothing to harvest", f.harvest(0), 0);
        f.plant(0, 1, 10);
        f.plant(0, 1, 10);
        f.plant(1, 1, 10);
        Check.is("harvest of two", f.harvest(0), 2);
        Check.is("harvest again", f.harvest(0), 0);
        f.hours(1);
        Check.waters("none drinks", f, 0, 100);
        Check.waters("the other column's drinks", f, 1, 90);
        Check.is("plant after harvest", f.plant(0, 1, 1), 1);
        LysimeterField thirsty = Check.field("f s100");
        thirsty.wet(0, 0, 350);
        thirsty.plant(0, 1, 50);
        thirsty.harvest(0);
        Check.is("none drinks in a forecast", thirsty.forecast(0, 2, 100), 187);
    }

    private static void promise11Stress() {
        LysimeterField f = Check.field("n s100", "n");
        f.plant(0, 1, 50);
        f.plant(0, 1, 20);
        f.plant(1, 1, 9);
        f.hours(1);
        Check.is("the first gets all", f.stress(0, 0), 0);
        Check.is("the second gets what is left", f.stress(0, 1), 10);
        f.hours(2);
        Check.is("stress of the first", f.stress(0, 0), 100);
        Check.is("stress of the second", f.stress(0, 1), 50);
        Check.is("stress without layers", f.stress(1, 0), 27);
        f.harvest(0);
        Check.throwsIt("stress after harvest", java.util.NoSuchElementException.class, () -> f.stress(0, 0));
        f.plant(0, 1, 0);
        Check.is("stress of a new plant", f.stress(0, 0), 0);
    }

    private static void promise12Mulch() {
        LysimeterField f = Check.field("n s100", "n s100");
        Check.is("no mulch at first", f.mulch(0, true), false);
        Check.is("mulch again", f.mulch(0, true), true);
        f.weather(0, 0, 31);
        f.hours(1);
        Check.is("mulched", f.vapour(0), 15);
        Check.is("not mulched", f.vapour(1), 31);
        Check.is("mulch taken away", f.mulch(0, false), true);
        Check.is("no mulch then", f.mulch(0, false), false);
        f.hours(1);
        Check.is("not mulched any more", f.vapour(0), 46);
    }

    private static void promise13Rule() {
        LysimeterField f = Check.field("n s100", "n", "n s100");
        Check.is("no rule at first", f.rule(0, 100, 30), 0);
        f.rule(1, 9999, 200);
        f.hours(1);
        Check.waters("at the threshold", f, 0, 100);
        Check.is("no watering without layers", f.standing(1), 0);
        Check.is("rule before", f.rule(0, 101, 30), 100);
        f.hours(3);
        Check.waters("below the threshold, then above", f, 0, 130);
        Check.is("rule off", f.rule(0, 0, 200), 101);
        f.wet(0, 0, 0);
        f.hours(1);
        Check.waters("no watering at 0", f, 0, 0);
        Check.is("rule most", f.rule(0, 9999, 200), 0);
        f.hours(1);
        Check.waters("most watering", f, 0, 200);
        Check.waters("no rule, no watering", f, 2, 100);
        Check.is("missing with watering", f.missing(), 0);
        Check.is("watering of nothing", f.rule(0, 300, 0), 9999);
        f.hours(1);
        Check.waters("watered by nothing", f, 0, 200);
    }

    private static void promise14Spread() {
        LysimeterField f = Check.field("n s100 s100", "n");
        Check.is("spread nitrate", f.spread(0, 'n', 1), 1);
        Check.is("spread nitrate again", f.spread(0, 'n', 1000000), 1000001);
        Check.is("spread salt", f.spread(0, 's', 5), 5);
        Check.is("spread tracer", f.spread(0, 't', 6), 6);
        Check.is("only the uppermost", f.solute(0, 1, 'n'), 0);
        Check.throwsIt("no layer", UnsupportedOperationException.class, () -> f.spread(1, 'n', 1));
        Check.throwsIt("no layer, no kind", IllegalArgumentException.class, () -> f.spread(1, 'x', 1));
        Check.throwsIt("no layer, no amount", IllegalArgumentException.class, () -> f.spread(1, 'n', 0));
        Check.is("true with solutes", f.isTrue(), true);
    }

    private static void promise15Manure() {
        LysimeterField f = Check.field("n s100", "n");
        Check.is("manure", f.manure(0, 1), 1);
        Check.is("manure again", f.manure(0, 999999), 1000000);
        Check.is("manure without layers", f.manure(1, 1000000), 1000000);
        f.weather(45, 0, 0);
        f.hours(1);
        Check.is("nitrate of manure", f.solute(0, 0, 'n'), 45000);
        Check.is("manure that is left", f.manure(0, 1), 955001);
        Check.is("manure that waits for a layer", f.manure(1, 1), 1000001);
        f.layer(1, 's', 100);
        Check.is("no layer for nitrate before", f.isTrue(), true);
        f.hours(1);
        Check.is("nitrate of old manure", f.solute(1, 0, 'n'), 45000);
        Check.is("none at 0 degrees", nitrateOfManureAt(0), 0);
        Check.is("some at 1 degree, cut", nitrateOfManureAt(1), 1);
        Check.is("none below 0", nitrateOfManureAt(-1), 0);
    }

    private static long nitrateOfManureAt(int temperature) {
        LysimeterField f = Check.field("n s100");
        f.manure(0, 1999);
        f.weather(temperature, 0, 0);
        f.hours(1);
        return f.solute(0, 0, 'n');
    }

    private static void promise16Solute() {
        LysimeterField f = Check.field("n s100 l100");
        f.spread(0, 'n', 11);
        f.spread(0, 's', 22);
        f.spread(0, 't', 33);
        Check.is("nitrate", f.solute(0, 0, 'n'), 11);
        Check.is("salt", f.solute(0, 0, 's'), 22);
        Check.is("tracer", f.solute(0, 0, 't'), 33);
        Check.is("nothing below", f.solute(0, 1, 't'), 0);
        f.wet(0, 0, 350);
        f.hours(1);
        Check.is("nitrate left", f.solute(0, 0, 'n'), 8);
        Check.is("nitrate below", f.solute(0, 1, 'n'), 3);
        Check.is("salt below", f.solute(0, 1, 's'), 7);
        Check.is("tracer below", f.solute(0, 1, 't'), 11);
    }

    private static void promise17Out() {
        LysimeterField f = Check.field("f s100");
        f.spread(0, 'n', 1000);
        f.spread(0, 's', 700);
        f.spread(0, 't', 3);
        f.wet(0, 0, 350);
        f.hours(1);
        Check.is("nitrate out", f.out(0, 'n'), 357);
        Check.is("salt out", f.out(0, 's'), 250);
        Check.is("tracer out", f.out(0, 't'), 1);
        f.hours(1);
        Check.is("nitrate out then, 643 times 62 by 225", f.out(0, 'n'), 357 + 177);
        Check.is("true with solutes out", f.isTrue(), true);
    }

    private static void promise18Eaten() {
        Check.is("above 5 degrees", eatenAt(6, "n l100", 405), 12);
        Check.is("at 5 degrees", eatenAt(5, "n l100", 405), 0);
        Check.is("below 9 tenths", eatenAt(6, "n l100", 404), 0);
        Check.is("full", eatenAt(45, "n l100", 450), 90);
        Check.is("9 tenths, cut", eatenAt(10, "n s50", 157), 20);
        Check.is("below 9 tenths, cut", eatenAt(10, "n s50", 156), 0);
        LysimeterField little = Check.field("n l100");
        little.spread(0, 'n', 111);
        little.wet(0, 0, 450);
        little.weather(9, 0, 0);
        little.hours(1);
        Check.is("999 by 500, cut", little.eaten(0), 1);
        LysimeterField f = Check.field("n l100 l100");
        f.spread(0, 'n', 1000);
        f.wet(0, 0, 450);
        f.wet(0, 1, 445);
        f.hours(1);
        Check.is("eaten in both layers, of what is there after sinking", f.eaten(0), 19);
        Check.is("left above", f.solute(0, 0, 'n'), 989 - 19);
        Check.is("left below", f.solute(0, 1, 'n'), 11);
    }

    private static long eatenAt(int temperature, String column, int water) {
        LysimeterField f = Check.field(column);
        f.spread(0, 'n', 1000);
        f.spread(0, 's', 1000);
        f.wet(0, 0, water);
        f.weather(temperature, 0, 0);
        f.hours(1);
        Check.is("nitrate left", f.solute(0, 0, 'n'), 1000 - f.eaten(0));
        Check.is("salt is not eaten", f.solute(0, 0, 's'), 1000);
        Check.is("true with nitrate gone", f.isTrue(), true);
        return f.eaten(0);
    }

    private static void promise19Weather() {
        LysimeterField f = Check.field("n");
        Check.is("first temperature", f.weather(-30, 999, 99), 10);
        Check.is("least temperature", f.weather(45, 0, 0), -30);
        Check.is("most temperature", f.weather(0, 40, 15), 45);
        f.hours(1);
        Check.is("rain less thirst", f.standing(0), 25);
        f.hours(1);
        Check.is("each hour", f.standing(0), 35);
        Check.is("vapour of two hours", f.vapour(0), 30);
    }

    private static void promise20Law() {
        LysimeterField f = Check.field("f s100");
        Check.is("first limit", f.law(0, 999), 9999);
        Check.is("least limit", f.law(9999, 0), 0);
        Check.is("most limit", f.law(5, 5), 9999);
    }
}
