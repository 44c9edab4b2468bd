/** Promises 21 to 29: what an hour does with frost, water, roots, air and nitrate, and what it leaves. */
public final class HourTest {
    public static void main(String[] args) {
        promise21Hours();
        promise22Standing();
        promise22WhatIsTakenIn();
        promise23Recharge();
        promise23Sinking();
        promise24Runoff();
        promise24RunningOn();
        promise25VapourByRoots();
        promise25VapourByItself();
        promise26IsFrozen();
        promise26FrostStopsWater();
        promise27Frost();
        promise28Heave();
        promise29Crack();
        promise29CrackTakesWater();
        Check.end("HourTest");
    }

    private static LysimeterField after(int hours, LysimeterField f) {
        f.hours(hours);
        return f;
    }

    /** Freezes as many layers of the only column as told, with hard frost. */
    private static void freeze(LysimeterField f, int layers) {
        f.weather(-30, 0, 0);
        f.hours(layers);
        f.weather(0, 0, 0);
    }

    private static void promise21Hours() {
        LysimeterField f = new LysimeterField();
        Check.is("one hour", f.hours(1), 1);
        Check.is("most hours", f.hours(48), 49);
        LysimeterField once = Check.field("f s100 l100");
        LysimeterField thrice = Check.field("f s100 l100");
        for (LysimeterField each : new LysimeterField[] {once, thrice}) {
            each.wet(0, 0, 350);
            each.weather(20, 7, 9);
            each.plant(0, 2, 13);
        }
        once.hours(3);
        thrice.hours(1);
        thrice.hours(1);
        thrice.hours(1);
        Check.is("three hours at once or each", Check.everything(once), Check.everything(thrice));
    }

    private static void promise22Standing() {
        LysimeterField f = Check.field("n", "n");
        Check.is("nothing stands at first", f.standing(0), 0);
        f.weather(10, 49, 0);
        Check.is("rain stands", after(1, f).standing(0), 49);
        f.weather(10, 1, 0);
        Check.is("up to 50", after(1, f).standing(1), 50);
        Check.is("and no more", after(1, f).standing(1), 50);
        Check.is("the rest is off", f.runoff(1), 1);
    }

    private static void promise22WhatIsTakenIn() {
        takesIn("n s100", 0, 250, 200, 50, 0);
        takesIn("n s100", 0, 251, 200, 50, 1);
        takesIn("n s100", 0, 199, 199, 0, 0);
        takesIn("n s100", 250, 150, 350, 50, 0);
        takesIn("n l100", 0, 70, 50, 20, 0);
        takesIn("n c100", 400, 70, 405, 50, 15);
        takesIn("n c100", 498, 40, 500, 38, 0);
    }

    private static void takesIn(String column, int before, int rain, int water, int stands, int off) {
        LysimeterField f = Check.field(column);
        f.wet(0, 0, before);
        f.weather(10, rain, 0);
        f.hours(1);
        String what = column + " at " + before + " with rain " + rain;
        Check.waters(what, f, 0, water);
        Check.is(what + ", standing", f.standing(0), stands);
        Check.is(what + ", runoff", f.runoff(0), off);
        Check.is(what + ", missing", f.missing(), 0);
    }

    private static void promise23Recharge() {
        LysimeterField f = Check.field("f s100 l100", "f");
        f.wet(0, 0, 350);
        f.hours(1);
        Check.is("the lowest at its field gives nothing", f.recharge(0), 0);
        Check.waters("the upper gives half of what it has more", f, 0, 225, 375);
        f.hours(1);
        Check.is("the lowest gives a quarter", f.recharge(0), 31);
        Check.waters("from below up", f, 0, 163, 406);
        Check.is("no layers, nothing out", f.recharge(1), 0);
    }

    private static void promise23Sinking() {
        LysimeterField room = Check.field("n s100 c100");
        room.wet(0, 0, 350);
        room.wet(0, 1, 495);
        Check.waters("as far as there is room", after(1, room), 0, 345, 500);
        LysimeterField seeps = Check.field("s s100 s50");
        seeps.wet(0, 0, 350);
        seeps.wet(0, 1, 174);
        Check.is("not full ahead of the hour", after(1, seeps).recharge(0), 0);
        Check.waters("full by the hour", seeps, 0, 349, 175);
        Check.is("full then", after(1, seeps).recharge(0), 62);
        Check.waters("the room of the same hour is used", seeps, 0, 287, 175);
        LysimeterField clay = Check.field("f c100");
        clay.wet(0, 0, 389);
        Check.is("clay gives a tenth, cut", after(1, clay).recharge(0), 0);
        clay.wet(0, 0, 390);
        Check.is("clay gives a tenth", after(1, clay).recharge(0), 1);
        clay.wet(0, 0, 500);
        Check.is("full clay gives a tenth", after(1, clay).recharge(0), 1 + 12);
        LysimeterField sand = Check.field("f s500");
        sand.wet(0, 0, 1701);
        sand.scale(0, 199);
        Check.is("1194.995, cut", after(1, sand).recharge(0), 1194);
    }

    private static void promise24Runoff() {
        LysimeterField f = Check.field("n", "n");
        Check.is("no runoff at first", f.runoff(0), 0);
        f.weather(10, 60, 0);
        f.hours(2);
        Check.is("runoff of two hours", f.runoff(0), 70);
        Check.is("missing with runoff", f.missing(), 0);
    }

    private static void promise24RunningOn() {
        LysimeterField down = Check.field("n", "n");
        down.link(0, 1);
        down.weather(10, 60, 0);
        down.hours(1);
        Check.is("runs to a later column", down.runoff(0), 10);
        Check.is("which has it in the same hour", down.runoff(1), 20);
        LysimeterField both = Check.field("n", "n", "n", "n");
        both.link(0, 2);
        both.link(1, 2);
        both.link(2, 1);
        both.link(3, 1);
        both.weather(10, 60, 0);
        Check.is("two run to one", after(1, both).runoff(2), 30);
        Check.is("two run to an earlier one", after(1, both).runoff(1), 10 + 50 + 60 + 30 + 10 - 50);
        LysimeterField up = Check.field("n", "n");
        up.link(1, 0);
        up.weather(10, 60, 0);
        up.hours(1);
        Check.is("an earlier column has it later", up.runoff(0), 10);
        Check.is("what is running is not missing", up.missing(), 0);
        Check.is("what is running is not weighed", up.weigh(0), 50);
        up.link(1, -1);
        up.hours(1);
        Check.is("it comes though the link is gone", up.runoff(0), 80);
        Check.is("runoff to others too", up.runoff(1), 70);
        Check.is("missing by then", up.missing(), 0);
    }

    private static void promise25VapourByRoots() {
        drinks("n s100 l100 c100", 3, 37, 94, 235, 364);
        drinks("n s100 l100 c100", 3, 40, 94, 234, 362);
        drinks("n s100 l100 c100", 2, 21, 94, 235, 380);
        drinks("n s100 l100 c100", 8, 37, 94, 235, 364);
        drinks("n s100 s100", 2, 1, 99, 100);
        drinks("n s100 s100", 2, 3, 98, 99);
        drinks("n s100 s100 s100", 3, 5, 98, 98, 99);
        drinks("n s100 s100 c100", 2, 1, 99, 100, 380);
        LysimeterField last = Check.field("n s100 s100");
        last.wet(0, 0, 41);
        last.wet(0, 1, 41);
        last.plant(0, 2, 1);
        last.hours(1);
        Check.waters("the last above wilting", last, 0, 40, 41);
        LysimeterField dry = Check.field("n s100 s100");
        dry.wet(0, 0, 30);
        dry.wet(0, 1, 42);
        dry.plant(0, 2, 9);
        dry.hours(1);
        Check.waters("only what is above wilting", dry, 0, 30, 40);
        Check.is("stress of the rest", dry.stress(0, 0), 7);
        Check.is("vapour of a plant", dry.vapour(0), 2);
    }

    private static void drinks(String column, int reach, int thirst, int... due) {
        LysimeterField f = Check.field(column);
        f.plant(0, reach, thirst);
        f.hours(1);
        String what = column + " with thirst " + thirst + " and reach " + reach;
        Check.waters(what, f, 0, due);
        Check.is(what + ", vapour", f.vapour(0), thirst);
        Check.is(what + ", stress", f.stress(0, 0), 0);
        Check.is(what + ", missing", f.missing(), 0);
    }

    private static void promise25VapourByItself() {
        LysimeterField f = Check.field("n c100", "n", "n s105");
        f.weather(10, 25, 30);
        f.wet(2, 0, 0);
        f.hours(1);
        Check.is("what stands goes first", f.standing(0), 0);
        Check.waters("then the layer", f, 0, 375);
        Check.is("vapour of both", f.vapour(0), 30);
        Check.is("without layers only what stands", f.vapour(1), 25);
        Check.waters("down to half its wilting", f, 2, 21);
        f.weather(10, 0, 99);
        Check.is("no more from below that", after(9, f).vapour(2), 4);
        LysimeterField loam = Check.field("n l105");
        loam.wet(0, 0, 60);
        loam.weather(10, 0, 99);
        loam.hours(1);
        Check.waters("half the wilting of 105, cut", loam, 0, 52);
        LysimeterField mulched = Check.field("n");
        mulched.mulch(0, true);
        mulched.weather(10, 20, 31);
        Check.is("a mulch halves, cut", after(1, mulched).standing(0), 5);
    }

    private static void promise26IsFrozen() {
        LysimeterField f = Check.field("n c100 s59");
        Check.is("not frozen at first", f.isFrozen(0, 0), false);
        f.weather(-3, 0, 0);
        Check.is("below a tenth", after(3, f).isFrozen(0, 0), false);
        Check.is("a tenth or more", after(1, f).isFrozen(0, 0), true);
        f.weather(-5, 0, 0);
        Check.is("the next one, at a tenth, cut", after(1, f).isFrozen(0, 1), true);
        f.weather(11, 0, 0);
        Check.is("some frost left", after(1, f).isFrozen(0, 0), true);
        f.weather(1, 0, 0);
        Check.is("none left", after(1, f).isFrozen(0, 0), false);
        Check.is("from above", f.isFrozen(0, 1), true);
    }

    private static void promise26FrostStopsWater() {
        LysimeterField f = Check.field("f s100 s100 s100");
        freeze(f, 2);
        for (int i = 0; i < 3; i++) {
            f.wet(0, i, 300);
        }
        f.plant(0, 3, 50);
        f.plant(0, 2, 10);
        f.manure(0, 1000);
        f.rule(0, 9999, 40);
        f.weather(0, 0, 45);
        f.hours(1);
        Check.waters("frozen layers keep their water", f, 0, 300, 300, 150);
        Check.is("the thawed one sinks", f.recharge(0), 100);
        Check.is("watering stands, and goes to the air", f.standing(0), 0);
        Check.is("vapour of roots and air", f.vapour(0), 90);
        Check.is("no root finds water in frozen ones", f.stress(0, 1), 10);
        f.weather(10, 0, 0);
        f.hours(1);
        Check.is("no nitrate in a frozen layer", f.solute(0, 0, 'n'), 0);
        LysimeterField below = Check.field("f s300 s100");
        freeze(below, 2);
        below.weather(30, 0, 0);
        below.hours(1);
        below.wet(0, 0, 1000);
        below.weather(0, 0, 0);
        Check.waters("no water into a frozen one", after(1, below), 0, 1000, 100);
        LysimeterField cold = Check.field("n l100");
        freeze(cold, 1);
        cold.wet(0, 0, 450);
        cold.spread(0, 'n', 1000);
        cold.weather(20, 0, 0);
        Check.is("nothing is eaten in a frozen one", after(1, cold).eaten(0), 0);
        Check.is("but then", after(1, cold).eaten(0), 40);
    }

    private static void promise27Frost() {
        LysimeterField f = Check.field("n s50 s50");
        f.weather(-1, 0, 0);
        Check.is("one degree", after(1, f).frost(0, 0), 1);
        f.weather(-2, 0, 0);
        Check.is("as many degrees", after(1, f).frost(0, 0), 3);
        f.weather(30, 0, 0);
        Check.is("a layer not frozen loses none", after(2, f).frost(0, 0), 3);
        f.weather(-7, 0, 0);
        Check.is("to what it had", after(1, f).frost(0, 0), 10);
        Check.is("the next one not yet", f.frost(0, 1), 0);
        f.weather(-30, 0, 0);
        Check.is("then the next one", after(1, f).frost(0, 1), 30);
        Check.is("all frozen, no more", after(3, f).frost(0, 1), 30);
        Check.is("nor above", f.frost(0, 0), 10);
        f.weather(0, 0, 0);
        Check.is("at 0 nothing", after(3, f).frost(0, 0), 10);
        f.weather(4, 0, 0);
        Check.is("the uppermost loses", after(2, f).frost(0, 0), 2);
        Check.is("the lower one not yet", f.frost(0, 1), 30);
        Check.is("to none", after(1, f).frost(0, 0), 0);
        Check.is("nothing carried on", f.frost(0, 1), 30);
        Check.is("then the lower one", after(1, f).frost(0, 1), 26);
        f.weather(-2, 0, 0);
        Check.is("frost above a frozen one", after(1, f).frost(0, 0), 2);
    }

    private static void promise28Heave() {
        LysimeterField f = Check.field("n s50 s50 s50");
        f.wet(0, 0, 55);
        f.wet(0, 1, 56);
        f.wet(0, 2, 99);
        Check.is("nothing frozen", f.heave(0), 0);
        freeze(f, 1);
        Check.is("one frozen", f.heave(0), f.water(0, 0) / 10);
        f.wet(0, 0, 55);
        freeze(f, 1);
        f.wet(0, 1, 56);
        Check.is("summed up, then cut", f.heave(0), 11);
        f.wet(0, 1, 55);
        Check.is("110 by 10", f.heave(0), 11);
        f.wet(0, 1, 54);
        Check.is("109 by 10, cut", f.heave(0), 10);
    }

    private static void promise29Crack() {
        Check.is("a fourth, cut", crackOf("n c100", 303, -1), 19);
        Check.is("8 tenths of its field", crackOf("n c100", 304, -1), 0);
        Check.is("8 tenths, cut", crackOf("n c105", 319, -1), 0);
        Check.is("below 8 tenths, cut", crackOf("n c105", 318, -1), 20);
        Check.is("dry", crackOf("n c100", 0, -1), 95);
        Check.is("sand has none", crackOf("n s100", 0, -1), 0);
        Check.is("loam has none", crackOf("n l100 c100", 0, -1), 0);
        Check.is("no layers", Check.field("n").crack(0), 0);
        Check.is("room of the lowest", crackOf("n c100 c100", 0, 497), 3);
        Check.is("no room", crackOf("n c100 c100", 0, 500), 0);
        Check.is("only without a gap", crackOf("n c100 s100 c100", 0, 350), 95);
        LysimeterField frozen = Check.field("n c100 c100 c100");
        frozen.wet(0, 0, 0);
        freeze(frozen, 1);
        Check.is("the uppermost frozen", frozen.crack(0), 0);
        freeze(frozen, 1);
        frozen.weather(30, 0, 0);
        frozen.hours(1);
        Check.is("one between frozen", frozen.crack(0), 95);
        freeze(frozen, 2);
        frozen.weather(30, 0, 0);
        frozen.hours(1);
        Check.is("the lowest frozen", frozen.crack(0), 0);
    }

    /** The crack of a column with so much water in its uppermost layer and, unless below 0, in the next one. */
    private static int crackOf(String column, int top, int next) {
        LysimeterField f = Check.field(column);
        f.wet(0, 0, top);
        if (next >= 0) {
            f.wet(0, 1, next);
        }
        return f.crack(0);
    }

    private static void promise29CrackTakesWater() {
        cracks("n c100", 303, 100, 327, -1, 50, 26);
        cracks("n c100", 303, 7, 310, -1, 0, 0);
        cracks("n c100 c100", 303, 20, 304, 399, 0, 0);
        cracks("n c100 c100", 303, 100, 308, 399, 50, 26);
        cracks("n c100 c100", 304, 100, 309, 380, 50, 45);
        LysimeterField f = Check.field("n c100 c100 c100 l100 c100");
        f.wet(0, 0, 180);
        f.weather(10, 30, 0);
        f.hours(1);
        Check.waters("to the lowest without a gap", f, 0, 180, 380, 407, 253, 380);
        Check.is("no solute with the crack", f.isTrue(), true);
    }

    private static void cracks(String column, int before, int rain, int top, int next, int stands, int off) {
        LysimeterField f = Check.field(column);
        f.wet(0, 0, before);
        f.weather(10, rain, 0);
        f.hours(1);
        String what = column + " at " + before + " with rain " + rain;
        Check.waters(what, f, 0, top);
        if (next >= 0) {
            Check.is(what + ", next layer", f.water(0, 1), next);
        }
        Check.is(what + ", standing", f.standing(0), stands);
        Check.is(what + ", runoff", f.runoff(0), off);
        Check.is(what + ", missing", f.missing(), 0);
    }
}
