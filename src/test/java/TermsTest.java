import java.util.NoSuchElementException;

/** The sentences under 'Terms' that name a limit, in their order: what happens just there and one beside it. */
public final class TermsTest {
    public static void main(String[] args) {
        layersAreCut();
        takingInAndDraining();
        freezing();
        thawing();
        watering();
        theCrackBegins();
        theCrackTakes();
        whatStandsAndRunsOff();
        whatRanComesOnce();
        sinking();
        sinkingOut();
        solutesSink();
        roots();
        rootsByOnes();
        rootsOneBehindTheOther();
        air();
        manure();
        eating();
        fines();
        tensiometers();
        reflectometers();
        scales();
        forecasts();
        fits();
        theStepsOfAnHour();
        greatAmounts();
        Check.end("TermsTest");
    }

    private static LysimeterField wetted(String column, int... waters) {
        LysimeterField f = Check.field(column);
        for (int i = 0; i < waters.length; i++) {
            f.wet(0, i, waters[i]);
        }
        return f;
    }

    private static LysimeterField after(int hours, LysimeterField f) {
        f.hours(hours);
        return f;
    }

    /** Freezes the uppermost layers that are not frozen, one an hour, and leaves no weather. */
    private static LysimeterField frozen(int layers, LysimeterField f) {
        f.weather(-30, 0, 0);
        for (int i = 0; i < layers; i++) {
            f.hours(1);
        }
        f.weather(0, 0, 0);
        return f;
    }

    private static LysimeterField rained(int rain, LysimeterField f) {
        f.weather(0, rain, 0);
        return after(1, f);
    }

    /** Every thickness of every soil: a plant that drinks all it can leaves the wilting. */
    private static void layersAreCut() {
        int[][] tenths = {{35, 10, 4}, {45, 25, 10}, {50, 38, 22}};
        for (int soil = 0; soil < 3; soil++) {
            for (int thickness = 50; thickness <= 500; thickness++) {
                LysimeterField f = Check.field("n " + "slc".charAt(soil) + thickness);
                String what = "slc".charAt(soil) + " of " + thickness;
                int wilting = thickness * tenths[soil][2] / 10;
                Check.is(what + ", capacity", f.capacity(0, 0), thickness * tenths[soil][0] / 10);
                Check.is(what + ", field", f.water(0, 0), thickness * tenths[soil][1] / 10);
                f.plant(0, 1, 50);
                f.wet(0, 0, wilting + 1);
                f.hours(1);
                Check.is(what + ", wilting", f.water(0, 0), wilting);
                Check.is(what + ", stress", f.stress(0, 0), 49);
            }
        }
    }

    private static void takingInAndDraining() {
        String[] soils = {"s500", "l500", "c500"};
        int[] intakes = {200, 50, 5};
        int[] fields = {500, 1250, 1900};
        int[] drains = {50, 25, 10};
        for (int i = 0; i < 3; i++) {
            LysimeterField f = Check.field("n " + soils[i]);
            Check.is(soils[i] + " takes in all", rained(intakes[i], f).standing(0), 0);
            Check.is(soils[i] + " leaves one", rained(intakes[i] + 1, f).standing(0), 1);
            LysimeterField wet = wetted("f " + soils[i], fields[i] + 100);
            Check.is(soils[i] + " drains", after(1, wet).recharge(0), drains[i]);
        }
        Check.is("a thin layer drains at the first scale", after(1, wetted("f s50", 150)).recharge(0), 50);
    }

    private static void freezing() {
        freezesAt("s50", 5);
        freezesAt("l59", 5);
        freezesAt("c60", 6);
        freezesAt("s109", 10);
        freezesAt("s110", 11);
        freezesAt("c500", 50);
        LysimeterField f = frozen(2, Check.field("n s100 s300"));
        Check.is("as much as the degrees, at once", f.frost(0, 0), 30);
        Check.is("a tenth of 300", f.isFrozen(0, 1), true);
        f.weather(-30, 0, 0);
        after(48, f);
        Check.is("no layer left to freeze, above", f.frost(0, 0), 30);
        Check.is("no layer left to freeze, below", f.frost(0, 1), 30);
        f.layer(0, 's', 500);
        Check.is("a new layer has none", f.isFrozen(0, 2), false);
        Check.is("and freezes then", after(1, f).frost(0, 2), 30);
    }

    private static void freezesAt(String layer, int degrees) {
        LysimeterField f = Check.field("n " + layer + " s50");
        f.weather(-1, 0, 0);
        for (int i = 1; i < degrees; i++) {
            f.hours(1);
        }
        Check.is(layer + " one below", f.isFrozen(0, 0), false);
        Check.is(layer + ", the next one waits", f.frost(0, 1), 0);
        f.hours(1);
        Check.is(layer + " there", f.isFrozen(0, 0), true);
        Check.is(layer + ", frost", f.frost(0, 0), degrees);
        f.hours(1);
        Check.is(layer + ", no more frost", f.frost(0, 0), degrees);
        Check.is(layer + ", the next one gets it", f.frost(0, 1), 1);
        f.weather(0, 0, 0);
        f.hours(1);
        Check.is(layer + " at 0 degrees", f.frost(0, 0) * 100 + f.frost(0, 1), degrees * 100 + 1);
    }

    private static void thawing() {
        int[] degrees = {29, 30, 31};
        int[] left = {1, 0, 0};
        for (int i = 0; i < 3; i++) {
            LysimeterField f = frozen(2, Check.field("n s100 s100 s400"));
            f.weather(-30, 0, 0);
            f.hours(1);
            f.weather(degrees[i], 0, 0);
            f.hours(1);
            Check.is("frost at " + degrees[i], f.frost(0, 0), left[i]);
            Check.is("frozen at " + degrees[i], f.isFrozen(0, 0), left[i] > 0);
            Check.is("the next one at " + degrees[i], f.frost(0, 1), 30);
            Check.is("one not frozen at " + degrees[i], f.frost(0, 2), 30);
            f.weather(45, 0, 0);
            f.hours(5);
            Check.is("the next one then", f.frost(0, 1), 0);
            Check.is("one not frozen loses none", f.frost(0, 2), 30);
            f.weather(-10, 0, 0);
            Check.is("the uppermost not frozen gets it", after(1, f).frost(0, 0), 10);
        }
        LysimeterField little = Check.field("n s90");
        little.weather(-8, 0, 0);
        little.hours(1);
        little.weather(45, 0, 0);
        Check.is("not frozen, keeps its frost", after(48, little).frost(0, 0), 8);
        little.weather(-1, 0, 0);
        Check.is("which counts then", after(1, little).isFrozen(0, 0), true);
    }

    private static void watering() {
        watersAt(100, 100, 0);
        watersAt(100, 101, 1);
        watersAt(0, 0, 0);
        watersAt(0, 1, 1);
        watersAt(350, 9999, 1);
        LysimeterField hard = frozen(1, Check.field("n s100"));
        hard.rule(0, 101, 40);
        Check.is("a frozen layer is watered", after(1, hard).standing(0), 40);
        LysimeterField wetter = Check.field("n s100");
        wetter.rule(0, 101, 40);
        Check.waters("ahead of the rain", rained(10, wetter), 0, 150);
        LysimeterField crack = wetted("n c100", 100);
        crack.rule(0, 101, 10);
        Check.waters("into the crack too", after(1, crack), 0, 110);
        LysimeterField second = wetted("n s100 s100", 100, 0);
        second.rule(0, 100, 40);
        Check.waters("by the uppermost alone", after(1, second), 0, 100, 0);
    }

    /** Watered by one, or none. */
    private static void watersAt(int water, int threshold, int due) {
        LysimeterField f = wetted("n s100", water);
        f.rule(0, threshold, 1);
        f.hours(1);
        String what = "water " + water + " at threshold " + threshold;
        Check.is(what, f.water(0, 0) + f.standing(0), water + due);
        Check.is(what + ", missing", f.missing(), 0);
    }

    private static void theCrackBegins() {
        cracks("c100", 304, 0, 0);
        cracks("c100", 303, 19, 19);
        cracks("c52", 157, 0, 0);
        cracks("c52", 156, 10, 10);
        cracks("c500", 1520, 0, 0);
        cracks("c500", 1519, 95, 95);
        cracks("c500", 0, 475, 475);
        cracks("l100", 0, 0, 0);
        cracks("s100", 0, 0, 0);
        LysimeterField hard = frozen(1, wetted("n c100 c100", 100));
        Check.is("frozen, no crack", hard.crack(0), 0);
        Check.waters("frozen, none goes", rained(100, hard), 0, 100, 380);
    }

    /** What the crack could take, and what it takes of 900 beside the 5 that clay takes in. */
    private static void cracks(String layer, int water, int could, int takes) {
        LysimeterField f = wetted("n " + layer, water);
        Check.is("crack of " + layer + " at " + water, f.crack(0), could);
        int intake = layer.charAt(0) == 'c' ? 5 : layer.charAt(0) == 'l' ? 50 : 200;
        Check.waters("crack of " + layer + " at " + water, rained(900, f), 0, water + takes + intake);
    }

    private static void theCrackTakes() {
        Check.waters("all that comes", rained(74, wetted("n c100 c100", 84)), 0, 84, 454);
        Check.waters("one more", rained(75, wetted("n c100 c100", 84)), 0, 85, 454);
        Check.waters("nothing of nothing", rained(0, wetted("n c100 c100", 84)), 0, 84, 380);
        Check.waters("exactly its room", rained(74, wetted("n c100 c100", 84, 426)), 0, 84, 500);
        Check.waters("one too little room", rained(74, wetted("n c100 c100", 84, 427)), 0, 85, 500);
        Check.waters("no room", rained(3, wetted("n c100 c100", 84, 500)), 0, 87, 500);
        Check.waters("to the lowest", rained(9, wetted("n c100 c60 c50", 84)), 0, 84, 228, 199);
        Check.waters("sand is a gap", rained(9, wetted("n c100 s100 c100", 84)), 0, 93, 100, 380);
        Check.waters("loam is a gap", rained(9, wetted("n c100 c100 l100 c100", 84)), 0, 84, 389, 250, 380);
        LysimeterField stood = rained(55, wetted("n c100 c100", 500));
        stood.wet(0, 0, 84);
        stood.wet(0, 1, 0);
        Check.is("what stood may go", rained(0, stood).standing(0), 0);
        Check.waters("what stood goes", stood, 0, 84, 50);
        LysimeterField hard = frozen(2, wetted("n c100 c100", 84));
        hard.weather(30, 0, 0);
        hard.hours(1);
        Check.is("the lowest frozen, none could", hard.crack(0), 0);
        Check.waters("the lowest frozen, none goes", rained(9, hard), 0, 89, 380);
        LysimeterField below = frozen(3, wetted("n c100 c100 s100", 84));
        below.weather(30, 0, 0);
        below.hours(2);
        Check.is("frost below the crack", below.isFrozen(0, 2), true);
        Check.waters("does not matter", rained(9, below), 0, 84, 389, 100);
    }

    private static void whatStandsAndRunsOff() {
        stands("n", 50, 50, 0);
        stands("n", 51, 50, 1);
        stands("n s100", 250, 50, 0);
        stands("n s100", 251, 50, 1);
        stands("n s100", 200, 0, 0);
        LysimeterField hard = frozen(1, Check.field("n s100"));
        Check.is("frozen, 50 stand", rained(51, hard).standing(0), 50);
        Check.is("frozen, the rest is off", hard.runoff(0), 1);
        Check.waters("frozen, none in", hard, 0, 100);
        LysimeterField room = rained(150, wetted("n s100", 201));
        Check.is("one more than its room stands", room.standing(0), 1);
        LysimeterField exact = rained(149, wetted("n s100", 201));
        Check.is("its room and no more", exact.standing(0), 0);
        LysimeterField linked = Check.field("n", "n");
        linked.link(0, 1);
        Check.is("linked, all but 50", rained(51, linked).runoff(0), 1);
        Check.is("which runs on", linked.runoff(1), 2);
        Check.is("at 50 nothing runs", rained(0, linked).runoff(0), 1);
    }

    private static void stands(String column, int rain, int stands, int off) {
        LysimeterField f = rained(rain, Check.field(column));
        Check.is(column + " at rain " + rain + ", standing", f.standing(0), stands);
        Check.is(column + " at rain " + rain + ", runoff", f.runoff(0), off);
        Check.is(column + " at rain " + rain + ", missing", f.missing(), 0);
    }

    private static void whatRanComesOnce() {
        LysimeterField f = Check.field("n s500", "n");
        f.link(1, 0);
        rained(150, f);
        Check.waters("a later column's has not come", f, 0, 650);
        Check.is("nor is it missing", f.missing(), 0);
        Check.waters("it comes in the next hour", rained(0, f), 0, 750);
        Check.waters("but once", rained(0, f), 0, 750);
        LysimeterField three = Check.field("n", "n", "n s500");
        three.link(0, 2);
        three.link(1, 2);
        rained(100, three);
        Check.waters("of two, with the rain, in the same hour", three, 2, 700);
        LysimeterField ring = Check.field("n", "n");
        ring.link(0, 1);
        ring.link(1, 0);
        rained(60, ring);
        Check.is("down the ring", ring.runoff(1), 20);
        Check.is("and up again", rained(0, ring).runoff(0), 10 + 20);
        Check.is("nothing missing in a ring", ring.missing(), 0);
    }

    private static void sinking() {
        LysimeterField f = Check.field("f s100");
        Check.is("its field and no more", after(9, f).recharge(0), 0);
        f.wet(0, 0, 99);
        Check.is("less than its field", after(9, f).recharge(0), 0);
        f.wet(0, 0, 101);
        Check.is("half of one, cut", after(9, f).recharge(0), 0);
        f.wet(0, 0, 102);
        Check.is("half of two", after(9, f).recharge(0), 1);
        f.scale(0, 200);
        f.wet(0, 0, 101);
        Check.is("all at 200", after(1, f).recharge(0), 2);
        f.scale(0, 201);
        f.wet(0, 0, 350);
        Check.is("at most all at 201", after(1, f).recharge(0), 252);
        f.scale(0, 199);
        f.wet(0, 0, 201);
        Check.is("100.495, cut", after(1, f).recharge(0), 352);
        f.wet(0, 0, 200);
        Check.is("99.5, cut", after(1, f).recharge(0), 451);
        LysimeterField least = wetted("f c100", 480);
        least.scale(0, 10);
        Check.is("a hundredth of a hundred", after(1, least).recharge(0), 1);
        Check.is("a hundredth of 99", after(9, least).recharge(0), 1);
        Check.waters("exactly the room", after(1, wetted("n s100 s100", 350, 225)), 0, 225, 350);
        Check.waters("one less room", after(1, wetted("n s100 s100", 350, 226)), 0, 226, 350);
        Check.waters("no room", after(1, wetted("n s100 s100", 350, 350)), 0, 350, 350);
    }

    private static void sinkingOut() {
        Check.is("free", after(1, wetted("f s100", 300)).recharge(0), 100);
        Check.is("seeping, not full", after(1, wetted("s s100", 349)).recharge(0), 0);
        Check.is("seeping, full", after(1, wetted("s s100", 350)).recharge(0), 125);
        Check.is("seeping, not full any more", after(9, wetted("s s100", 350)).recharge(0), 125);
        Check.is("seeping, filled by this hour's rain", rained(50, wetted("s s100", 300)).recharge(0), 125);
        Check.is("seeping, one less rain", rained(49, wetted("s s100", 300)).recharge(0), 0);
        Check.is("tight, full", after(48, wetted("n s100", 350)).recharge(0), 0);
        Check.is("only the lowest", after(1, wetted("f s100 l100", 350, 0)).recharge(0), 0);
        LysimeterField hard = wetted("f s100", 350);
        hard.weather(-10, 0, 0);
        Check.is("frozen in this hour", after(1, hard).recharge(0), 0);
        hard.weather(9, 0, 0);
        Check.is("one degree too little", after(1, hard).recharge(0), 0);
        Check.is("thawed in this hour", after(1, hard).recharge(0), 125);
        LysimeterField above = frozen(1, wetted("f s100 s100", 350, 350));
        Check.is("the thawed one below gives", above.recharge(0), 125);
        Check.waters("the frozen one keeps", above, 0, 350, 225);
    }

    private static void solutesSink() {
        sinks("f s100", 350, 2, 0);
        sinks("f s100", 350, 3, 1);
        sinks("f s100", 350, 1000000, 357142);
        sinks("f s100", 100, 1000, 0);
        sinks("n s100", 350, 1000, 0);
        LysimeterField f = wetted("f s100 s100", 350, 350);
        f.spread(0, 's', 1000);
        f.hours(1);
        Check.is("one layer an hour", f.solute(0, 1, 's'), 357);
        Check.is("not out at once", f.out(0, 's'), 0);
        Check.is("what is left", f.solute(0, 0, 's'), 643);
        LysimeterField held = wetted("n s100 s100", 350, 300);
        held.spread(0, 't', 1000);
        Check.is("with the water that has room", after(1, held).solute(0, 1, 't'), 142);
        LysimeterField dry = Check.field("n s100 s100");
        dry.spread(0, 't', 1000);
        dry.plant(0, 1, 50);
        dry.weather(10, 0, 99);
        Check.is("none with roots or air", after(9, dry).solute(0, 0, 't'), 1000);
        LysimeterField swallowed = wetted("n c100 c100", 84);
        swallowed.spread(0, 't', 1000);
        Check.is("none with the crack", rained(70, swallowed).solute(0, 0, 't'), 1000);
        LysimeterField off = wetted("n s100", 350);
        off.spread(0, 's', 1000);
        Check.is("none with what runs off", rained(900, off).solute(0, 0, 's'), 1000);
    }

    private static void sinks(String column, int water, int amount, int due) {
        for (char kind : new char[] {'n', 's', 't'}) {
            LysimeterField f = wetted(column, water);
            f.weather(0, 0, 0);
            f.spread(0, kind, amount);
            f.hours(1);
            Check.is(amount + " of " + kind + " in " + water + " of " + column, f.out(0, kind), due);
            Check.is("left of " + amount, f.solute(0, 0, kind), amount - due);
        }
    }

    private static void roots() {
        drinks("n s100", 1, 50, 40, 0);
        drinks("n s100", 1, 50, 41, 1);
        drinks("n s100", 1, 50, 39, 0);
        drinks("n s100", 1, 50, 0, 0);
        drinks("n s100", 1, 50, 89, 49);
        drinks("n s100", 1, 50, 90, 50);
        drinks("n s100", 1, 50, 91, 50);
        drinks("n s100", 8, 0, 91, 0);
        drinks("f s100", 8, 1, 91, 1);
        LysimeterField reach = wetted("n s100 s100 s100", 40, 40, 90);
        reach.plant(0, 2, 50);
        Check.is("beyond its reach", after(1, reach).stress(0, 0), 50);
        reach.harvest(0);
        reach.plant(0, 3, 50);
        Check.is("within its reach", after(1, reach).stress(0, 0), 0);
        LysimeterField hard = frozen(1, wetted("n s100 s100", 350, 60));
        hard.plant(0, 2, 50);
        Check.is("not from a frozen one", after(1, hard).stress(0, 0), 30);
        Check.waters("a frozen one gives none", hard, 0, 350, 40);
    }

    private static void drinks(String column, int reach, int thirst, int water, int gets) {
        LysimeterField f = wetted(column, water);
        f.plant(0, reach, thirst);
        f.hours(1);
        String what = "thirst " + thirst + " of " + water;
        Check.waters(what, f, 0, water - gets);
        Check.is(what + ", stress", f.stress(0, 0), thirst - gets);
        Check.is(what + ", vapour", f.vapour(0), gets);
    }

    private static void rootsByOnes() {
        ones("n s100 s100", 1, new int[] {60, 60}, 59, 60);
        ones("n s100 s100", 1, new int[] {60, 61}, 60, 60);
        ones("n s100 s100", 1, new int[] {61, 60}, 60, 60);
        ones("n s100 s100 s100", 2, new int[] {60, 60, 60}, 59, 59, 60);
        ones("n s100 s100 s100", 4, new int[] {60, 60, 60}, 58, 59, 59);
        ones("n s100 s100 s100", 2, new int[] {43, 43, 42}, 42, 42, 42);
        ones("n s100 s100 s100", 8, new int[] {43, 43, 42}, 40, 40, 40);
        ones("n s100 s100 s100", 7, new int[] {43, 43, 42}, 40, 40, 41);
        ones("n s100 s100 c100", 1, new int[] {60, 30, 239}, 59, 30, 239);
        ones("n s100 s100 c100", 1, new int[] {60, 30, 240}, 59, 30, 240);
        ones("n s100 s100 c100", 1, new int[] {60, 30, 241}, 60, 30, 240);
        LysimeterField hard = frozen(1, wetted("n s100 s100 s100", 350, 60, 60));
        hard.plant(0, 3, 1);
        Check.waters("a frozen one gives not even one", after(1, hard), 0, 350, 59, 60);
    }

    private static void ones(String column, int thirst, int[] waters, int... due) {
        LysimeterField f = wetted(column, waters);
        f.plant(0, 3, thirst);
        f.hours(1);
        Check.waters(column + " by thirst " + thirst, f, 0, due);
    }

    private static void rootsOneBehindTheOther() {
        LysimeterField f = wetted("n s100", 100);
        f.plant(0, 1, 45);
        f.plant(0, 1, 15);
        f.hours(1);
        Check.is("the first is served", f.stress(0, 0), 0);
        Check.is("the second by what is left", f.stress(0, 1), 0);
        f.wet(0, 0, 99);
        f.hours(1);
        Check.is("one less, the first", f.stress(0, 0), 0);
        Check.is("one less, the second", f.stress(0, 1), 1);
        f.wet(0, 0, 85);
        f.hours(1);
        Check.is("nothing left, the second", f.stress(0, 1), 16);
        f.wet(0, 0, 84);
        f.hours(1);
        Check.is("too little, the first", f.stress(0, 0), 1);
        Check.is("stress over all its hours", f.stress(0, 1), 31);
    }

    private static void air() {
        dries("n s100", 21, 99, false, 1);
        dries("n s100", 20, 99, false, 0);
        dries("n s100", 19, 99, false, 0);
        dries("n s100", 0, 99, false, 0);
        dries("n s100", 100, 80, false, 80);
        dries("n s100", 100, 81, false, 80);
        dries("n s57", 12, 99, false, 1);
        dries("n s57", 11, 99, false, 0);
        dries("n s100", 100, 0, false, 0);
        dries("n s100", 100, 1, true, 0);
        dries("n s100", 100, 2, true, 1);
        dries("n s100", 100, 99, true, 49);
        LysimeterField stood = rained(30, wetted("n s100", 350));
        stood.weather(0, 0, 29);
        Check.is("all but one of what stands", after(1, stood).standing(0), 1);
        Check.waters("nothing of the layer", stood, 0, 350);
        LysimeterField hard = rained(30, frozen(1, wetted("n s100", 350)));
        hard.weather(0, 0, 99);
        Check.is("what stands on frost", after(1, hard).standing(0), 0);
        Check.waters("frost keeps its water", hard, 0, 350);
        Check.is("so much and no more", hard.vapour(0), 30);
        LysimeterField second = wetted("n s100 s100", 20, 350);
        second.weather(0, 0, 99);
        Check.is("never of the second layer", after(1, second).vapour(0), 0);
    }

    private static void dries(String column, int water, int thirst, boolean mulch, int due) {
        LysimeterField f = wetted(column, water);
        f.mulch(0, mulch);
        f.weather(0, 0, thirst);
        f.hours(1);
        String what = "air at " + thirst + " from " + water;
        Check.is(what, f.vapour(0), due);
        Check.waters(what, f, 0, water - due);
        Check.is(what + ", missing", f.missing(), 0);
    }

    private static void manure() {
        makes(1, 999, 0);
        makes(1, 1000, 1);
        makes(0, 1000000, 0);
        makes(-1, 1000000, 0);
        makes(45, 22, 0);
        makes(45, 23, 1);
        makes(45, 1000000, 45000);
        LysimeterField hard = frozen(1, Check.field("n s300 s100"));
        hard.manure(0, 100000);
        hard.weather(29, 0, 0);
        Check.is("none while frozen", after(1, hard).solute(0, 0, 'n'), 0);
        hard.weather(1, 0, 0);
        Check.is("in the hour that it thaws", after(1, hard).solute(0, 0, 'n'), 100);
        Check.is("and not below", hard.solute(0, 1, 'n'), 0);
        LysimeterField below = frozen(2, Check.field("n s300 s100"));
        below.weather(30, 0, 0);
        below.hours(1);
        below.manure(0, 100000);
        below.weather(1, 0, 0);
        Check.is("frost below does not matter", after(1, below).solute(0, 0, 'n'), 100);
    }

    private static void makes(int temperature, int amount, int due) {
        LysimeterField f = Check.field("n s500");
        f.manure(0, amount);
        f.weather(temperature, 0, 0);
        f.hours(1);
        String what = "manure " + amount + " at " + temperature;
        Check.is(what, f.solute(0, 0, 'n'), due);
        Check.is(what + ", left", f.manure(0, 1), amount - due + 1);
    }

    private static void eating() {
        eats("l100", 405, 6, 83, 0);
        eats("l100", 405, 6, 84, 1);
        eats("l100", 404, 6, 84, 0);
        eats("l100", 405, 5, 1000000, 0);
        eats("l100", 450, 45, 11, 0);
        eats("l100", 450, 45, 12, 1);
        eats("s50", 157, 10, 100, 2);
        eats("s50", 156, 10, 100, 0);
        eats("c111", 499, 10, 100, 2);
        eats("c111", 498, 10, 100, 0);
        LysimeterField dried = wetted("n l100", 405);
        dried.spread(0, 'n', 1000);
        dried.weather(10, 0, 1);
        Check.is("by the water that the air left", after(1, dried).eaten(0), 0);
        LysimeterField both = wetted("n l100", 450);
        both.manure(0, 100000);
        Check.is("what manure gave in this hour too", after(1, both).eaten(0), 20);
    }

    private static void eats(String layer, int water, int temperature, int amount, int due) {
        LysimeterField f = wetted("n " + layer, water);
        f.spread(0, 'n', amount);
        f.weather(temperature, 0, 0);
        f.hours(1);
        String what = amount + " in " + water + " of " + layer + " at " + temperature;
        Check.is(what, f.eaten(0), due);
        Check.is(what + ", left", f.solute(0, 0, 'n'), amount - due);
    }

    private static void fines() {
        Check.is("10000 is above 9999", finesOf(9999, 3500, 999), 999);
        Check.is("9999 is not", finesOf(9999, 3499, 999), 0);
        Check.is("0 is not above 0", finesOf(0, 0, 999), 0);
        Check.is("8 is above 0", finesOf(0, 3, 999), 999);
        Check.is("8 is not above 8", finesOf(8, 3, 999), 0);
        Check.is("8 is above 7", finesOf(7, 3, 999), 999);
        Check.is("nothing went out", finesOf(0, 2, 999), 0);
        Check.is("a fine of 1", finesOf(7, 3, 1), 1);
        Check.is("a fine of 0", finesOf(7, 3, 0), 0);
        LysimeterField first = wetted("f s100", 350);
        first.spread(0, 'n', 1000000);
        Check.is("a fine of 0 at first", after(1, first).fines(0), 0);
        LysimeterField salt = wetted("f s100", 350);
        salt.law(0, 5);
        salt.spread(0, 's', 1000000);
        salt.spread(0, 't', 1000000);
        Check.is("only for nitrate", after(1, salt).fines(0), 0);
        LysimeterField two = Check.field("f s100", "f s100");
        two.law(0, 5);
        two.wet(1, 0, 350);
        two.spread(0, 'n', 1000);
        two.spread(1, 'n', 1000);
        Check.is("each column for itself", after(1, two).fines(0), 0);
        Check.is("the other one pays", two.fines(1), 5);
        two.law(0, 6);
        Check.is("the law of the hour", after(1, two).fines(1), 11);
    }

    /** 125 of water goes out of the 350, with so much nitrate at first. */
    private static long finesOf(int limit, int nitrate, int fine) {
        LysimeterField f = wetted("f s100", 350);
        f.law(limit, fine);
        if (nitrate > 0) {
            f.spread(0, 'n', nitrate);
        }
        return after(1, f).fines(0);
    }

    private static void tensiometers() {
        Check.is("full sand", wetted("n s50", 175).tension(0, 0), 0);
        Check.is("full clay", wetted("n c500", 2500).tension(0, 0), 0);
        Check.is("one lacks, cut", wetted("n c500", 2499).tension(0, 0), 0);
        Check.is("two lack, cut", wetted("n c500", 2498).tension(0, 0), 1);
        reads("s100", 350, 40);
        reads("l57", 256, 57);
        reads("c83", 415, 182);
        reads("s500", 1750, 200);
        LysimeterField f = wetted("n s100", 350);
        f.weather(-9, 0, 0);
        Check.is("not yet frozen", after(1, f).tension(0, 0), 0);
        f.weather(-1, 0, 0);
        f.hours(1);
        Check.throwsIt("frozen", NoSuchElementException.class, () -> f.tension(0, 0));
        f.weather(10, 0, 0);
        Check.is("thawed", after(1, f).tension(0, 0), 0);
    }

    /** All waters of a layer: a reading up to 800, and none above. */
    private static void reads(String layer, int capacity, int wilting) {
        LysimeterField f = Check.field("n " + layer);
        for (int water = 0; water <= capacity; water++) {
            f.wet(0, 0, water);
            int due = (capacity - water) * 900 / (capacity - wilting);
            String what = "tension of " + layer + " at " + water;
            Check.is(what, Check.answer(() -> f.tension(0, 0)), due > 800 ? "NoSuchElementException" : "" + due);
        }
    }

    private static void reflectometers() {
        Check.is("dry", wetted("n s100", 0).reflection(0, 0), 0);
        Check.is("at 500", wetted("n c100", 500).reflection(0, 0), 500);
        Check.is("cut", wetted("n s77", 100).reflection(0, 0), 129);
        LysimeterField f = wetted("n c100", 499);
        Check.is("a begun day does not count", after(23, f).reflection(0, 0), 499);
        Check.is("a whole one does", after(1, f).reflection(0, 0), 500);
        Check.is("47 hours", after(23, f).reflection(0, 0), 500);
        f.hours(1);
        Check.throwsIt("48 hours, above 500", NoSuchElementException.class, () -> f.reflection(0, 0));
        Check.is("two days too much", f.setRight(0), 2);
        Check.is("then right", f.reflection(0, 0), 499);
        Check.is("and by no more", f.setRight(0), 0);
        Check.is("24 hours of both", after(24, f).setRight(0), 1);
        Check.is("23 hours, then", after(23, f).setRight(0), 0);
        Check.is("begun ones are gone with it", after(1, f).setRight(0), 0);
        Check.is("24 hours since", after(24, f).reflection(0, 0), 500);
        LysimeterField late = new LysimeterField();
        late.hours(47);
        Check.addColumn(late, "n s100");
        Check.is("23 hours since it was made", after(23, late).reflection(0, 0), 100);
        Check.is("24 hours since it was made", after(1, late).reflection(0, 0), 101);
        LysimeterField old = Check.field("n s100");
        for (int day = 1; day <= 400; day++) {
            old.hours(24);
        }
        Check.is("400 days", old.reflection(0, 0), 500);
        old.hours(24);
        Check.throwsIt("401 days", NoSuchElementException.class, () -> old.reflection(0, 0));
        Check.is("not even set wrong", old.setRight(0), 401);
    }

    private static void scales() {
        int[] due = {0, 0, 0, 0, 0, 5, 5, 5, 5, 5, 10, 10};
        for (int water = 0; water < due.length; water++) {
            Check.is("weight of " + water, wetted("n s100", water).weigh(0), due[water]);
            Check.is("weight of " + water + " that stands", rained(water, Check.field("n")).weigh(0), due[water]);
        }
        Check.is("both, one less", rained(4, wetted("n c50 s100", 250, 100)).weigh(0), 350);
        Check.is("both together", rained(5, wetted("n c50 s100", 250, 100)).weigh(0), 355);
        Check.is("what is running is not on it", linkedBy(60).weigh(0), 50);
    }

    /** The second column's runoff is running to the first one. */
    private static LysimeterField linkedBy(int rain) {
        LysimeterField f = Check.field("n", "n");
        f.link(1, 0);
        return rained(rain, f);
    }

    private static void forecasts() {
        LysimeterField f = wetted("f s100", 350);
        Check.is("one hour", f.forecast(0, 1, 100), 125);
        Check.is("two hours", f.forecast(0, 2, 100), 187);
        Check.is("48 hours", f.forecast(0, 48, 100), 249);
        Check.is("least scale", f.forecast(0, 1, 10), 12);
        Check.is("most scale", f.forecast(0, 1, 400), 250);
        f.weather(-10, 0, 0);
        Check.is("frost comes in thought", f.forecast(0, 48, 400), 0);
        Check.is("and goes with it", f.isFrozen(0, 0), false);
        f.weather(-9, 0, 0);
        Check.is("one degree less: in the second hour", f.forecast(0, 48, 100), 125);
        f.weather(0, 0, 99);
        Check.is("the air takes in thought", f.forecast(0, 48, 100), 125 + 13);
        f.mulch(0, true);
        Check.is("half with a mulch", f.forecast(0, 48, 100), 125 + 38 + 0);
        LysimeterField roots = wetted("f s100", 350);
        roots.plant(0, 1, 50);
        Check.is("roots take in thought", roots.forecast(0, 48, 100), 125 + 37);
        Check.is("without stress", roots.stress(0, 0), 0);
        LysimeterField seeps = wetted("s s100", 350);
        Check.is("full but once", seeps.forecast(0, 48, 100), 125);
        LysimeterField stands = rained(400, wetted("f c100 s100", 500, 100));
        stands.wet(0, 0, 84);
        stands.wet(0, 1, 350);
        Check.is("cracks swallow what stands", stands.forecast(0, 48, 400), 250);
        Check.is("which stays in truth", stands.standing(0), 50);
    }

    private static void fits() {
        LysimeterField f = wetted("f s100", 102);
        Check.is("up to 190 nothing but 1", f.forecast(0, 1, 190), 1);
        Check.is("200 gives both", f.forecast(0, 1, 200), 2);
        Check.is("below 100 none", f.forecast(0, 1, 99), 0);
        Check.is("fits to 0", f.fits(0, 1, 0), 9);
        Check.is("fits to 1", f.fits(0, 1, 1), 10);
        Check.is("fits to 2", f.fits(0, 1, 2), 21);
        Check.is("fits to 3, the nearest", f.fits(0, 1, 3), 21);
        Check.is("fits to 99999", f.fits(0, 1, 99999), 21);
        Check.is("first fit to 0", f.fit(0, 1, 0, 0), 10);
        Check.is("last fit to 0", f.fit(0, 1, 0, 8), 90);
        Check.throwsIt("none behind", NoSuchElementException.class, () -> f.fit(0, 1, 0, 9));
        Check.is("first fit to 1", f.fit(0, 1, 1, 0), 100);
        Check.is("last fit to 1", f.fit(0, 1, 1, 9), 190);
        Check.is("first fit to 2", f.fit(0, 1, 2, 0), 200);
        Check.is("last fit to 2", f.fit(0, 1, 2, 20), 400);
        Check.throwsIt("none behind the last", NoSuchElementException.class, () -> f.fit(0, 1, 2, 21));
        LysimeterField between = wetted("f s100", 104);
        between.scale(0, 333);
        Check.is("its own scale does not matter", between.fits(0, 1, 4), 21);
        LysimeterField sides = wetted("f s50 s50", 175, 50);
        sides.wet(0, 1, 175);
        int both = 0;
        for (int out = 0; out <= 250; out++) {
            both += fitsOnBothSides(sides, out) ? 1 : 0;
        }
        Check.is("fits from below and above as well", both > 0, true);
    }

    private static boolean fitsOnBothSides(LysimeterField f, int out) {
        int fits = f.fits(0, 2, out);
        long first = f.forecast(0, 2, f.fit(0, 2, out, 0));
        long last = f.forecast(0, 2, f.fit(0, 2, out, fits - 1));
        Check.is("as far off, to " + out, Math.abs(first - out), Math.abs(last - out));
        return first < out && last > out;
    }

    /** What one step leaves is what the next one finds, in the same hour. */
    private static void theStepsOfAnHour() {
        LysimeterField rain = Check.field("f s100");
        Check.is("what is taken in sinks", rained(200, rain).recharge(0), 100);
        LysimeterField root = Check.field("n s100 s100");
        root.wet(0, 0, 350);
        root.wet(0, 1, 0);
        root.plant(0, 1, 50);
        Check.waters("sinking comes ahead of roots", after(1, root), 0, 175, 125);
        LysimeterField dry = wetted("n s100", 80);
        dry.plant(0, 1, 40);
        dry.weather(0, 0, 99);
        Check.is("roots come ahead of the air", after(1, dry).stress(0, 0), 0);
        Check.waters("the air finds the rest", dry, 0, 20);
        LysimeterField late = wetted("f s100", 350);
        late.manure(0, 100000);
        Check.is("manure comes behind sinking", after(1, late).out(0, 'n'), 0);
        Check.is("and goes out in the next hour", after(1, late).out(0, 'n'), 1000L * 62 / 225);
        LysimeterField cold = Check.field("n s100");
        cold.weather(-10, 20, 0);
        Check.is("frost comes ahead of the rain", after(1, cold).standing(0), 20);
        cold.weather(10, 0, 0);
        Check.is("and goes ahead of it", after(1, cold).standing(0), 0);
        LysimeterField wind = Check.field("n s100");
        wind.weather(0, 200, 99);
        Check.waters("the air comes behind the rain", after(1, wind), 0, 201);
    }

    /** Amounts and sums that an int does not hold. */
    private static void greatAmounts() {
        LysimeterField f = Check.field("f s500");
        for (int i = 1; i <= 100; i++) {
            Check.is("manure by millions", f.manure(0, 1000000), i * 1000000L);
            Check.is("salt by millions", f.spread(0, 's', 1000000), i * 1000000L);
        }
        f.wet(0, 0, 1750);
        f.weather(45, 0, 0);
        f.hours(1);
        Check.is("45 thousandths of 100 millions", f.solute(0, 0, 'n'), 4500000);
        Check.is("625 by 1750 of 100 millions", f.out(0, 's'), 35714285);
        f.wet(0, 0, 1750);
        f.hours(1);
        Check.is("nitrate of it", f.out(0, 'n'), 4500000L * 625 / 1750);
        LysimeterField ring = Check.field("n", "n");
        ring.link(0, 1);
        ring.link(1, 0);
        ring.weather(10, 999, 0);
        long[] off = new long[2];
        long running = 0;
        for (int h = 0; h < 200 * 48; h++) {
            long first = running + 999 - (h == 0 ? 50 : 0);
            running = first + 999 - (h == 0 ? 50 : 0);
            off[0] += first;
            off[1] += running;
        }
        for (int i = 0; i < 200; i++) {
            ring.hours(48);
        }
        Check.is("runoff round and round, beyond an int", off[0] > Integer.MAX_VALUE, true);
        Check.is("runoff of the first", ring.runoff(0), off[0]);
        Check.is("runoff of the second", ring.runoff(1), off[1]);
        Check.is("nothing missing", ring.missing(), 0);
        Check.is("true", ring.isTrue(), true);
    }
}
