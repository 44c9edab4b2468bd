import java.util.ArrayList;
import java.util.List;

/**
 * A second reading of the document, in its plainest form, to compare the class with: it answers every call by a text,
 * an exception by its name. What is refused is told apart from what is done, so a refused call changes nothing here.
 */
final class Model {
    private static final String BOTTOMS = "fsn";
    private static final String SOILS = "slc";
    private static final String KINDS = "nst";
    private static final int[] CAPACITY = {35, 45, 50};
    private static final int[] FIELD = {10, 25, 38};
    private static final int[] WILTING = {4, 10, 22};
    private static final int[] INTAKE = {200, 50, 5};
    private static final int[] DRAIN = {50, 25, 10};
    private static final String INDEX = "IndexOutOfBoundsException";
    private static final String ARGUMENT = "IllegalArgumentException";
    private static final String STATE = "IllegalStateException";
    private static final String ELEMENT = "NoSuchElementException";
    private static final String UNSUPPORTED = "UnsupportedOperationException";
    private static final String ARITHMETIC = "ArithmeticException";

    private final List<Col> cols = new ArrayList<>();
    private long degrees = 10;
    private long rain = 0;
    private long thirst = 0;
    private long limit = 9999;
    private long fine = 0;
    private long hours = 0;

    private static final class Lay {
        private int soil;
        private long thick;
        private long water;
        private long frost;
        private boolean frozen;
        private long[] solutes = new long[3];

        long capacity() {
            return thick * CAPACITY[soil] / 10;
        }

        long field() {
            return thick * FIELD[soil] / 10;
        }

        long wilting() {
            return thick * WILTING[soil] / 10;
        }

        long room() {
            return capacity() - water;
        }

        Lay copy() {
            Lay l = new Lay();
            l.soil = soil;
            l.thick = thick;
            l.water = water;
            l.frost = frost;
            l.frozen = frozen;
            l.solutes = solutes.clone();
            return l;
        }
    }

    private static final class Col {
        private char bottom;
        private final List<Lay> layers = new ArrayList<>();
        private final List<long[]> plants = new ArrayList<>();
        private long link = -1;
        private long scale = 100;
        private boolean mulch;
        private long threshold;
        private long watering;
        private long manure;
        private long standing;
        private long running;
        private long recharge;
        private long runoff;
        private long offTheYard;
        private long vapour;
        private long eaten;
        private long fines;
        private long came;
        private long right;
        private final long[] out = new long[3];

        Col inThought(long byScale) {
            Col c = new Col();
            c.bottom = bottom;
            for (Lay l : layers) {
                c.layers.add(l.copy());
            }
            for (long[] p : plants) {
                c.plants.add(p.clone());
            }
            c.scale = byScale;
            c.mulch = mulch;
            c.manure = manure;
            c.standing = standing;
            return c;
        }

        long water() {
            return layers.stream().mapToLong(l -> l.water).sum();
        }
    }

    String answer(String name, long[] a) {
        String refusal = refusal(name, a);
        return refusal.isEmpty() ? String.valueOf(done(name, a)) : refusal;
    }

    int columns() {
        return cols.size();
    }

    int layers(int column) {
        return cols.get(column).layers.size();
    }

    /** Amounts of water of a layer at which something begins or ends. */
    long[] turningPoints(int column, int layer) {
        Lay l = cols.get(column).layers.get(layer);
        return new long[] {0, l.wilting() / 2, l.wilting(), l.field() * 8 / 10, l.field(), l.capacity() * 9 / 10,
            l.capacity()};
    }

    private static boolean not(String signs, long sign) {
        return signs.indexOf((char) sign) < 0;
    }

    private static boolean not(long least, long number, long most) {
        return number < least || number > most;
    }

    private boolean noColumn(long number) {
        return not(0, number, cols.size() - 1);
    }

    private boolean noLayer(long column, long layer) {
        return noColumn(column) || not(0, layer, cols.get((int) column).layers.size() - 1);
    }

    private static String first(boolean one, String exception, boolean other, String then) {
        return one ? exception : other ? then : "";
    }

    private String refusal(String name, long[] a) {
        switch (name) {
            case "column": return first(not(BOTTOMS, a[0]), ARGUMENT, cols.size() == 6, STATE);
            case "weather": return not(-30, a[0], 45) || not(0, a[1], 999) || not(0, a[2], 99) ? ARGUMENT : "";
            case "law": return not(0, a[0], 9999) || not(0, a[1], 999) ? ARGUMENT : "";
            case "hours": return not(1, a[0], 48) ? ARGUMENT : "";
            case "frozenShare": case "meanWater": return allLayers().isEmpty() ? ARITHMETIC : "";
            case "missing": case "checksum": case "isTrue": return "";
            default: return noColumn(a[0]) ? INDEX : refusalOf(cols.get((int) a[0]), name, a);
        }
    }

    private String refusalOf(Col c, String name, long[] a) {
        switch (name) {
            case "layer": return first(not(SOILS, a[1]) || not(50, a[2], 500), ARGUMENT, c.layers.size() == 8, STATE);
            case "link": return first(a[1] != -1 && noColumn(a[1]), INDEX, a[0] == a[1], ARGUMENT);
            case "scale": return not(10, a[1], 400) ? ARGUMENT : "";
            case "plant": return first(not(1, a[1], 8) || not(0, a[2], 50), ARGUMENT, c.plants.size() == 2, STATE);
            case "stress": return not(0, a[1], c.plants.size() - 1) ? ELEMENT : "";
            case "rule": return not(0, a[1], 9999) || not(0, a[2], 200) ? ARGUMENT : "";
            case "spread":
                return first(not(KINDS, a[1]) || not(1, a[2], 1000000), ARGUMENT, c.layers.isEmpty(), UNSUPPORTED);
            case "manure": return not(1, a[1], 1000000) ? ARGUMENT : "";
            case "out": return not(KINDS, a[1]) ? ARGUMENT : "";
            case "forecast": return not(1, a[1], 48) || not(10, a[2], 400) ? ARGUMENT : "";
            case "fits": return not(1, a[1], 48) || not(0, a[2], 99999) ? ARGUMENT : "";
            case "fit": return not(1, a[1], 48) || not(0, a[2], 99999) ? ARGUMENT
                    : not(0, a[3], fits(c, a[1], a[2]).size() - 1) ? ELEMENT : "";
            case "wet": case "water": case "capacity": case "solute": case "isFrozen": case "frost": case "tension":
            case "reflection": return noLayer(a[0], a[1]) ? INDEX : refusalOf(c.layers.get((int) a[1]), c, name, a);
            default: return "";
        }
    }

    private String refusalOf(Lay l, Col c, String name, long[] a) {
        switch (name) {
            case "wet": return not(0, a[2], l.capacity()) ? ARGUMENT : "";
            case "solute": return not(KINDS, a[2]) ? ARGUMENT : "";
            case "tension": return l.frozen || tension(l) > 800 ? ELEMENT : "";
            case "reflection": return reflection(l, c) > 500 ? ELEMENT : "";
            default: return "";
        }
    }

    private Object done(String name, long[] a) {
        switch (name) {
            case "column": return newColumn((char) a[0]);
            case "weather": return weather(a);
            case "law": return law(a);
            case "hours": return letGoBy(a[0]);
            case "missing": return missing();
            case "frozenShare":
                return (float) allLayers().stream().filter(l -> l.frozen).count() / (float) allLayers().size();
            case "meanWater":
                return (double) cols.stream().mapToLong(Col::water).sum() / (double) allLayers().size();
            case "checksum": return checksum();
            case "isTrue": return true;
            default: return doneWith(cols.get((int) a[0]), name, a);
        }
    }

    private Object doneWith(Col c, String name, long[] a) {
        switch (name) {
            case "layer": return newLayer(c, a);
            case "link": { long before = c.link; c.link = a[1]; return before; }
            case "scale": { long before = c.scale; c.scale = a[1]; return before; }
            case "plant": c.plants.add(new long[] {a[1], a[2], 0}); return c.plants.size();
            case "harvest": { int before = c.plants.size(); c.plants.clear(); return before; }
            case "mulch": { boolean before = c.mulch; c.mulch = a[1] != 0; return before; }
            case "rule": { long before = c.threshold; c.threshold = a[1]; c.watering = a[2]; return before; }
            case "spread": return c.layers.get(0).solutes[KINDS.indexOf((char) a[1])] += a[2];
            case "manure": return c.manure += a[1];
            case "setRight": { long before = drift(c); c.right = hours; return before; }
            case "wet": return wet(c, c.layers.get((int) a[1]), a[2]);
            default: return readingOf(c, name, a);
        }
    }

    private Object readingOf(Col c, String name, long[] a) {
        switch (name) {
            case "stress": return c.plants.get((int) a[1])[2];
            case "out": return c.out[KINDS.indexOf((char) a[1])];
            case "eaten": return c.eaten;
            case "standing": return c.standing;
            case "recharge": return c.recharge;
            case "runoff": return c.runoff;
            case "vapour": return c.vapour;
            case "heave": return c.layers.stream().filter(l -> l.frozen).mapToLong(l -> l.water).sum() / 10;
            case "crack": return crack(c);
            case "weigh": return (c.water() + c.standing) / 5 * 5;
            case "fines": return c.fines;
            case "forecast": return forecast(c, a[1], a[2]);
            case "fits": return fits(c, a[1], a[2]).size();
            case "fit": return fits(c, a[1], a[2]).get((int) a[3]);
            default: return readingOf(c.layers.get((int) a[1]), c, name, a);
        }
    }

    private Object readingOf(Lay l, Col c, String name, long[] a) {
        switch (name) {
            case "water": return l.water;
            case "capacity": return l.capacity();
            case "solute": return l.solutes[KINDS.indexOf((char) a[2])];
            case "isFrozen": return l.frozen;
            case "frost": return l.frost;
            case "tension": return tension(l);
            case "reflection": return reflection(l, c);
            default: throw new AssertionError("no such call: " + name);
        }
    }

    private int newColumn(char bottom) {
        Col c = new Col();
        c.bottom = bottom;
        c.right = hours;
        cols.add(c);
        return cols.size() - 1;
    }

    private int newLayer(Col c, long[] a) {
        Lay l = new Lay();
        l.soil = SOILS.indexOf((char) a[1]);
        l.thick = a[2];
        l.water = l.field();
        c.layers.add(l);
        c.came += l.water;
        return c.layers.size();
    }

    private long wet(Col c, Lay l, long water) {
        long before = l.water;
        c.came += water - before;
        l.water = water;
        return before;
    }

    private long weather(long[] a) {
        long before = degrees;
        degrees = a[0];
        rain = a[1];
        thirst = a[2];
        return before;
    }

    private long law(long[] a) {
        long before = limit;
        limit = a[0];
        fine = a[1];
        return before;
    }

    private List<Lay> allLayers() {
        List<Lay> all = new ArrayList<>();
        cols.forEach(c -> all.addAll(c.layers));
        return all;
    }

    private static long tension(Lay l) {
        return l.room() * 900 / (l.capacity() - l.wilting());
    }

    private long drift(Col c) {
        return (hours - c.right) / 24;
    }

    private long reflection(Lay l, Col c) {
        return l.water * 100 / l.thick + drift(c);
    }

    private long missing() {
        long sum = 0;
        for (Col c : cols) {
            sum += c.came - c.water() - c.standing - c.running - c.recharge - c.offTheYard - c.vapour;
        }
        return sum;
    }

    private long checksum() {
        long sum = 7;
        for (Col c : cols) {
            sum = (sum * 31 + c.standing) * 31 + c.recharge;
            for (Lay l : c.layers) {
                sum = ((sum * 31 + l.water) * 31 + l.solutes[0]) * 31 + l.frost;
            }
        }
        return sum;
    }

    private long forecast(Col c, long howLong, long scale) {
        Col thought = c.inThought(scale);
        for (long h = 0; h < howLong; h++) {
            anHour(thought, 0);
        }
        return thought.recharge;
    }

    private List<Integer> fits(Col c, long howLong, long out) {
        List<Integer> best = new ArrayList<>();
        long least = Long.MAX_VALUE;
        for (int scale = 10; scale <= 400; scale += 10) {
            long miss = Math.abs(forecast(c, howLong, scale) - out);
            if (miss < least) {
                best.clear();
                least = miss;
            }
            if (miss == least) {
                best.add(scale);
            }
        }
        return best;
    }

    private long letGoBy(long howMany) {
        for (long h = 0; h < howMany; h++) {
            for (Col c : cols) {
                long off = anHour(c, rain);
                c.runoff += off;
                if (c.link == -1) {
                    c.offTheYard += off;
                } else {
                    cols.get((int) c.link).running += off;
                    cols.get((int) c.link).came += off;
                    c.came -= off;
                }
            }
            hours++;
        }
        return hours;
    }

    /** Returns what runs off. */
    private long anHour(Col c, long falling) {
        frost(c);
        long off = coming(c, falling);
        long nitrate = c.out[0];
        long water = c.recharge;
        sinking(c);
        c.plants.forEach(p -> roots(c, p));
        air(c);
        nitrate(c);
        nitrate = c.out[0] - nitrate;
        water = c.recharge - water;
        if (nitrate > 0 && nitrate * 1000 / water > limit) {
            c.fines += fine;
        }
        return off;
    }

    private void frost(Col c) {
        for (Lay l : c.layers) {
            if (degrees < 0 && !l.frozen) {
                l.frost -= degrees;
                l.frozen = l.frost >= l.thick / 10;
                return;
            }
            if (degrees > 0 && l.frozen) {
                l.frost -= degrees;
                if (l.frost <= 0) {
                    l.frost = 0;
                    l.frozen = false;
                }
                return;
            }
        }
    }

    private static Lay crackEnd(Col c) {
        Lay end = c.layers.get(0);
        for (Lay l : c.layers) {
            if (l.soil != 2) {
                break;
            }
            end = l;
        }
        return end;
    }

    private static long crack(Col c) {
        if (c.layers.isEmpty()) {
            return 0;
        }
        Lay top = c.layers.get(0);
        if (top.soil != 2 || top.frozen || top.water >= top.field() * 8 / 10) {
            return 0;
        }
        Lay end = crackEnd(c);
        return end.frozen ? 0 : Math.min((top.field() - top.water) / 4, end.room());
    }

    private long coming(Col c, long falling) {
        long there = c.standing + falling + c.running;
        c.came += falling;
        c.running = 0;
        if (!c.layers.isEmpty()) {
            Lay top = c.layers.get(0);
            if (top.water < c.threshold) {
                there += c.watering;
                c.came += c.watering;
            }
            long swallowed = Math.min(there, crack(c));
            crackEnd(c).water += swallowed;
            there -= swallowed;
            long taken = top.frozen ? 0 : Math.min(there, Math.min(INTAKE[top.soil], top.room()));
            top.water += taken;
            there -= taken;
        }
        c.standing = Math.min(there, 50);
        return there - c.standing;
    }

    private static void sinking(Col c) {
        for (int i = c.layers.size() - 1; i >= 0; i--) {
            Lay l = c.layers.get(i);
            Lay below = i + 1 < c.layers.size() ? c.layers.get(i + 1) : null;
            long more = l.water - l.field();
            if (l.frozen || more <= 0) {
                continue;
            }
            long goes = Math.min(more, more * DRAIN[l.soil] * c.scale / 10000);
            if (below != null) {
                goes = below.frozen ? 0 : Math.min(goes, below.room());
            } else if (c.bottom == 'n' || c.bottom == 's' && l.water < l.capacity()) {
                goes = 0;
            }
            for (int k = 0; k < 3; k++) {
                long share = l.solutes[k] * goes / l.water;
                l.solutes[k] -= share;
                (below == null ? c.out : below.solutes)[k] += share;
            }
            l.water -= goes;
            if (below == null) {
                c.recharge += goes;
            } else {
                below.water += goes;
            }
        }
    }

    private static long forRoots(Lay l) {
        return l.frozen || l.water <= l.wilting() ? 0 : l.water - l.wilting();
    }

    private static void roots(Col c, long[] plant) {
        List<Lay> reach = c.layers.subList(0, (int) Math.min(plant[0], c.layers.size()));
        long sum = reach.stream().mapToLong(Model::forRoots).sum();
        long gets = Math.min(plant[1], sum);
        plant[2] += plant[1] - gets;
        c.vapour += gets;
        long rest = gets;
        for (Lay l : reach) {
            long part = sum == 0 ? 0 : gets * forRoots(l) / sum;
            l.water -= part;
            rest -= part;
        }
        while (rest > 0) {
            Lay most = reach.get(0);
            for (Lay l : reach) {
                most = forRoots(l) > forRoots(most) ? l : most;
            }
            most.water--;
            rest--;
        }
    }

    private void air(Col c) {
        long wants = c.mulch ? thirst / 2 : thirst;
        long first = Math.min(wants, c.standing);
        c.standing -= first;
        c.vapour += first;
        if (c.layers.isEmpty() || c.layers.get(0).frozen) {
            return;
        }
        Lay top = c.layers.get(0);
        long then = Math.max(0, Math.min(wants - first, top.water - top.wilting() / 2));
        top.water -= then;
        c.vapour += then;
    }

    private void nitrate(Col c) {
        if (!c.layers.isEmpty() && !c.layers.get(0).frozen && degrees > 0) {
            long made = c.manure * degrees / 1000;
            c.manure -= made;
            c.layers.get(0).solutes[0] += made;
        }
        for (Lay l : c.layers) {
            if (degrees > 5 && !l.frozen && l.water >= l.capacity() * 9 / 10) {
                long gone = l.solutes[0] * degrees / 500;
                l.solutes[0] -= gone;
                c.eaten += gone;
            }
        }
    }
}
