import java.util.ArrayList;
import java.util.NoSuchElementException;

/** The yard between rain and groundwater, hour by hour. */
public final class LysimeterField {
    private static final int MOST_COLUMNS = 6;
    private static final int MOST_LAYERS = 8;
    private static final int MOST_PLANTS = 2;
    private static final int MOST_HOURS = 48;
    private static final int HOURS_PER_DRIFT = 24;
    private static final int LEAST_SCALE = 10;
    private static final int MOST_SCALE = 400;
    private static final int SCALE_STEP = 10;
    private static final int FITTED_SCALES = 40;
    private static final int MOST_SPREAD = 1000000;
    private static final int MOST_STANDING = 50;
    private static final int KINDS = 3;
    private static final int NITRATE = 0;
    private static final int SALT = 1;
    private static final int TRACER = 2;

    private final ArrayList<Column> columns = new ArrayList<>();
    /** One for each column, with as many layers and plants, so that a forecast makes no objects. */
    private final ArrayList<Column> thoughts = new ArrayList<>();
    private final Weather now = new Weather();
    /** How far the forecast by each fitted scale is from what went out: a row used again by every fit. */
    private final long[] misses = new long[FITTED_SCALES];
    private int limit = 9999;
    private int fine = 0;
    private int hoursInAll = 0;

    /** Creates a field without columns. */
    public LysimeterField() {
    }

    /** Makes a column and returns its number. */
    public int column(char bottom) throws IllegalArgumentException, IllegalStateException {
        if (bottom != 'f' && bottom != 's' && bottom != 'n') {
            throw new IllegalArgumentException("no such bottom");
        }
        if (columns.size() >= MOST_COLUMNS) {
            throw new IllegalStateException("no more columns");
        }
        columns.add(new Column(bottom, hoursInAll));
        thoughts.add(new Column(bottom, hoursInAll));
        return columns.size() - 1;
    }

    /** Adds a layer below the others and returns how many the column has. */
    public int layer(int column, char soil, int thickness)
            throws IndexOutOfBoundsException, IllegalArgumentException, IllegalStateException {
        Column c = columnAt(column);
        Soil kind = soilOf(soil);
        checkRange(thickness, 50, 500);
        if (c.layers.size() >= MOST_LAYERS) {
            throw new IllegalStateException("no more layers");
        }
        Layer added = new Layer(kind, thickness);
        c.layers.add(added);
        c.account.told += added.water;
        thoughtAt(column).layers.add(new Layer(kind, thickness));
        return c.layers.size();
    }

    /** Tells the water of a layer and returns the water before. */
    public int wet(int column, int layer, int water) throws IndexOutOfBoundsException, IllegalArgumentException {
        Layer l = layerAt(column, layer);
        checkRange(water, 0, l.capacity);
        int before = l.water;
        l.water = water;
        columnAt(column).account.told += water - before;
        return before;
    }

    /** Returns the water of a layer. */
    public int water(int column, int layer) throws IndexOutOfBoundsException {
        return layerAt(column, layer).water;
    }

    /** Returns the capacity of a layer. */
    public int capacity(int column, int layer) throws IndexOutOfBoundsException {
        return layerAt(column, layer).capacity;
    }

    /** Links a column to the one that its runoff runs to, -1 for none, and returns the one before. */
    public int link(int column, int other) throws IndexOutOfBoundsException, IllegalArgumentException {
        Column c = columnAt(column);
        if (other < -1 || other >= columns.size()) {
            throw new IndexOutOfBoundsException("no such other column");
        }
        if (other == column) {
            throw new IllegalArgumentException("a column runs to another one");
        }
        int before = c.link;
        c.link = other;
        return before;
    }

    /** Sets the scale of draining and returns the one before. */
    public int scale(int column, int hundredths) throws IndexOutOfBoundsException, IllegalArgumentException {
        Column c = columnAt(column);
        checkRange(hundredths, LEAST_SCALE, MOST_SCALE);
        int before = c.scale;
        c.scale = hundredths;
        return before;
    }

    /** Plants and returns how many plants there are. */
    public int plant(int column, int reach, int thirst)
            throws IndexOutOfBoundsException, IllegalArgumentException, IllegalStateException {
        Column c = columnAt(column);
        checkRange(reach, 1, MOST_LAYERS);
        checkRange(thirst, 0, 50);
        if (c.plants.size() >= MOST_PLANTS) {
            throw new IllegalStateException("no more plants");
        }
        c.plants.add(new Plant(reach, thirst));
        thoughtAt(column).plants.add(new Plant(reach, thirst));
        return c.plants.size();
    }

    /** Takes all plants away and returns how many there were. */
    public int harvest(int column) throws IndexOutOfBoundsException {
        Column c = columnAt(column);
        int before = c.plants.size();
        c.plants.clear();
        thoughtAt(column).plants.clear();
        return before;
    }

    /** Returns the stress of a plant over all its hours. */
    public int stress(int column, int plant) throws IndexOutOfBoundsException, NoSuchElementException {
        Column c = columnAt(column);
        if (plant < 0 || plant >= c.plants.size()) {
            throw new NoSuchElementException("no such plant");
        }
        return (int) c.plants.get(plant).stress;
    }

    /** Lays a mulch, or takes it away, and returns whether it lay there. */
    public boolean mulch(int column, boolean is) throws IndexOutOfBoundsException {
        Column c = columnAt(column);
        boolean before = c.mulched;
        c.mulched = is;
        return before;
    }

    /** Sets the rule of watering and returns the threshold before. */
    public int rule(int column, int threshold, int amount)
            throws IndexOutOfBoundsException, IllegalArgumentException {
        Column c = columnAt(column);
        checkRange(threshold, 0, 9999);
        checkRange(amount, 0, 200);
        int before = c.threshold;
        c.threshold = threshold;
        c.watering = amount;
        return before;
    }

    /** Spreads a solute onto the uppermost layer and returns how much that layer has then. */
    public long spread(int column, char kind, int amount)
            throws IndexOutOfBoundsException, IllegalArgumentException, UnsupportedOperationException {
        Column c = columnAt(column);
        int k = kindOf(kind);
        checkRange(amount, 1, MOST_SPREAD);
        Layer top = c.topOrNull();
        if (top == null) {
            throw new UnsupportedOperationException("no layer to spread onto");
        }
        top.solutes.change(k, amount);
        c.account.given.change(k, amount);
        return top.solutes.amountOf(k);
    }

    /** Spreads manure and returns how much lies there then. */
    public long manure(int column, int amount) throws IndexOutOfBoundsException, IllegalArgumentException {
        Column c = columnAt(column);
        checkRange(amount, 1, MOST_SPREAD);
        c.manure += amount;
        return c.manure;
    }

    /** Returns how much of a solute is in a layer. */
    public long solute(int column, int layer, char kind) throws IndexOutOfBoundsException, IllegalArgumentException {
        Layer l = layerAt(column, layer);
        return l.solutes.amountOf(kindOf(kind));
    }

    /** Returns how much of a solute went out of a column in all hours. */
    public long out(int column, char kind) throws IndexOutOfBoundsException, IllegalArgumentException {
        Column c = columnAt(column);
        return c.account.out.amountOf(kindOf(kind));
    }

    /** Returns how much nitrate of a column is gone. */
    public long eaten(int column) throws IndexOutOfBoundsException {
        return columnAt(column).account.eaten;
    }

    /** Tells the weather and returns the temperature before. */
    public int weather(int temperature, int rain, int thirst) throws IllegalArgumentException {
        checkRange(temperature, -30, 45);
        checkRange(rain, 0, 999);
        checkRange(thirst, 0, 99);
        int before = now.temperature;
        now.temperature = temperature;
        now.rain = rain;
        now.thirst = thirst;
        return before;
    }

    /** Tells the law and returns the limit before. */
    public int law(int limit, int fine) throws IllegalArgumentException {
        checkRange(limit, 0, 9999);
        checkRange(fine, 0, 999);
        int before = this.limit;
        this.limit = limit;
        this.fine = fine;
        return before;
    }

    /** Lets hours go by and returns how many went by in all. */
    public int hours(int hours) throws IllegalArgumentException {
        checkRange(hours, 1, MOST_HOURS);
        for (int h = 0; h < hours; h++) {
            for (int i = 0; i < columns.size(); i++) {
                letAnHourGoBy(columns.get(i));
            }
            hoursInAll++;
        }
        return hoursInAll;
    }

    /** Returns the water that stands on a column. */
    public int standing(int column) throws IndexOutOfBoundsException {
        return columnAt(column).standing;
    }

    /** Returns the water that went out of a column to the groundwater in all hours. */
    public long recharge(int column) throws IndexOutOfBoundsException {
        return columnAt(column).account.recharge;
    }

    /** Returns the water that ran off a column in all hours, to other ones too. */
    public long runoff(int column) throws IndexOutOfBoundsException {
        return columnAt(column).account.runoff;
    }

    /** Returns the water that went from a column to the air in all hours. */
    public long vapour(int column) throws IndexOutOfBoundsException {
        return columnAt(column).account.vapour;
    }

    /** Returns whether a layer is frozen. */
    public boolean isFrozen(int column, int layer) throws IndexOutOfBoundsException {
        return layerAt(column, layer).frozen;
    }

    /** Returns the frost of a layer. */
    public int frost(int column, int layer) throws IndexOutOfBoundsException {
        return layerAt(column, layer).frost;
    }

    /** Returns by how much a column is lifted. */
    public int heave(int column) throws IndexOutOfBoundsException {
        return columnAt(column).frozenWater() / 10;
    }

    /** Returns how much the crack of a column could take in an hour by now. */
    public int crack(int column) throws IndexOutOfBoundsException {
        return columnAt(column).crackCanTake();
    }

    /** Reads a tensiometer. */
    public int tension(int column, int layer) throws IndexOutOfBoundsException, NoSuchElementException {
        Layer l = layerAt(column, layer);
        int span = l.capacity - l.wilting;
        if (l.frozen || span <= 0 || l.room() * 900 / span > 800) {
            throw new NoSuchElementException("no reading");
        }
        return l.room() * 900 / span;
    }

    /** Reads a reflectometer. */
    public int reflection(int column, int layer) throws IndexOutOfBoundsException, NoSuchElementException {
        Layer l = layerAt(column, layer);
        int reading = l.hundredthsOfWater() + driftOf(columnAt(column));
        if (reading > 500) {
            throw new NoSuchElementException("no reading");
        }
        return reading;
    }

    /** Sets the reflectometers of a column right and returns by how much they read too much. */
    public int setRight(int column) throws IndexOutOfBoundsException {
        Column c = columnAt(column);
        int before = driftOf(c);
        c.rightSince = hoursInAll;
        return before;
    }

    /** Reads the scales under a column. */
    public int weigh(int column) throws IndexOutOfBoundsException {
        Column c = columnAt(column);
        int all = c.waterOfLayers() + c.standing;
        return all - all % 5;
    }

    /** Returns the fines of a column. */
    public long fines(int column) throws IndexOutOfBoundsException {
        return columnAt(column).account.fines;
    }

    /** Forecasts what goes out of a column to the groundwater. */
    public long forecast(int column, int hours, int scale)
            throws IndexOutOfBoundsException, IllegalArgumentException {
        columnAt(column);
        checkRange(hours, 1, MOST_HOURS);
        checkRange(scale, LEAST_SCALE, MOST_SCALE);
        return foresee(column, hours, scale);
    }

    /** Returns how many fits there are to what went out. */
    public int fits(int column, int hours, int out) throws IndexOutOfBoundsException, IllegalArgumentException {
        long least = compareForecasts(column, hours, out);
        int count = 0;
        for (int i = 0; i < misses.length; i++) {
            if (misses[i] == least) {
                count++;
            }
        }
        return count;
    }

    /** Returns a fit to what went out, by its place among them from the least scale on. */
    public int fit(int column, int hours, int out, int index)
            throws IndexOutOfBoundsException, IllegalArgumentException, NoSuchElementException {
        long least = compareForecasts(column, hours, out);
        int place = 0;
        for (int i = 0; i < misses.length; i++) {
            if (misses[i] == least) {
                if (place == index) {
                    return fittedScale(i);
                }
                place++;
            }
        }
        throw new NoSuchElementException("no such fit");
    }

    /** Returns how much water is missing in all accounts. */
    public long missing() {
        long sum = 0;
        for (int i = 0; i < columns.size(); i++) {
            sum += columns.get(i).missingWater();
        }
        return sum;
    }

    /** Returns the share of layers that are frozen. */
    public float frozenShare() throws ArithmeticException {
        int all = layersInAll();
        if (all == 0) {
            throw new ArithmeticException("no layers");
        }
        int frozen = 0;
        for (int i = 0; i < columns.size(); i++) {
            frozen += columns.get(i).frozenLayers();
        }
        return (float) frozen / (float) all;
    }

    /** Returns the mean water of layers. */
    public double meanWater() throws ArithmeticException {
        int all = layersInAll();
        if (all == 0) {
            throw new ArithmeticException("no layers");
        }
        long sum = 0;
        for (int i = 0; i < columns.size(); i++) {
            sum += columns.get(i).waterOfLayers();
        }
        return (double) sum / (double) all;
    }

    /** Returns a sum over the field. */
    public long checksum() {
        long sum = 7;
        for (int i = 0; i < columns.size(); i++) {
            Column c = columns.get(i);
            sum = 31 * sum + c.standing;
            sum = 31 * sum + c.account.recharge;
            for (int j = 0; j < c.layers.size(); j++) {
                Layer l = c.layers.get(j);
                sum = 31 * sum + l.water;
                sum = 31 * sum + l.solutes.amountOf(NITRATE);
                sum = 31 * sum + l.frost;
            }
        }
        return sum;
    }

    /** Checks the accounts, the layers, the solutes and the forecasts. */
    public boolean isTrue() {
        if (missing() != 0) {
            return false;
        }
        for (int i = 0; i < columns.size(); i++) {
            Column c = columns.get(i);
            if (!c.layersHold() || !c.solutesHold() || !forecastHolds(i)) {
                return false;
            }
        }
        return true;
    }

    private Column columnAt(int column) {
        if (column < 0 || column >= columns.size()) {
            throw new IndexOutOfBoundsException("no such column");
        }
        return columns.get(column);
    }

    private Column thoughtAt(int column) {
        if (column < 0 || column >= thoughts.size()) {
            throw new IndexOutOfBoundsException("no such column");
        }
        return thoughts.get(column);
    }

    private Layer layerAt(int column, int layer) {
        Column c = columnAt(column);
        if (layer < 0 || layer >= c.layers.size()) {
            throw new IndexOutOfBoundsException("no such layer");
        }
        return c.layers.get(layer);
    }

    private static void checkRange(int number, int least, int most) {
        if (number < least || number > most) {
            throw new IllegalArgumentException("a number is out of range");
        }
    }

    private static Soil soilOf(char sign) {
        if (sign == 's') {
            return Soil.SAND;
        }
        if (sign == 'l') {
            return Soil.LOAM;
        }
        if (sign == 'c') {
            return Soil.CLAY;
        }
        throw new IllegalArgumentException("no such soil");
    }

    private static int kindOf(char sign) {
        if (sign == 'n') {
            return NITRATE;
        }
        if (sign == 's') {
            return SALT;
        }
        if (sign == 't') {
            return TRACER;
        }
        throw new IllegalArgumentException("no such kind");
    }

    private void letAnHourGoBy(Column c) {
        long waterBefore = c.account.recharge;
        long nitrateBefore = c.account.out.amountOf(NITRATE);
        runOn(c, c.goThroughAnHour(now.temperature, now.rain, now.thirst));
        judge(c, c.account.out.amountOf(NITRATE) - nitrateBefore, c.account.recharge - waterBefore);
    }

    private void runOn(Column c, long off) {
        c.account.runoff += off;
        if (c.link >= 0 && c.link < columns.size()) {
            columns.get(c.link).running += off;
        } else {
            c.account.lost += off;
        }
    }

    private void judge(Column c, long nitrate, long water) {
        if (nitrate > 0 && water > 0 && nitrate * 1000 / water > limit) {
            c.account.fines += fine;
        }
    }

    private int driftOf(Column c) {
        return (hoursInAll - c.rightSince) / HOURS_PER_DRIFT;
    }

    /** The column's thought, made like the column as it is now. */
    private Column thinkOf(int column, int scale) {
        Column thought = thoughtAt(column);
        thought.becomeLike(columnAt(column));
        thought.scale = scale;
        return thought;
    }

    private long foresee(int column, int hours, int scale) {
        Column thought = thinkOf(column, scale);
        long before = thought.account.recharge;
        for (int h = 0; h < hours; h++) {
            thought.goThroughAnHour(now.temperature, 0, now.thirst);
        }
        return thought.account.recharge - before;
    }

    /** Fills the row of misses and returns the least of them. */
    private long compareForecasts(int column, int hours, int out) {
        columnAt(column);
        checkRange(hours, 1, MOST_HOURS);
        checkRange(out, 0, 99999);
        long least = Long.MAX_VALUE;
        for (int i = 0; i < misses.length; i++) {
            misses[i] = Math.abs(foresee(column, hours, fittedScale(i)) - out);
            least = Math.min(least, misses[i]);
        }
        return least;
    }

    private static int fittedScale(int place) {
        return LEAST_SCALE + place * SCALE_STEP;
    }

    private int layersInAll() {
        int sum = 0;
        for (int i = 0; i < columns.size(); i++) {
            sum += columns.get(i).layers.size();
        }
        return sum;
    }

    private boolean forecastHolds(int column) {
        int scale = columnAt(column).scale;
        long told = foresee(column, MOST_HOURS, scale);
        Column copy = thinkOf(column, scale);
        long sum = 0;
        for (int h = 0; h < MOST_HOURS; h++) {
            long before = copy.account.recharge;
            copy.goThroughAnHour(now.temperature, 0, now.thirst);
            sum += copy.account.recharge - before;
        }
        return told == sum;
    }

    private enum Soil {
        SAND(35, 10, 4, 200, 50),
        LOAM(45, 25, 10, 50, 25),
        CLAY(50, 38, 22, 5, 10);

        private final int capacity;
        private final int field;
        private final int wilting;
        private final int intake;
        private final int drain;

        Soil(int capacity, int field, int wilting, int intake, int drain) {
            this.capacity = capacity;
            this.field = field;
            this.wilting = wilting;
            this.intake = intake;
            this.drain = drain;
        }
    }

    private static final class Weather {
        private int temperature = 10;
        private int rain = 0;
        private int thirst = 0;
    }

    private static final class Plant {
        private final int reach;
        private final int thirst;
        private long stress = 0;

        Plant(int reach, int thirst) {
            this.reach = reach;
            this.thirst = thirst;
        }
    }

    /** An amount of each kind of solute. */
    private static final class Solutes {
        private final long[] amounts = new long[KINDS];

        long amountOf(int kind) {
            return kind >= 0 && kind < amounts.length ? amounts[kind] : 0;
        }

        void change(int kind, long by) {
            if (kind >= 0 && kind < amounts.length) {
                amounts[kind] += by;
            }
        }

        /** Gives the share that some of a layer's water carries along. */
        void giveShare(int part, int whole, Solutes to) {
            if (part <= 0 || whole <= 0) {
                return;
            }
            for (int kind = 0; kind < amounts.length && kind < to.amounts.length; kind++) {
                long share = amounts[kind] * part / whole;
                amounts[kind] -= share;
                to.amounts[kind] += share;
            }
        }
    }

    /** What came to a column and what left it. */
    private static final class Account {
        private final Solutes given = new Solutes();
        private final Solutes out = new Solutes();
        private long told = 0;
        private long rained = 0;
        private long watered = 0;
        private long recharge = 0;
        private long runoff = 0;
        private long lost = 0;
        private long vapour = 0;
        private long eaten = 0;
        private long fines = 0;
    }

    private static final class Layer {
        private final Soil soil;
        private final int thickness;
        private final int capacity;
        private final int field;
        private final int wilting;
        private final Solutes solutes = new Solutes();
        private int water;
        private int frost = 0;
        private boolean frozen = false;

        Layer(Soil soil, int thickness) {
            this.soil = soil;
            this.thickness = thickness;
            this.capacity = thickness * soil.capacity / 10;
            this.field = thickness * soil.field / 10;
            this.wilting = thickness * soil.wilting / 10;
            this.water = this.field;
        }

        int room() {
            return capacity - water;
        }

        int canReceive() {
            return frozen ? 0 : capacity - water;
        }

        int canFeedRoots() {
            return frozen ? 0 : Math.max(0, water - wilting);
        }

        int canGiveToAir() {
            return frozen ? 0 : Math.max(0, water - wilting / 2);
        }

        /** What sinks in an hour if nothing below holds it back. */
        int canSink(int scale) {
            if (frozen || water <= field) {
                return 0;
            }
            int more = water - field;
            return Math.min(more, more * soil.drain * scale / 10000);
        }

        int hundredthsOfWater() {
            return thickness > 0 ? water * 100 / thickness : 0;
        }

        void freeze(int degrees) {
            frost += degrees;
            frozen = frost >= thickness / 10;
        }

        void thaw(int degrees) {
            frost = Math.max(0, frost - degrees);
            frozen = frost > 0;
        }

        void sendWater(int amount, Solutes to) {
            solutes.giveShare(amount, water, to);
            water -= amount;
        }

        void becomeLike(Layer other) {
            water = other.water;
            frost = other.frost;
            frozen = other.frozen;
        }
    }

    private static final class Column {
        private final char bottom;
        private final ArrayList<Layer> layers = new ArrayList<>();
        private final ArrayList<Plant> plants = new ArrayList<>();
        private final Account account = new Account();
        private int link = -1;
        private int scale = 100;
        private boolean mulched = false;
        private int threshold = 0;
        private int watering = 0;
        private int standing = 0;
        private int rightSince;
        private long running = 0;
        private long manure = 0;

        Column(char bottom, int hour) {
            this.bottom = bottom;
            this.rightSince = hour;
        }

        /**
         * Takes over what the water of an hour depends on, but for the scale, which is told to a thought.
         * Neither the rule nor what is running is taken over, as a thought knows no watering and nothing
         * runs to it; nor are solutes, which do not steer the water.
         */
        void becomeLike(Column other) {
            standing = other.standing;
            mulched = other.mulched;
            for (int i = 0; i < layers.size() && i < other.layers.size(); i++) {
                layers.get(i).becomeLike(other.layers.get(i));
            }
        }

        /** Returns what runs off. */
        long goThroughAnHour(int temperature, int rain, int thirst) {
            letFrostMove(temperature);
            long off = letWaterCome(rain);
            letWaterSink();
            for (int i = 0; i < plants.size(); i++) {
                letDrink(plants.get(i));
            }
            letWaterDry(mulched ? thirst / 2 : thirst);
            makeNitrate(temperature);
            eatNitrate(temperature);
            return off;
        }

        Layer topOrNull() {
            return layers.isEmpty() ? null : layers.get(0);
        }

        private void letFrostMove(int temperature) {
            if (temperature < 0) {
                Layer l = uppermost(false);
                if (l != null) {
                    l.freeze(-temperature);
                }
            } else if (temperature > 0) {
                Layer l = uppermost(true);
                if (l != null) {
                    l.thaw(temperature);
                }
            }
        }

        /** The uppermost layer that is frozen, or that is not, as told, or null. */
        private Layer uppermost(boolean frozen) {
            for (int i = 0; i < layers.size(); i++) {
                Layer l = layers.get(i);
                if (l.frozen == frozen) {
                    return l;
                }
            }
            return null;
        }

        private long letWaterCome(int rain) {
            Layer top = topOrNull();
            long came = standing + takeArrivals(rain);
            if (top != null) {
                came += takeWatering(top);
                came -= fillCrack(top, came);
                came -= soakIn(top, came);
            }
            standing = (int) Math.min(came, MOST_STANDING);
            return came - standing;
        }

        private long takeArrivals(int rain) {
            long came = rain + running;
            account.rained += rain;
            running = 0;
            return came;
        }

        private int takeWatering(Layer top) {
            if (top.water >= threshold) {
                return 0;
            }
            account.watered += watering;
            return watering;
        }

        private int fillCrack(Layer top, long from) {
            Layer end = crackEnd(top);
            if (end == null) {
                return 0;
            }
            int takes = (int) Math.min(from, crackBetween(top, end));
            end.water += takes;
            return takes;
        }

        private static int soakIn(Layer top, long from) {
            int takes = (int) Math.min(from, Math.min(top.soil.intake, top.canReceive()));
            top.water += takes;
            return takes;
        }

        /** The layer that the crack leads to, or null without a crack. */
        private Layer crackEnd(Layer top) {
            if (top.soil != Soil.CLAY || top.frozen || top.water >= top.field * 8 / 10) {
                return null;
            }
            Layer end = top;
            for (int i = 1; i < layers.size() && layers.get(i).soil == Soil.CLAY; i++) {
                end = layers.get(i);
            }
            return end;
        }

        private static int crackBetween(Layer top, Layer end) {
            return Math.min((top.field - top.water) / 4, end.canReceive());
        }

        int crackCanTake() {
            Layer top = topOrNull();
            Layer end = top == null ? null : crackEnd(top);
            return end == null ? 0 : crackBetween(top, end);
        }

        private void letWaterSink() {
            for (int i = layers.size() - 1; i >= 0; i--) {
                Layer l = layers.get(i);
                int sinks = l.canSink(scale);
                if (i + 1 < layers.size()) {
                    Layer below = layers.get(i + 1);
                    int goes = Math.min(sinks, below.canReceive());
                    l.sendWater(goes, below.solutes);
                    below.water += goes;
                } else if (bottom == 'f' || bottom == 's' && l.room() == 0) {
                    l.sendWater(sinks, account.out);
                    account.recharge += sinks;
                }
            }
        }

        private void letDrink(Plant p) {
            int sum = 0;
            for (int i = 0; i < layers.size() && i < p.reach; i++) {
                sum += layers.get(i).canFeedRoots();
            }
            int gets = Math.min(p.thirst, sum);
            int rest = gets;
            for (int i = 0; sum > 0 && i < layers.size() && i < p.reach; i++) {
                Layer l = layers.get(i);
                int part = gets * l.canFeedRoots() / sum;
                l.water -= part;
                rest -= part;
            }
            for (; rest > 0; rest--) {
                Layer l = wettest(p.reach);
                if (l != null) {
                    l.water--;
                }
            }
            p.stress += p.thirst - gets;
            account.vapour += gets;
        }

        /** The layer in reach that has most for roots, the uppermost of like ones, or null. */
        private Layer wettest(int reach) {
            Layer best = null;
            for (int i = 0; i < layers.size() && i < reach; i++) {
                Layer l = layers.get(i);
                if (l.canFeedRoots() > 0 && (best == null || l.canFeedRoots() > best.canFeedRoots())) {
                    best = l;
                }
            }
            return best;
        }

        private void letWaterDry(int thirst) {
            int fromStanding = Math.min(thirst, standing);
            standing -= fromStanding;
            account.vapour += fromStanding;
            Layer top = topOrNull();
            if (top != null) {
                int fromLayer = Math.min(thirst - fromStanding, top.canGiveToAir());
                top.water -= fromLayer;
                account.vapour += fromLayer;
            }
        }

        private void makeNitrate(int temperature) {
            Layer top = topOrNull();
            if (top == null || top.frozen || temperature <= 0) {
                return;
            }
            long made = manure * temperature / 1000;
            manure -= made;
            top.solutes.change(NITRATE, made);
            account.given.change(NITRATE, made);
        }

        private void eatNitrate(int temperature) {
            if (temperature <= 5) {
                return;
            }
            for (int i = 0; i < layers.size(); i++) {
                Layer l = layers.get(i);
                if (!l.frozen && l.water >= l.capacity * 9 / 10) {
                    long gone = l.solutes.amountOf(NITRATE) * temperature / 500;
                    l.solutes.change(NITRATE, -gone);
                    account.eaten += gone;
                }
            }
        }

        int waterOfLayers() {
            int sum = 0;
            for (int i = 0; i < layers.size(); i++) {
                sum += layers.get(i).water;
            }
            return sum;
        }

        int frozenWater() {
            int sum = 0;
            for (int i = 0; i < layers.size(); i++) {
                Layer l = layers.get(i);
                sum += l.frozen ? l.water : 0;
            }
            return sum;
        }

        int frozenLayers() {
            int count = 0;
            for (int i = 0; i < layers.size(); i++) {
                count += layers.get(i).frozen ? 1 : 0;
            }
            return count;
        }

        /**
         * What the accounts of this column alone lack. What it handed to other columns is in their accounts:
         * the sum over all columns is what is missing.
         */
        long missingWater() {
            Account a = account;
            long came = a.told + a.rained + a.watered;
            long has = waterOfLayers() + standing + running;
            long went = a.recharge + a.lost + a.vapour;
            return came - has - went;
        }

        boolean layersHold() {
            for (int i = 0; i < layers.size(); i++) {
                Layer l = layers.get(i);
                if (l.water < 0 || l.room() < 0) {
                    return false;
                }
            }
            return true;
        }

        boolean solutesHold() {
            for (int kind = 0; kind < KINDS; kind++) {
                long found = account.out.amountOf(kind) + (kind == NITRATE ? account.eaten : 0);
                for (int i = 0; i < layers.size(); i++) {
                    found += layers.get(i).solutes.amountOf(kind);
                }
                if (found != account.given.amountOf(kind)) {
                    return false;
                }
            }
            return true;
        }
    }
}
