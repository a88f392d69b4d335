import java.util.Arrays;

/** Plates spun on sticks, and the man who runs from one to the next: see README.md and the document. */
public final class SpunPlates {
    public static final int UNKNOWN = -1, OUTSIDE = -2, STATE = -3, FULL = -4, NO = -5, NONE = -6;

    private static final int MOST_PLATES = 6, MOST_ORDERS = 720;
    private static final int LAST_PLACE = 7;
    private static final int LEAST_FULL = 2, MOST_FULL = 15;
    private static final int LEAST_FALLS = 1, MOST_FALLS = 3;
    private static final int RULES = 4;
    private static final int LAST_TICK = 600;
    private static final int IMAGES = 2;

    private static final int STAY = 0, LEFT = 1, RIGHT = 2, WIND = 3;

    /** What set() sets, by its number; the rows below say for each its least, its most and what it is at first. */
    private static final int MAN = 0, GIVES = 1, PATIENCE = 2, LAG = 3, SETS = 4, SETTINGS = 5;
    private static final int[] SETTING_LEAST = {0, 1, 1, 0, 1};
    private static final int[] SETTING_MOST = {7, 6, 9, 3, 6};
    private static final int[] SETTING_FIRST = {0, 3, 4, 0, 2};

    private final Stage stage = new Stage();
    private final Stage trial = new Stage();
    private final Stage[] images = new Stage[IMAGES];
    private final Pad pad = new Pad();
    private final Walker walker = new Walker();
    private final Sticks best = new Sticks();
    private final SettingUp settingUp = new SettingUp();
    private final AllWays ways = new AllWays();

    public SpunPlates() {
    }

    // ---- 1 plates, shows

    public int plate(int place, int full, int falls) {
        if (!within(place, 0, LAST_PLACE) || !within(full, LEAST_FULL, MOST_FULL)
                || !within(falls, LEAST_FALLS, MOST_FALLS)) {
            return OUTSIDE;
        }
        if (stage.plateOn(place) >= 0) {
            return NO;
        }
        if (stage.count >= MOST_PLATES) {
            return FULL;
        }
        return stage.add(place, full, falls);
    }

    public int turn(int plate, int v) {
        if (!stage.has(plate)) {
            return UNKNOWN;
        }
        if (!within(v, 0, stage.fulls[plate])) {
            return OUTSIDE;
        }
        int was = stage.turns[plate];
        stage.turns[plate] = v;
        return was;
    }

    public int set(int which, int v) {
        if (!within(which, 0, SETTINGS - 1) || !within(v, SETTING_LEAST[which], SETTING_MOST[which])) {
            return OUTSIDE;
        }
        int was = stage.settings[which];
        stage.settings[which] = v;
        return was;
    }

    public int about(int plate, int what) {
        if (!stage.has(plate)) {
            return UNKNOWN;
        }
        switch (what) {
            case 0: return stage.places[plate];
            case 1: return stage.fulls[plate];
            case 2: return stage.falls[plate];
            case 3: return stage.turns[plate];
            default: return OUTSIDE;
        }
    }

    public int tick(int thing) {
        if (!within(thing, STAY, WIND)) {
            return OUTSIDE;
        }
        if (!stage.can(thing)) {
            return NO;
        }
        stage.act(thing);
        return stage.standing();
    }

    public int say(int sign) {
        if (!within(sign, Pad.LEAST_SIGN, Pad.MOST_SIGN)) {
            return OUTSIDE;
        }
        return pad.add(sign) ? pad.length : FULL;
    }

    public int wipe() {
        int were = pad.length;
        pad.length = 0;
        return were;
    }

    public int fault() {
        int place = pad.firstFault();
        return place < 0 ? NONE : place;
    }

    public int judge(int what) {
        if (!within(what, 0, 5)) {
            return OUTSIDE;
        }
        if (pad.firstFault() >= 0) {
            return NO;
        }
        trial.copyFrom(stage);
        int all = pad.read();
        int firstFall = NONE;
        int done = 0;
        while (done < all && trial.can(pad.things[done])) {
            int stood = trial.standing();
            trial.act(pad.things[done]);
            if (firstFall == NONE && trial.standing() != stood) {
                firstFall = done;
            }
            done++;
        }
        switch (what) {
            case 0: return all;
            case 1: return done < all ? done : NONE;
            case 2: return firstFall;
            case 3: return trial.standing();
            case 4: return trial.settings[MAN];
            default: return trial.sumOfTurns();
        }
    }

    public int show() {
        if (pad.firstFault() >= 0) {
            return NO;
        }
        trial.copyFrom(stage);
        int all = pad.read();
        for (int i = 0; i < all; i++) {
            if (!trial.can(pad.things[i])) {
                return NO;
            }
            trial.act(pad.things[i]);
        }
        stage.copyFrom(trial);
        pad.length = 0;
        return all;
    }

    // ---- 2 rules

    public int lasts(int rule) {
        if (!isRule(rule)) {
            return OUTSIDE;
        }
        if (stage.standing() == 0) {
            return STATE;
        }
        walker.begin(stage);
        return orNone(walker.ticksToFirstFall(rule));
    }

    public int at(int rule, int ticks, int plate) {
        if (plate != -1 && plate != -2 && !stage.has(plate)) {
            return UNKNOWN;
        }
        if (!isRule(rule) || !within(ticks, 0, LAST_TICK)) {
            return OUTSIDE;
        }
        walker.begin(stage);
        for (int i = 0; i < ticks; i++) {
            walker.act(walker.choose(rule));
        }
        if (plate == -1) {
            return walker.on.settings[MAN];
        }
        if (plate == -2) {
            return walker.goal < 0 ? NONE : walker.goal;
        }
        return walker.on.turns[plate];
    }

    public int round(int rule, int what) {
        if (!isRule(rule) || !within(what, 0, 1)) {
            return OUTSIDE;
        }
        if (stage.standing() == 0) {
            return STATE;
        }
        walker.begin(stage);
        int first = walker.goUntilItComesAgain(rule);
        if (first < 0) {
            return NONE;
        }
        return what == 0 ? first : walker.ticks - first;
    }

    public int sticks(int rule, int i) {
        if (!isRule(rule)) {
            return OUTSIDE;
        }
        if (stage.standing() == 0) {
            return STATE;
        }
        // The document tells no range for i: where there is no plate, below or beyond, there is none.
        if (i != -1 && !stage.has(i)) {
            return NONE;
        }
        best.find(stage, walker, rule);
        return i == -1 ? orNone(best.lasting) : best.order[i];
    }

    // ---- 3 exactly

    public int kept() {
        int here = ways.take(stage);
        if (here < 0) {
            return STATE;
        }
        ways.openPage();
        return ways.measure(here) == AllWays.EVER ? 1 : 0;
    }

    public int longest() {
        int here = ways.take(stage);
        if (here < 0) {
            return STATE;
        }
        ways.openPage();
        int most = ways.measure(here);
        return most == AllWays.EVER ? NONE : most;
    }

    public int step() {
        int here = ways.take(stage);
        if (here < 0) {
            return STATE;
        }
        int thing = ways.bestThing(here);
        return thing < 0 ? NONE : thing;
    }

    public int bow(int n) {
        if (!within(n, 1, 9)) {
            return OUTSIDE;
        }
        int here = ways.take(stage);
        if (here < 0) {
            return STATE;
        }
        int ticks = ways.soonestBow(here, n);
        return ticks < 0 ? NONE : ticks;
    }

    public int gasps(int n, int what) {
        if (!within(n, 1, 30) || !within(what, 0, 1)) {
            return OUTSIDE;
        }
        int here = ways.take(stage);
        if (here < 0) {
            return STATE;
        }
        int worth = ways.mostWorth(here, n);
        if (worth < 0) {
            return NONE;
        }
        return what == 0 ? AllWays.gaspsOf(worth) : AllWays.firstThingOf(worth);
    }

    public int load(int part) {
        if (!within(part, 0, 1)) {
            return OUTSIDE;
        }
        int upper = 0;
        for (int p = 0; p < stage.count; p++) {
            if (stage.turns[p] > 0) {
                upper += stage.falls[p];
            }
        }
        int lower = stage.settings[GIVES];
        int common = commonDivisor(upper, lower);
        if (common < 1) {
            return part;
        }
        return (part == 0 ? upper : lower) / common;
    }

    // ---- 4 setting up, films

    public int setUp(int order) {
        if (order < 0) {
            return OUTSIDE;
        }
        if (stage.count == 0) {
            return STATE;
        }
        if (!settingUp.readOrder(order, stage.count)) {
            return OUTSIDE;
        }
        return settingUp.leastTurn(stage);
    }

    public int bestOrder() {
        if (stage.count == 0) {
            return STATE;
        }
        int number = settingUp.findBest(stage);
        return number < 0 ? NONE : number;
    }

    public int film(int rule) {
        if (!isRule(rule)) {
            return OUTSIDE;
        }
        if (pad.firstFault() >= 0) {
            return NO;
        }
        return ticksLike(rule, pad.read());
    }

    public int whose() {
        if (pad.firstFault() >= 0) {
            return NO;
        }
        int all = pad.read();
        int most = -1;
        int his = 0;
        for (int rule = 0; rule < RULES; rule++) {
            int like = ticksLike(rule, all);
            if (like > most) {
                most = like;
                his = rule;
            }
        }
        return his;
    }

    public int image(int n) {
        if (!within(n, 0, IMAGES - 1)) {
            return OUTSIDE;
        }
        if (images[n] == null) {
            images[n] = new Stage();
        }
        images[n].copyFrom(stage);
        return 1;
    }

    public int restore(int n) {
        if (!within(n, 0, IMAGES - 1)) {
            return OUTSIDE;
        }
        if (images[n] == null) {
            return STATE;
        }
        stage.copyFrom(images[n]);
        return 1;
    }

    public int told(int what) {
        switch (what) {
            case 0: return stage.count;
            case 1: return pad.length;
            case 2: return stage.standing();
            default: return within(what, 3, 2 + SETTINGS) ? stage.settings[what - 3] : OUTSIDE;
        }
    }

    // ---- small helpers

    private static boolean within(int v, int least, int most) {
        return v >= least && v <= most;
    }

    private static boolean isRule(int rule) {
        return within(rule, 0, RULES - 1);
    }

    private static int orNone(int ticks) {
        return ticks > LAST_TICK ? NONE : ticks;
    }

    private static int commonDivisor(int a, int b) {
        int x = a;
        int y = b;
        // Euclid's numbers are far below 2^16 here, so 32 turns are more than it can take.
        for (int i = 0; i < 32 && y > 0; i++) {
            int rest = x % y;
            x = y;
            y = rest;
        }
        return x;
    }

    /** Goes on to the next order of the first n numbers, as numbers grow; false behind the last one. */
    private static boolean nextOrder(int[] order, int n) {
        int i = n - 2;
        while (i >= 0 && order[i] > order[i + 1]) {
            i--;
        }
        if (i < 0) {
            return false;
        }
        int j = n - 1;
        while (j > i && order[j] < order[i]) {
            j--;
        }
        swap(order, i, j);
        for (int left = i + 1, right = n - 1; left < right; left++, right--) {
            swap(order, left, right);
        }
        return true;
    }

    private static void swap(int[] row, int i, int j) {
        int kept = row[i];
        row[i] = row[j];
        row[j] = kept;
    }

    private static void firstOrder(int[] order) {
        for (int i = 0; i < order.length; i++) {
            order[i] = i;
        }
    }

    /** LIKE: the walker has goals by the rule, but does what the show on the pad does. */
    private int ticksLike(int rule, int all) {
        walker.begin(stage);
        int like = 0;
        for (int i = 0; i < all && walker.on.can(pad.things[i]); i++) {
            if (walker.choose(rule) == pad.things[i]) {
                like++;
            }
            walker.act(pad.things[i]);
        }
        return like;
    }

    /** The plates, the man and what set() sets: all that an image keeps. */
    private static final class Stage {
        int count;
        final int[] places = new int[MOST_PLATES];
        final int[] fulls = new int[MOST_PLATES];
        final int[] falls = new int[MOST_PLATES];
        final int[] turns = new int[MOST_PLATES];
        final int[] settings = SETTING_FIRST.clone();

        void copyFrom(Stage other) {
            count = other.count;
            System.arraycopy(other.places, 0, places, 0, MOST_PLATES);
            System.arraycopy(other.fulls, 0, fulls, 0, MOST_PLATES);
            System.arraycopy(other.falls, 0, falls, 0, MOST_PLATES);
            System.arraycopy(other.turns, 0, turns, 0, MOST_PLATES);
            System.arraycopy(other.settings, 0, settings, 0, SETTINGS);
        }

        boolean has(int plate) {
            return plate >= 0 && plate < count;
        }

        int add(int place, int full, int fallsBy) {
            int number = count;
            places[number] = place;
            fulls[number] = full;
            falls[number] = fallsBy;
            turns[number] = full;
            count++;
            return number;
        }

        /** The plate at a place, fallen or not; -1: none. */
        int plateOn(int place) {
            for (int p = 0; p < count; p++) {
                if (places[p] == place) {
                    return p;
                }
            }
            return -1;
        }

        boolean can(int thing) {
            int man = settings[MAN];
            switch (thing) {
                case STAY: return true;
                case LEFT: return man > 0;
                case RIGHT: return man < LAST_PLACE;
                default:
                    int plate = plateOn(man);
                    return plate >= 0 && turns[plate] > 0;
            }
        }

        /** One tick with a thing that can be done. */
        void act(int thing) {
            move(thing);
            runDown();
        }

        /** What the man does in a tick, ahead of the running down. */
        void move(int thing) {
            if (thing == LEFT) {
                settings[MAN]--;
            } else if (thing == RIGHT) {
                settings[MAN]++;
            } else if (thing == WIND) {
                int plate = plateOn(settings[MAN]);
                if (plate >= 0) {
                    turns[plate] = Math.min(fulls[plate], turns[plate] + settings[GIVES]);
                }
            }
        }

        void runDown() {
            for (int p = 0; p < count; p++) {
                turns[p] = Math.max(0, turns[p] - falls[p]);
            }
        }

        /** The plates that have not fallen, as bits. */
        int standing() {
            int bits = 0;
            for (int p = 0; p < count; p++) {
                if (turns[p] > 0) {
                    bits |= 1 << p;
                }
            }
            return bits;
        }

        int sumOfTurns() {
            int sum = 0;
            for (int p = 0; p < count; p++) {
                sum += turns[p];
            }
            return sum;
        }

        /** All turns in one number, four bits a plate, so that they are logged and compared at once. */
        int packedTurns() {
            int packed = 0;
            for (int p = 0; p < count; p++) {
                packed |= turns[p] << (4 * p);
            }
            return packed;
        }
    }

    /** The signs of a show, and its ticks once they are read. */
    private static final class Pad {
        static final int MOST_SIGNS = 40;
        static final int LEAST_SIGN = 33, MOST_SIGN = 126;
        /** A thing and its digit are two signs for nine ticks; no other signs are worth more. */
        static final int MOST_TICKS = MOST_SIGNS / 2 * 9;

        int length;
        final int[] signs = new int[MOST_SIGNS];
        final int[] things = new int[MOST_TICKS];

        boolean add(int sign) {
            if (length >= MOST_SIGNS) {
                return false;
            }
            signs[length] = sign;
            length++;
            return true;
        }

        static int thingOf(int sign) {
            switch (sign) {
                case '.': return STAY;
                case '<': return LEFT;
                case '>': return RIGHT;
                case 'w': return WIND;
                default: return -1;
            }
        }

        static boolean isTimes(int sign) {
            return sign >= '2' && sign <= '9';
        }

        /** The place of the first sign that can not stand there; -1: none. */
        int firstFault() {
            boolean behindThing = false;
            for (int i = 0; i < length; i++) {
                if (thingOf(signs[i]) >= 0) {
                    behindThing = true;
                } else if (behindThing && isTimes(signs[i])) {
                    behindThing = false;
                } else {
                    return i;
                }
            }
            return -1;
        }

        /** Writes a show without fault out tick by tick: how many ticks. */
        int read() {
            int ticks = 0;
            for (int i = 0; i < length; i++) {
                int thing = thingOf(signs[i]);
                if (thing < 0) {
                    continue;
                }
                int times = i + 1 < length && isTimes(signs[i + 1]) ? signs[i + 1] - '0' : 1;
                for (int k = 0; k < times && ticks < things.length; k++) {
                    things[ticks] = thing;
                    ticks++;
                }
            }
            return ticks;
        }
    }

    /** The man as he goes by a rule, on a stage of his own. */
    private static final class Walker {
        static final int WORST = 0, NEAR = 1, ROUND = 2;
        static final int NEAR_TURN = 5;

        final Stage on = new Stage();
        int ticks;
        int goal;
        int wound;
        int lastGoal;
        /** All turns as they were so long ago as he sees late. */
        int lateTurns;
        /** Behind each tick: all turns, and the rest of what must come again for a round. */
        final int[] turnsLog = new int[LAST_TICK + 1];
        final int[] manLog = new int[LAST_TICK + 1];

        void begin(Stage from) {
            on.copyFrom(from);
            beginHere();
        }

        void beginHere() {
            ticks = 0;
            goal = -1;
            wound = 0;
            lastGoal = -1;
            writeLog();
        }

        void writeLog() {
            if (ticks <= LAST_TICK) {
                turnsLog[ticks] = on.packedTurns();
                manLog[ticks] = on.settings[MAN] | (goal + 1) << 3 | (lastGoal + 1) << 6 | wound << 9;
            }
        }

        /** The thing that the rule does next; he takes a goal if he needs one. */
        int choose(int rule) {
            if (goal < 0 || on.turns[goal] == 0) {
                goal = takeGoal(rule);
                wound = 0;
                if (goal < 0) {
                    return STAY;
                }
                lastGoal = goal;
            }
            int way = on.places[goal] - on.settings[MAN];
            if (way == 0) {
                return WIND;
            }
            return way < 0 ? LEFT : RIGHT;
        }

        /** One tick with a thing that can be done, be it his rule's or another. */
        void act(int thing) {
            on.move(thing);
            if (thing == WIND && goal >= 0 && on.places[goal] == on.settings[MAN]) {
                wound++;
                if (on.turns[goal] == on.fulls[goal] || wound >= on.settings[PATIENCE]) {
                    goal = -1;
                    wound = 0;
                }
            }
            on.runDown();
            ticks++;
            writeLog();
        }

        int takeGoal(int rule) {
            lateTurns = turnsLog[logged(ticks - on.settings[LAG])];
            switch (rule) {
                case WORST: return worst();
                case NEAR:
                    int nearest = near();
                    return nearest < 0 ? worst() : nearest;
                case ROUND: return nextByNumber();
                default: return leastLeft();
            }
        }

        int worst() {
            int found = -1;
            int least = 0;
            for (int p = 0; p < on.count; p++) {
                if (on.turns[p] > 0 && (found < 0 || seen(p) < least)) {
                    found = p;
                    least = seen(p);
                }
            }
            return found;
        }

        /** The nearest of those that he sees low; -1: none is. */
        int near() {
            int found = -1;
            for (int p = 0; p < on.count; p++) {
                if (on.turns[p] > 0 && seen(p) <= NEAR_TURN && (found < 0 || far(p) < far(found))) {
                    found = p;
                }
            }
            return found;
        }

        int nextByNumber() {
            int p = lastGoal;
            for (int i = 0; i < on.count; i++) {
                p = p + 1 < on.count ? p + 1 : 0;
                if (on.turns[p] > 0) {
                    return p;
                }
            }
            return -1;
        }

        int leastLeft() {
            int found = -1;
            int least = 0;
            for (int p = 0; p < on.count; p++) {
                if (on.turns[p] > 0 && on.falls[p] > 0) {
                    int left = seen(p) / on.falls[p] - far(p);
                    if (found < 0 || left < least) {
                        found = p;
                        least = left;
                    }
                }
            }
            return found;
        }

        int far(int plate) {
            int way = on.places[plate] - on.settings[MAN];
            return way < 0 ? -way : way;
        }

        /** The turn of a plate as he sees it: late, unless it is before him. */
        int seen(int plate) {
            if (on.places[plate] == on.settings[MAN]) {
                return on.turns[plate];
            }
            return lateTurns >> (4 * plate) & 15;
        }

        /** Ahead of the beginning all was as at the beginning. */
        static int logged(int tick) {
            if (tick < 0) {
                return 0;
            }
            return tick > LAST_TICK ? LAST_TICK : tick;
        }

        /** Goes until a plate falls: behind how many ticks; more than the last tick: none falls. */
        int ticksToFirstFall(int rule) {
            int stood = on.standing();
            for (int tick = 1; tick <= LAST_TICK; tick++) {
                act(choose(rule));
                if (on.standing() != stood) {
                    return tick;
                }
            }
            return LAST_TICK + 1;
        }

        /** Goes until all is as it was before: the tick behind which it was so first; -1: one falls, or it never is. */
        int goUntilItComesAgain(int rule) {
            int stood = on.standing();
            for (int tick = 1; tick <= LAST_TICK; tick++) {
                act(choose(rule));
                if (on.standing() != stood) {
                    return -1;
                }
                for (int earlier = 0; earlier < tick; earlier++) {
                    if (alike(earlier, tick)) {
                        return earlier;
                    }
                }
            }
            return -1;
        }

        boolean alike(int t, int u) {
            if (manLog[t] != manLog[u]) {
                return false;
            }
            for (int back = 0; back <= on.settings[LAG]; back++) {
                if (turnsLog[logged(t - back)] != turnsLog[logged(u - back)]) {
                    return false;
                }
            }
            return true;
        }
    }

    /** The order of the plates on the places with which a rule lasts longest. */
    private static final class Sticks {
        int lasting;
        final int[] order = new int[MOST_PLATES];
        private final int[] tried = new int[MOST_PLATES];
        private final int[] fromLeft = new int[MOST_PLATES];

        void find(Stage stage, Walker walker, int rule) {
            int n = stage.count;
            sortPlaces(stage);
            firstOrder(tried);
            lasting = -1;
            boolean more = true;
            // No order lasts longer than one by which none falls, so the first such ends the search.
            for (int i = 0; i < MOST_ORDERS && more && lasting <= LAST_TICK; i++) {
                walker.on.copyFrom(stage);
                for (int k = 0; k < n; k++) {
                    walker.on.places[tried[k]] = fromLeft[k];
                }
                walker.beginHere();
                int ticks = walker.ticksToFirstFall(rule);
                if (ticks > lasting) {
                    lasting = ticks;
                    System.arraycopy(tried, 0, order, 0, MOST_PLATES);
                }
                more = nextOrder(tried, n);
            }
        }

        private void sortPlaces(Stage stage) {
            int n = 0;
            for (int place = 0; place <= LAST_PLACE; place++) {
                if (stage.plateOn(place) >= 0 && n < MOST_PLATES) {
                    fromLeft[n] = place;
                    n++;
                }
            }
        }
    }

    /** Orders in which all plates are set up. */
    private static final class SettingUp {
        private final int[] order = new int[MOST_PLATES];
        /** The tick at whose end each plate of the order is up. */
        private final int[] upAt = new int[MOST_PLATES];

        /** Takes an order from its digits; false: it has not each of n plates once. */
        boolean readOrder(int number, int n) {
            int rest = number;
            int had = 0;
            for (int i = n - 1; i >= 0; i--) {
                int plate = rest % 10;
                rest /= 10;
                if (plate >= n || (had >> plate & 1) == 1) {
                    return false;
                }
                had |= 1 << plate;
                order[i] = plate;
            }
            return rest == 0;
        }

        /** LEAST of the order that was taken; 0: one has fallen. */
        int leastTurn(Stage stage) {
            int n = stage.count;
            int man = stage.settings[MAN];
            int now = 0;
            for (int i = 0; i < n; i++) {
                int place = stage.places[order[i]];
                now += Math.abs(place - man) + stage.settings[SETS];
                man = place;
                upAt[i] = now;
            }
            int least = MOST_FULL;
            for (int i = 0; i < n; i++) {
                int plate = order[i];
                least = Math.min(least, stage.fulls[plate] - stage.falls[plate] * (now - upAt[i]));
            }
            return Math.max(0, least);
        }

        /** BEST ORDER as a number; -1: one falls by each. */
        int findBest(Stage stage) {
            firstOrder(order);
            int greatest = 0;
            int found = -1;
            boolean more = true;
            for (int i = 0; i < MOST_ORDERS && more; i++) {
                int least = leastTurn(stage);
                if (least > greatest) {
                    greatest = least;
                    found = asNumber(stage.count);
                }
                more = nextOrder(order, stage.count);
            }
            return found;
        }

        private int asNumber(int n) {
            int number = 0;
            for (int i = 0; i < n; i++) {
                number = number * 10 + order[i];
            }
            return number;
        }
    }

    /**
     * All ways of one to three plates. A position is one number: three bits for the man's place,
     * then four for the turn of each plate; only positions in which all stand are ever reached.
     */
    private static final class AllWays {
        static final int MOST = 3;
        static final int POSITIONS = 1 << (3 + 4 * MOST);
        static final int EVER = 65535;
        private static final int OPEN = 1 << 16, PAGE = 1 << 17, LAST_PAGE = 16000;
        /** A position is looked at once for each of four things and once more to be left. */
        private static final int MOST_WORK = 5 * POSITIONS;
        private static final int GASP_TURN = 3;

        private int count;
        private int gives;
        private final int[] fulls = new int[MOST];
        private final int[] falls = new int[MOST];
        private final int[] onPlace = new int[LAST_PLACE + 1];

        /** A mark holds the page on which it was written: a new page needs no wiping. */
        private int page;
        private int[] marks;
        private int[] list;
        private int[] otherList;

        /** Takes the plates that have not fallen: the position, -1 if they are not 1 to 3. */
        int take(Stage stage) {
            int stand = Integer.bitCount(stage.standing());
            if (stand < 1 || stand > MOST) {
                return -1;
            }
            Arrays.fill(onPlace, -1);
            gives = stage.settings[GIVES];
            count = 0;
            int position = stage.settings[MAN];
            for (int p = 0; p < stage.count && count < MOST; p++) {
                if (stage.turns[p] > 0) {
                    fulls[count] = stage.fulls[p];
                    falls[count] = stage.falls[p];
                    onPlace[stage.places[p]] = count;
                    position |= stage.turns[p] << shiftOf(count);
                    count++;
                }
            }
            makeRows();
            return position;
        }

        private static int shiftOf(int plate) {
            return 3 + 4 * plate;
        }

        /** The rows are large, so they are made only for an object that is asked exactly, and only once. */
        private void makeRows() {
            if (marks == null) {
                marks = new int[POSITIONS];
                list = new int[POSITIONS];
                otherList = new int[POSITIONS];
            }
        }

        void openPage() {
            page++;
            if (page >= LAST_PAGE) {
                Arrays.fill(marks, 0);
                page = 1;
            }
        }

        private boolean isMarked(int position) {
            return marks[position] / PAGE == page;
        }

        private void mark(int position, int value) {
            marks[position] = page * PAGE + value;
        }

        private int valueOf(int position) {
            return marks[position] & 65535;
        }

        private boolean isOpen(int position) {
            return (marks[position] & OPEN) != 0;
        }

        /** The position behind a tick; -1: the thing can not be done, or a plate falls. */
        private int after(int position, int thing) {
            int man = position & 7;
            int winds = -1;
            if (thing == LEFT) {
                man--;
            } else if (thing == RIGHT) {
                man++;
            } else if (thing == WIND) {
                winds = onPlace[man];
                if (winds < 0) {
                    return -1;
                }
            }
            if (man < 0 || man > LAST_PLACE) {
                return -1;
            }
            int to = man;
            for (int p = 0; p < count; p++) {
                int turn = position >> shiftOf(p) & 15;
                if (p == winds) {
                    turn = Math.min(fulls[p], turn + gives);
                }
                turn -= falls[p];
                if (turn <= 0) {
                    return -1;
                }
                to |= turn << shiftOf(p);
            }
            return to;
        }

        /**
         * LONGEST from a position, or EVER. It goes deep, with the path on the list (each with the thing
         * that is next): a position that is met again on its own path can be come back to for ever.
         */
        int measure(int from) {
            if (isMarked(from)) {
                return valueOf(from);
            }
            mark(from, OPEN);
            list[0] = from << 3;
            int depth = 1;
            for (int work = 0; depth > 0 && work < MOST_WORK; work++) {
                int position = list[depth - 1] >> 3;
                int thing = list[depth - 1] & 7;
                if (thing > WIND) {
                    depth--;
                    mark(position, valueOf(position));
                    if (depth > 0) {
                        raise(list[depth - 1] >> 3, valueOf(position) + 1);
                    }
                    continue;
                }
                list[depth - 1]++;
                int to = after(position, thing);
                if (to < 0) {
                    continue;
                }
                if (!isMarked(to)) {
                    mark(to, OPEN);
                    depth = put(depth, to << 3);
                } else if (isOpen(to) || valueOf(to) == EVER) {
                    return markPath(depth);
                } else {
                    raise(position, valueOf(to) + 1);
                }
            }
            return valueOf(from);
        }

        /** Puts an entry behind so many of the list; each position comes there once, so it has room. */
        private int put(int size, int entry) {
            if (size >= list.length) {
                return size;
            }
            list[size] = entry;
            return size + 1;
        }

        private void raise(int position, int value) {
            if (value > valueOf(position)) {
                mark(position, OPEN | value);
            }
        }

        private int markPath(int depth) {
            for (int i = 0; i < depth; i++) {
                mark(list[i] >> 3, EVER);
            }
            return EVER;
        }

        /** STEP; -1: one falls by each thing. EVER is above every number of ticks, so the greatest is it. */
        int bestThing(int from) {
            openPage();
            int found = -1;
            int most = -1;
            for (int thing = STAY; thing <= WIND; thing++) {
                int to = after(from, thing);
                int ticks = to < 0 ? -1 : measure(to);
                if (ticks > most) {
                    most = ticks;
                    found = thing;
                }
            }
            return found;
        }

        /** BOW: it goes wide from the position, tick by tick; -1: never. */
        int soonestBow(int from, int n) {
            openPage();
            mark(from, 0);
            list[0] = from;
            int begin = 0;
            int end = 1;
            for (int ticks = 0; begin < end && ticks < POSITIONS; ticks++) {
                int filled = end;
                for (int i = begin; i < end; i++) {
                    if (bears(list[i], n)) {
                        return ticks;
                    }
                    filled = addUnseen(list[i], filled);
                }
                begin = end;
                end = filled;
            }
            return -1;
        }

        private boolean bears(int position, int n) {
            for (int p = 0; p < count; p++) {
                if ((position >> shiftOf(p) & 15) <= n * falls[p]) {
                    return false;
                }
            }
            return true;
        }

        private int addUnseen(int position, int end) {
            int filled = end;
            for (int thing = STAY; thing <= WIND; thing++) {
                int to = after(position, thing);
                if (to >= 0 && !isMarked(to)) {
                    mark(to, 0);
                    filled = put(filled, to);
                }
            }
            return filled;
        }

        static int gaspsOf(int worth) {
            return worth >> 2;
        }

        static int firstThingOf(int worth) {
            return WIND - (worth & 3);
        }

        /**
         * The greatest worth of any way of n ticks; -1: there is none. A worth is four times the gasps and
         * how far the first thing is below WIND, so that of like gasps the least first thing is worth most.
         */
        int mostWorth(int from, int n) {
            int[] now = list;
            int[] next = otherList;
            now[0] = from;
            int size = 1;
            for (int tick = 0; tick < n; tick++) {
                openPage();
                int made = 0;
                for (int i = 0; i < size; i++) {
                    int position = now[i] & (POSITIONS - 1);
                    int worth = now[i] / POSITIONS;
                    for (int thing = STAY; thing <= WIND; thing++) {
                        int to = after(position, thing);
                        if (to >= 0) {
                            int first = tick == 0 ? WIND - thing : 0;
                            made = keepBest(next, made, to, worth + first + 4 * gaspsAt(to));
                        }
                    }
                }
                int[] used = now;
                now = next;
                next = used;
                size = made;
            }
            int most = -1;
            for (int i = 0; i < size; i++) {
                most = Math.max(most, now[i] / POSITIONS);
            }
            return most;
        }

        /** Puts a position with its worth into a row of so many, where each stands once: how many then. */
        private int keepBest(int[] row, int size, int position, int worth) {
            int entry = worth * POSITIONS + position;
            if (!isMarked(position) && size < row.length) {
                mark(position, size);
                row[size] = entry;
                return size + 1;
            }
            int index = valueOf(position);
            if (index < size) {
                row[index] = Math.max(row[index], entry);
            }
            return size;
        }

        private int gaspsAt(int position) {
            int gasping = 0;
            for (int p = 0; p < count; p++) {
                if ((position >> shiftOf(p) & 15) <= GASP_TURN) {
                    gasping++;
                }
            }
            return gasping;
        }
    }
}
