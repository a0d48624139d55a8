import java.util.Arrays;

/**
 * A town told as a text, and the dark that its gatekeepers let in: when it comes where, and what
 * bars, holds, mud and strangers make of it.
 */
public final class DarkGate {
    public static final int NONE = -1;

    private static final int NO_SUCH = -2;
    private static final int BELOW_NOTHING = -3;
    private static final int FAULTY = -4;
    private static final int NOT_NOW = -5;
    private static final int HAS_NOTHING = -6;
    private static final int BEYOND = -7;
    private static final int UNLIKE = -8;

    private static final int MOST_STREETS = 8;
    private static final int MOST_LANES = 10;
    private static final int MOST_GATES = 4;
    private static final int MOST_HOUSES = 6;
    private static final int MOST_STRANGERS = 2;
    private static final int MOST_ACTS = 40;
    private static final int LANE_SETS = 1 << MOST_LANES;
    private static final int STREET_SETS = 1 << MOST_STREETS;

    private static final int MOST_BYTES = 1000;
    private static final int FED_BYTES = 20;

    private static final int MOST_HOLD = 99;
    private static final int HOLDS = 100;
    private static final int LAST_MINUTE = 999;
    private static final int MINUTES = 1000;
    private static final int MOST_SEED = 2000000000;

    /** Later than any minute in which dark can come, and far from where an int ends. */
    private static final int NEVER = 1000000;

    private static final int IMAGES = 3;

    private final Tape tape = new Tape();
    private Town town = new Town();
    private final Town[] images = {new Town(), new Town(), new Town()};
    private int imaged = 0;
    private final Rows rows = new Rows();
    private final Dark dark = new Dark();
    private final Dark other = new Dark();
    private final Owners owners = new Owners();
    private final Plans plans = new Plans();
    private final Holders holders = new Holders();
    private final Places sites = new Places();
    private final Packing packing = new Packing();
    private final Mud mud = new Mud();

    public DarkGate() {
    }

    public int feed(int a, int b, int c, int d, int e) {
        if (!tape.hasRoom()) {
            return NONE;
        }
        tape.append(a);
        tape.append(b);
        tape.append(c);
        tape.append(d);
        tape.append(e);
        return tape.size;
    }

    public int end(int n) {
        if (n < 0 || n > tape.size) {
            return NONE;
        }
        tape.size = n;
        return n;
    }

    public int town() {
        if (!tape.reads()) {
            return FAULTY;
        }
        Town before = town;
        town = tape.draft;
        tape.draft = before;
        tape.size = 0;
        return town.lines;
    }

    public int fault(int what) {
        return what == 0 ? tape.fault : what == 1 ? tape.place : NONE;
    }

    public int lane(int lane, int what) {
        if (!isLane(lane)) {
            return NO_SUCH;
        }
        switch (what) {
            case 0:
                return town.laneFrom[lane];
            case 1:
                return town.laneTo[lane];
            case 2:
                return town.takes[lane];
            case 3:
                return town.muddy[lane];
            case 4:
                return town.barred >> lane & 1;
            default:
                return NO_SUCH;
        }
    }

    public int gate(int gate, int what) {
        if (!isGate(gate)) {
            return NO_SUCH;
        }
        return what == 0 ? town.gateAt[gate] : what == 1 ? town.gateHolds[gate] : NO_SUCH;
    }

    public int house(int house, int what) {
        if (!isHouse(house)) {
            return NO_SUCH;
        }
        switch (what) {
            case 0:
                return town.houseAt[house];
            case 1:
                return town.wants[house];
            case 2:
                return town.pays[house];
            case 3:
                return town.loads[house];
            default:
                return NO_SUCH;
        }
    }

    public int comes(int street) {
        if (!isStreet(street)) {
            return NO_SUCH;
        }
        dark.fallNow(town);
        return minuteOrNone(dark.at[street]);
    }

    public int from(int street) {
        if (!isStreet(street)) {
            return NO_SUCH;
        }
        dark.fallNow(town);
        int minute = dark.at[street];
        if (minute >= NEVER) {
            return NONE;
        }
        for (int gate = 0; gate < town.gates; gate++) {
            other.fallFrom(town, town.gateAt[gate], town.gateHolds[gate]);
            if (other.at[street] == minute) {
                return gate;
            }
        }
        return NONE;
    }

    public int by(int street) {
        if (!isStreet(street)) {
            return NO_SUCH;
        }
        dark.fallNow(town);
        return dark.laneInto(town, street);
    }

    public int light(int minute) {
        if (hasNoTown() || !isMinute(minute)) {
            return NO_SUCH;
        }
        dark.fallNow(town);
        int bits = 0;
        for (int street = 0; street < town.streets; street++) {
            if (dark.at[street] > minute) {
                bits |= 1 << street;
            }
        }
        return bits;
    }

    public int full() {
        if (hasNoTown()) {
            return NO_SUCH;
        }
        dark.fallNow(town);
        return minuteOrNone(dark.latest(town));
    }

    public int last() {
        if (hasNoTown()) {
            return NO_SUCH;
        }
        dark.fallNow(town);
        int found = NONE;
        int latest = NONE;
        for (int street = 0; street < town.streets; street++) {
            int minute = dark.at[street];
            if (minute < NEVER && minute > latest) {
                latest = minute;
                found = street;
            }
        }
        return found;
    }

    public int idle() {
        if (hasNoTown()) {
            return NO_SUCH;
        }
        dark.fallNow(town);
        int bits = 0;
        for (int lane = 0; lane < town.lanes; lane++) {
            if (isOpen(lane)) {
                other.fall(town, town.openLanes() & ~(1 << lane), 0);
                bits |= other.isLike(dark, town.streets) ? 1 << lane : 0;
            }
        }
        return bits;
    }

    public int harm(int lane) {
        if (!isLane(lane) || !isOpen(lane)) {
            return NO_SUCH;
        }
        dark.fallNow(town);
        other.fall(town, town.openLanes() & ~(1 << lane), 0);
        int minutes = 0;
        for (int street = 0; street < town.streets; street++) {
            if (dark.at[street] < NEVER) {
                minutes += Math.min(other.at[street], MINUTES) - dark.at[street];
            }
        }
        return minutes;
    }

    public int whose(int street) {
        if (!isStreet(street)) {
            return NO_SUCH;
        }
        owners.settle(town);
        return owners.owner[street];
    }

    public int owns(int who) {
        if (hasNoTown() || who < 0 || who > town.strangers) {
            return NO_SUCH;
        }
        owners.settle(town);
        int bits = 0;
        for (int street = 0; street < town.streets; street++) {
            if (owners.owner[street] == who) {
                bits |= 1 << street;
            }
        }
        return bits;
    }

    public int front() {
        if (hasNoTown()) {
            return NO_SUCH;
        }
        owners.settle(town);
        int bits = 0;
        for (int lane = 0; lane < town.lanes; lane++) {
            if (isOpen(lane) && owners.partedBy(town, lane)) {
                bits |= 1 << lane;
            }
        }
        return bits;
    }

    public int late(int street) {
        if (!isStreet(street)) {
            return NO_SUCH;
        }
        owners.settle(town);
        if (owners.owner[street] != 0) {
            return NONE;
        }
        return Math.min(LAST_MINUTE, owners.strangersAt[street] - owners.darkAt(street));
    }

    public int glad(int house) {
        if (!isHouse(house)) {
            return NO_SUCH;
        }
        dark.fallNow(town);
        return dark.gladOf(town, house);
    }

    public int all() {
        if (hasNoTown()) {
            return NO_SUCH;
        }
        dark.fallNow(town);
        return dark.gladOfAll(town);
    }

    public int steps(int street) {
        if (!isStreet(street)) {
            return NO_SUCH;
        }
        dark.fallNow(town);
        return dark.at[street] >= NEVER ? NONE : Integer.bitCount(dark.wayTo(town, street));
    }

    public int have(int minute) {
        if (hasNoTown() || !isMinute(minute)) {
            return NO_SUCH;
        }
        dark.fallNow(town);
        int bits = 0;
        for (int house = 0; house < town.houses; house++) {
            if (dark.at[town.houseAt[house]] <= minute) {
                bits |= 1 << house;
            }
        }
        return bits;
    }

    public int gladdest() {
        if (hasNoTown()) {
            return NO_SUCH;
        }
        dark.fallNow(town);
        int found = NONE;
        int most = 0;
        for (int house = 0; house < town.houses; house++) {
            int given = dark.gladOf(town, house);
            if (given > most) {
                most = given;
                found = house;
            }
        }
        return found;
    }

    public int best(int k) {
        if (hasNoTown() || !isFewLanes(k)) {
            return NO_SUCH;
        }
        plans.turnLanes(town, town.openLanes(), k);
        return plans.greatest;
    }

    public int bars(int k) {
        if (hasNoTown() || !isFewLanes(k)) {
            return NO_SUCH;
        }
        plans.turnLanes(town, town.openLanes(), k);
        return plans.found;
    }

    public int opens(int k) {
        if (hasNoTown() || !isFewLanes(k)) {
            return NO_SUCH;
        }
        plans.turnLanes(town, town.barred, k);
        return plans.greatest;
    }

    public int cut(int street, int minute) {
        if (!isStreet(street) || !isCutMinute(minute)) {
            return NO_SUCH;
        }
        int set = plans.leastCut(town, street, minute);
        return set == NONE ? NONE : Integer.bitCount(set);
    }

    public int cuts(int street, int minute) {
        if (!isStreet(street) || !isCutMinute(minute)) {
            return NO_SUCH;
        }
        return plans.leastCut(town, street, minute);
    }

    public int hold(int gate, int street, int minute) {
        if (!isGate(gate) || !isStreet(street) || !isMinute(minute)) {
            return NO_SUCH;
        }
        holders.learnGate(town, gate);
        for (int n = 0; n < HOLDS; n++) {
            if (holders.minuteWith(gate, n, street) >= minute) {
                return n;
            }
        }
        return NONE;
    }

    public int asks(int gate) {
        if (!isGate(gate)) {
            return NO_SUCH;
        }
        return holders.gladdestHold(town, gate);
    }

    public int brings(int gate) {
        if (!isGate(gate)) {
            return NO_SUCH;
        }
        return holders.gladWith(town, gate, holders.gladdestHold(town, gate));
    }

    public int fits(int slot) {
        int refused = refusedSlot(slot);
        if (refused != 0) {
            return refused;
        }
        holders.match(town, rows, slot);
        return holders.fitting;
    }

    public int held(int slot) {
        int refused = refusedSlot(slot);
        if (refused != 0) {
            return refused;
        }
        holders.match(town, rows, slot);
        int bits = 0;
        for (int gate = 0; gate < town.gates; gate++) {
            if (holders.leastFitting(gate) != NONE) {
                bits |= 1 << gate;
            }
        }
        return bits;
    }

    public int fit(int slot, int gate) {
        if (!isGate(gate)) {
            return NO_SUCH;
        }
        int refused = refusedSlot(slot);
        if (refused != 0) {
            return refused;
        }
        holders.match(town, rows, slot);
        return holders.leastFitting(gate);
    }

    public int ask(int slot) {
        int refused = refusedSlot(slot);
        if (refused != 0) {
            return refused;
        }
        holders.match(town, rows, slot);
        return holders.tellingStreet(town);
    }

    public int leaves(int slot) {
        int street = ask(slot);
        if (street < NONE) {
            return street;
        }
        return street == NONE ? holders.fitting : holders.leftAtWorst(town, street);
    }

    public int place(int k) {
        if (hasNoTown() || !isGates(k)) {
            return NO_SUCH;
        }
        sites.search(town, k);
        return minuteOrNone(sites.soonestFull);
    }

    public int places(int k) {
        if (hasNoTown() || !isGates(k)) {
            return NO_SUCH;
        }
        sites.search(town, k);
        return sites.soonestSet;
    }

    public int soon(int k) {
        if (hasNoTown() || !isGates(k)) {
            return NO_SUCH;
        }
        sites.search(town, k);
        return minuteOrNone(sites.leastSum);
    }

    public int carts(int size) {
        if (hasNoTown() || !isCartSize(size)) {
            return NO_SUCH;
        }
        return packing.fewest(town, size);
    }

    public int cart(int size, int i) {
        if (hasNoTown() || !isCartSize(size)) {
            return NO_SUCH;
        }
        int used = packing.fewest(town, size);
        return i < 0 || i >= used ? NONE : packing.housesIn(town, i);
    }

    public int wins() {
        return hasNoTown() ? NO_SUCH : town.dearestBut(NONE);
    }

    public int price() {
        if (hasNoTown()) {
            return NO_SUCH;
        }
        int winner = town.dearestBut(NONE);
        if (winner == NONE) {
            return NONE;
        }
        int second = town.dearestBut(winner);
        return isHouse(second) ? town.pays[second] : 0;
    }

    public int rests() {
        if (hasNoTown()) {
            return NO_SUCH;
        }
        plans.weighClerk(town);
        return plans.restingPairs(town);
    }

    public int clerk() {
        if (hasNoTown()) {
            return NO_SUCH;
        }
        plans.weighClerk(town);
        return plans.clerksGate(town);
    }

    public long chance(int street, int minute, int what) {
        if (!isStreet(street) || !isMinute(minute) || what < 0 || what > 1) {
            return NO_SUCH;
        }
        mud.weighStreet(town, street);
        return mud.chanceBy(minute, what == 1);
    }

    public int sure(int street, int n) {
        if (!isStreet(street) || n < 0 || n > 100) {
            return NO_SUCH;
        }
        mud.weighStreet(town, street);
        return mud.leastMinute(n);
    }

    public int bar(int lane, int is) {
        if (!isLane(lane) || is < 0 || is > 1) {
            return NO_SUCH;
        }
        if (town.acts.done >= MOST_ACTS) {
            return NOT_NOW;
        }
        int was = town.barred >> lane & 1;
        town.acts.keep(Acts.BARRED, lane, was);
        town.setBarred(lane, is);
        return was;
    }

    public int holds(int gate, int n) {
        if (!isGate(gate) || n < 0 || n > MOST_HOLD) {
            return NO_SUCH;
        }
        if (town.acts.done >= MOST_ACTS) {
            return NOT_NOW;
        }
        int was = town.gateHolds[gate];
        town.acts.keep(Acts.HELD, gate, was);
        town.gateHolds[gate] = n;
        return was;
    }

    public int undo() {
        if (hasNoTown()) {
            return NO_SUCH;
        }
        if (town.acts.done == 0) {
            return NOT_NOW;
        }
        town.takeBack();
        return town.acts.done;
    }

    public int anew() {
        if (hasNoTown()) {
            return NO_SUCH;
        }
        int were = town.acts.done;
        for (int i = 0; i < were; i++) {
            town.takeBack();
        }
        return were;
    }

    public int drawn(int seed, int what) {
        if (hasNoTown() || !isSeed(seed) || what < 0 || what > 1) {
            return NO_SUCH;
        }
        int wet = Mud.evening(town, seed);
        if (what == 0) {
            return wet;
        }
        dark.fall(town, town.openLanes(), wet);
        return minuteOrNone(dark.latest(town));
    }

    public int luck(int seed, int n, int street, int minute) {
        if (!isSeed(seed) || n < 1 || n > 20 || !isStreet(street) || !isMinute(minute)) {
            return NO_SUCH;
        }
        int lucky = 0;
        for (int i = 0; i < n; i++) {
            dark.fall(town, town.openLanes(), Mud.evening(town, (long) seed + i));
            lucky += dark.at[street] <= minute ? 1 : 0;
        }
        return lucky;
    }

    public int tell(int house, int what, int n) {
        if (!isHouse(house) || what < 1 || what > 2 || !isMinute(n)) {
            return NO_SUCH;
        }
        if (town.acts.done > 0) {
            return NOT_NOW;
        }
        int[] told = what == 1 ? town.wants : town.pays;
        int was = told[house];
        told[house] = n;
        return was;
    }

    public int count(int what) {
        switch (what) {
            case 0:
                return town.streets;
            case 1:
                return town.lanes;
            case 2:
                return town.gates;
            case 3:
                return town.houses;
            case 4:
                return town.strangers;
            case 5:
                return town.acts.done;
            case 6:
                return town.lines;
            case 7:
                return tape.size;
            case 8:
                return rows.standing();
            default:
                return NONE;
        }
    }

    public int image(int k) {
        if (k < 0 || k >= IMAGES) {
            return NO_SUCH;
        }
        images[k].become(town);
        imaged |= 1 << k;
        return 0;
    }

    public int back(int k) {
        if (k < 0 || k >= IMAGES) {
            return NO_SUCH;
        }
        if ((imaged >> k & 1) == 0) {
            return HAS_NOTHING;
        }
        town.become(images[k]);
        return 0;
    }

    public int row(int slot, int width, int n) {
        if (!Rows.isSlot(slot) || width < 0 || width > Rows.MOST_WIDTH || n > Rows.MOST_NUMBERS) {
            return NO_SUCH;
        }
        if (n < 0) {
            return BELOW_NOTHING;
        }
        rows.make(slot, width, n);
        return 0;
    }

    public int write(int slot, int i, long v) {
        if (!Rows.isSlot(slot)) {
            return NO_SUCH;
        }
        if (!rows.stands(slot)) {
            return HAS_NOTHING;
        }
        if (i < 0 || i >= rows.length(slot)) {
            return BEYOND;
        }
        rows.put(slot, i, v);
        return 0;
    }

    public int paste(int slot, int i, int to, int k, int n) {
        if (!Rows.isSlot(slot) || !Rows.isSlot(to)) {
            return NO_SUCH;
        }
        if (!rows.stands(slot) || !rows.stands(to)) {
            return HAS_NOTHING;
        }
        if (!rows.areAlike(slot, to)) {
            return UNLIKE;
        }
        if (!rows.reaches(slot, i, n) || !rows.reaches(to, k, n)) {
            return BEYOND;
        }
        rows.copyPart(slot, i, to, k, n);
        return 0;
    }

    private boolean hasNoTown() {
        return town.streets == 0;
    }

    private boolean isStreet(int street) {
        return street >= 0 && street < town.streets;
    }

    private boolean isLane(int lane) {
        return lane >= 0 && lane < town.lanes;
    }

    private boolean isOpen(int lane) {
        return (town.barred >> lane & 1) == 0;
    }

    private boolean isGate(int gate) {
        return gate >= 0 && gate < town.gates;
    }

    private boolean isHouse(int house) {
        return house >= 0 && house < town.houses;
    }

    private static boolean isMinute(int minute) {
        return minute >= 0 && minute <= LAST_MINUTE;
    }

    private static boolean isCutMinute(int minute) {
        return minute >= 0 && minute <= MINUTES;
    }

    private static boolean isFewLanes(int k) {
        return k >= 0 && k <= 3;
    }

    private static boolean isGates(int k) {
        return k >= 1 && k <= MOST_GATES;
    }

    private static boolean isCartSize(int size) {
        return size >= 1 && size <= 99;
    }

    private static boolean isSeed(int seed) {
        return seed >= 0 && seed <= MOST_SEED;
    }

    private static int minuteOrNone(int minute) {
        return minute >= NEVER ? NONE : minute;
    }

    /** 0 if the SLOT's row can be matched. What its numbers are is asked last, as the document says. */
    private int refusedSlot(int slot) {
        if (!Rows.isSlot(slot) || hasNoTown()) {
            return NO_SUCH;
        }
        if (!rows.stands(slot)) {
            return HAS_NOTHING;
        }
        return rows.tellsSights(slot, town.streets) ? 0 : NO_SUCH;
    }

    /** The latest acts, with what each changed, so that they can be taken back. */
    private static final class Acts {
        static final int BARRED = 0;
        static final int HELD = 1;

        int done = 0;
        final int[] kind = new int[MOST_ACTS];
        final int[] which = new int[MOST_ACTS];
        final int[] was = new int[MOST_ACTS];

        void keep(int actKind, int actWhich, int actWas) {
            if (done < MOST_ACTS) {
                kind[done] = actKind;
                which[done] = actWhich;
                was[done] = actWas;
                done++;
            }
        }

        void become(Acts model) {
            done = model.done;
            System.arraycopy(model.kind, 0, kind, 0, MOST_ACTS);
            System.arraycopy(model.which, 0, which, 0, MOST_ACTS);
            System.arraycopy(model.was, 0, was, 0, MOST_ACTS);
        }
    }

    /** A TOWN as it is now; one without streets is none. */
    private static final class Town {
        int streets = 0;
        int lines = 0;
        int lanes = 0;
        final int[] laneFrom = new int[MOST_LANES];
        final int[] laneTo = new int[MOST_LANES];
        final int[] takes = new int[MOST_LANES];
        final int[] muddy = new int[MOST_LANES];
        int barred = 0;
        int gates = 0;
        final int[] gateAt = new int[MOST_GATES];
        final int[] gateHolds = new int[MOST_GATES];
        int houses = 0;
        final int[] houseAt = new int[MOST_HOUSES];
        final int[] wants = new int[MOST_HOUSES];
        final int[] pays = new int[MOST_HOUSES];
        final int[] loads = new int[MOST_HOUSES];
        int strangers = 0;
        final int[] strangerAt = new int[MOST_STRANGERS];
        final int[] strangerFrom = new int[MOST_STRANGERS];
        final Acts acts = new Acts();

        void clear() {
            streets = 0;
            lines = 0;
            lanes = 0;
            barred = 0;
            gates = 0;
            houses = 0;
            strangers = 0;
            acts.done = 0;
        }

        void become(Town model) {
            streets = model.streets;
            lines = model.lines;
            lanes = model.lanes;
            System.arraycopy(model.laneFrom, 0, laneFrom, 0, MOST_LANES);
            System.arraycopy(model.laneTo, 0, laneTo, 0, MOST_LANES);
            System.arraycopy(model.takes, 0, takes, 0, MOST_LANES);
            System.arraycopy(model.muddy, 0, muddy, 0, MOST_LANES);
            barred = model.barred;
            gates = model.gates;
            System.arraycopy(model.gateAt, 0, gateAt, 0, MOST_GATES);
            System.arraycopy(model.gateHolds, 0, gateHolds, 0, MOST_GATES);
            houses = model.houses;
            System.arraycopy(model.houseAt, 0, houseAt, 0, MOST_HOUSES);
            System.arraycopy(model.wants, 0, wants, 0, MOST_HOUSES);
            System.arraycopy(model.pays, 0, pays, 0, MOST_HOUSES);
            System.arraycopy(model.loads, 0, loads, 0, MOST_HOUSES);
            strangers = model.strangers;
            System.arraycopy(model.strangerAt, 0, strangerAt, 0, MOST_STRANGERS);
            System.arraycopy(model.strangerFrom, 0, strangerFrom, 0, MOST_STRANGERS);
            acts.become(model.acts);
        }

        int openLanes() {
            return (1 << lanes) - 1 & ~barred;
        }

        void setBarred(int lane, int is) {
            barred = is == 1 ? barred | 1 << lane : barred & ~(1 << lane);
        }

        void takeBack() {
            if (acts.done <= 0) {
                return;
            }
            acts.done--;
            int which = acts.which[acts.done];
            int was = acts.was[acts.done];
            if (acts.kind[acts.done] == Acts.BARRED) {
                setBarred(which, was);
            } else if (which >= 0 && which < gates) {
                gateHolds[which] = was;
            }
        }

        /** The first HOUSE that pays most, one of them left aside; NONE without. */
        int dearestBut(int aside) {
            int found = NONE;
            int most = NONE;
            for (int house = 0; house < houses; house++) {
                if (house != aside && pays[house] > most) {
                    most = pays[house];
                    found = house;
                }
            }
            return found;
        }
    }

    /** The TAPE, and what reads it into a TOWN, TOKEN by TOKEN, as far as its first FAULT. */
    private static final class Tape {
        private static final int END = 0;
        private static final int WORD = 1;
        private static final int NUMBER = 2;
        private static final int SIGN = 3;
        private static final int NO_TOKEN = 4;

        private static final int CANNOT_STAND = 1;
        private static final int OUT_OF_BOUNDS = 2;
        private static final int TOO_MANY = 3;

        /** Above every bound, so that a number of many digits stays out of bounds. */
        private static final int HUGE = 1000000;

        int size = 0;
        int fault = 0;
        int place = NONE;
        Town draft = new Town();
        private final byte[] bytes = new byte[MOST_BYTES];
        private int kind = END;
        private int start = 0;
        private int stop = 0;
        private int value = 0;

        boolean hasRoom() {
            return size + FED_BYTES <= MOST_BYTES;
        }

        void append(int number) {
            for (int shift = 24; shift >= 0; shift -= 8) {
                if (size < MOST_BYTES) {
                    bytes[size] = (byte) (number >> shift);
                    size++;
                }
            }
        }

        /** Whether the whole TAPE is a TOWN without FAULT; the draft has it then. */
        boolean reads() {
            draft.clear();
            fault = 0;
            place = NONE;
            stop = 0;
            for (int i = 0; i <= MOST_BYTES; i++) {
                advance();
                if (kind == END) {
                    return true;
                }
                if (!readsLine()) {
                    return false;
                }
                draft.lines++;
            }
            return refuse(CANNOT_STAND);
        }

        private boolean refuse(int why) {
            fault = why;
            place = start;
            return false;
        }

        private boolean readsLine() {
            if (draft.lines == 0) {
                return isWord("town") ? readsTown() : refuse(CANNOT_STAND);
            }
            if (isWord("lane")) {
                int lane = draft.lanes;
                return lane < MOST_LANES ? readsLane(lane) && readsLaneState(lane) : refuse(TOO_MANY);
            }
            if (isWord("gate")) {
                return draft.gates < MOST_GATES ? readsGate(draft.gates) : refuse(TOO_MANY);
            }
            if (isWord("house")) {
                return draft.houses < MOST_HOUSES ? readsHouse(draft.houses) : refuse(TOO_MANY);
            }
            if (isWord("stranger")) {
                return draft.strangers < MOST_STRANGERS ? readsStranger(draft.strangers) : refuse(TOO_MANY);
            }
            return refuse(CANNOT_STAND);
        }

        private boolean readsTown() {
            if (!takesWord("streets") || !takesNumber(2, MOST_STREETS)) {
                return false;
            }
            draft.streets = value;
            return takesSign();
        }

        private boolean readsLane(int lane) {
            if (!takesNumber(0, draft.streets - 1)) {
                return false;
            }
            draft.laneFrom[lane] = value;
            if (!takesWord("to") || !takesNumber(0, draft.streets - 1)) {
                return false;
            }
            if (value == draft.laneFrom[lane]) {
                return refuse(OUT_OF_BOUNDS);
            }
            draft.laneTo[lane] = value;
            if (!takesWord("takes") || !takesNumber(1, 60)) {
                return false;
            }
            draft.takes[lane] = value;
            draft.muddy[lane] = 0;
            draft.lanes++;
            return true;
        }

        private boolean readsLaneState(int lane) {
            advance();
            if (isWord("muddy")) {
                if (!takesNumber(0, 10)) {
                    return false;
                }
                draft.muddy[lane] = value;
                advance();
            }
            if (isWord("barred")) {
                draft.setBarred(lane, 1);
                advance();
            }
            return isSign();
        }

        private boolean readsGate(int gate) {
            if (!takesWord("at") || !takesNumber(0, draft.streets - 1)) {
                return false;
            }
            draft.gateAt[gate] = value;
            if (!takesWord("holds") || !takesNumber(0, MOST_HOLD)) {
                return false;
            }
            draft.gateHolds[gate] = value;
            draft.gates++;
            return takesSign();
        }

        private boolean readsHouse(int house) {
            if (!takesWord("at") || !takesNumber(0, draft.streets - 1)) {
                return false;
            }
            draft.houseAt[house] = value;
            if (!takesWord("wants") || !takesNumber(0, LAST_MINUTE)) {
                return false;
            }
            draft.wants[house] = value;
            if (!takesWord("pays") || !takesNumber(0, LAST_MINUTE)) {
                return false;
            }
            draft.pays[house] = value;
            if (!takesWord("loads") || !takesNumber(0, 99)) {
                return false;
            }
            draft.loads[house] = value;
            draft.houses++;
            return takesSign();
        }

        private boolean readsStranger(int stranger) {
            if (!takesWord("at") || !takesNumber(0, draft.streets - 1)) {
                return false;
            }
            draft.strangerAt[stranger] = value;
            if (!takesWord("from") || !takesNumber(0, LAST_MINUTE)) {
                return false;
            }
            draft.strangerFrom[stranger] = value;
            draft.strangers++;
            return takesSign();
        }

        private boolean takesWord(String word) {
            advance();
            return isWord(word) || refuse(CANNOT_STAND);
        }

        private boolean takesNumber(int least, int most) {
            advance();
            if (kind != NUMBER) {
                return refuse(CANNOT_STAND);
            }
            return value >= least && value <= most || refuse(OUT_OF_BOUNDS);
        }

        private boolean takesSign() {
            advance();
            return isSign();
        }

        private boolean isSign() {
            return kind == SIGN || refuse(CANNOT_STAND);
        }

        private boolean isWord(String word) {
            if (kind != WORD || stop - start != word.length()) {
                return false;
            }
            for (int i = 0; i < word.length(); i++) {
                if (byteAt(start + i) != word.charAt(i)) {
                    return false;
                }
            }
            return true;
        }

        private int byteAt(int i) {
            return i >= 0 && i < size && i < MOST_BYTES ? bytes[i] : 0;
        }

        private static boolean isBlank(int sign) {
            return sign == 32 || sign == 10;
        }

        private static boolean isLetter(int sign) {
            return sign >= 'a' && sign <= 'z';
        }

        private static boolean isDigit(int sign) {
            return sign >= '0' && sign <= '9';
        }

        private void advance() {
            start = stop;
            while (start < size && isBlank(byteAt(start))) {
                start++;
            }
            stop = start;
            value = 0;
            if (start >= size) {
                kind = END;
            } else if (isLetter(byteAt(start))) {
                kind = WORD;
                while (stop < size && isLetter(byteAt(stop))) {
                    stop++;
                }
            } else if (isDigit(byteAt(start))) {
                kind = NUMBER;
                while (stop < size && isDigit(byteAt(stop))) {
                    value = Math.min(value * 10 + byteAt(stop) - '0', HUGE);
                    stop++;
                }
            } else {
                kind = byteAt(start) == ';' ? SIGN : NO_TOKEN;
                stop = start + 1;
            }
        }
    }

    /** The rows of the SLOTS; each has room for its longest, so that none is made anew. */
    private static final class Rows {
        static final int SLOTS = 4;
        static final int MOST_WIDTH = 3;
        static final int MOST_NUMBERS = 60;

        private final long[] numbers = new long[SLOTS * MOST_NUMBERS];
        private final int[] lengths = new int[SLOTS];
        private final int[] widths = new int[SLOTS];
        private int made = 0;

        static boolean isSlot(int slot) {
            return slot >= 0 && slot < SLOTS;
        }

        boolean stands(int slot) {
            return (made >> slot & 1) == 1;
        }

        int standing() {
            return Integer.bitCount(made);
        }

        int length(int slot) {
            return isSlot(slot) ? lengths[slot] : 0;
        }

        long number(int slot, int i) {
            return i >= 0 && i < length(slot) ? numbers[slot * MOST_NUMBERS + i] : 0;
        }

        void make(int slot, int width, int n) {
            if (isSlot(slot)) {
                made |= 1 << slot;
                widths[slot] = width;
                lengths[slot] = n;
                for (int i = 0; i < MOST_NUMBERS; i++) {
                    numbers[slot * MOST_NUMBERS + i] = 0;
                }
            }
        }

        void put(int slot, int i, long v) {
            if (i >= 0 && i < length(slot)) {
                int width = widths[slot];
                long cut = width == 0 ? (byte) v : width == 1 ? (short) v : width == 2 ? (int) v : v;
                numbers[slot * MOST_NUMBERS + i] = cut;
            }
        }

        boolean areAlike(int slot, int to) {
            return isSlot(slot) && isSlot(to) && widths[slot] == widths[to];
        }

        boolean reaches(int slot, int i, int n) {
            return i >= 0 && n >= 0 && (long) i + n <= length(slot);
        }

        void copyPart(int slot, int i, int to, int k, int n) {
            if (reaches(slot, i, n) && reaches(to, k, n)) {
                System.arraycopy(numbers, slot * MOST_NUMBERS + i, numbers, to * MOST_NUMBERS + k, n);
            }
        }

        /** Whether the row has pairs of a STREET and a minute, or NONE, alone. */
        boolean tellsSights(int slot, int streets) {
            if (length(slot) % 2 != 0) {
                return false;
            }
            for (int i = 0; i < length(slot); i += 2) {
                long street = number(slot, i);
                long minute = number(slot, i + 1);
                if (street < 0 || street >= streets || minute < NONE || minute > LAST_MINUTE) {
                    return false;
                }
            }
            return true;
        }
    }

    /** One dark: when it comes to each STREET, by the lanes that were open and muddy when it fell. */
    private static final class Dark {
        private static final int MUD_TAKES = 10;

        final int[] at = new int[MOST_STREETS];
        private int open = 0;
        private int wet = 0;

        void fallNow(Town town) {
            fall(town, town.openLanes(), 0);
        }

        void fall(Town town, int openLanes, int wetLanes) {
            fallHeld(town, NONE, 0, openLanes, wetLanes);
        }

        /** As fall, but a GATE holds n in place of what it does. */
        void fallHeld(Town town, int held, int n, int openLanes, int wetLanes) {
            Arrays.fill(at, NEVER);
            for (int gate = 0; gate < town.gates; gate++) {
                enter(town.gateAt[gate], gate == held ? n : town.gateHolds[gate]);
            }
            flow(town, openLanes, wetLanes);
        }

        void fallFrom(Town town, int street, int minute) {
            Arrays.fill(at, NEVER);
            enter(street, minute);
            flow(town, town.openLanes(), 0);
        }

        void fallAt(Town town, int streetSet) {
            Arrays.fill(at, NEVER);
            for (int street = 0; street < town.streets; street++) {
                if ((streetSet >> street & 1) == 1) {
                    enter(street, 0);
                }
            }
            flow(town, town.openLanes(), 0);
        }

        private void enter(int street, int minute) {
            if (street >= 0 && street < MOST_STREETS && minute < at[street]) {
                at[street] = minute;
            }
        }

        /** A way has fewer lanes than there are streets, so that as many rounds are enough. */
        private void flow(Town town, int openLanes, int wetLanes) {
            open = openLanes;
            wet = wetLanes;
            boolean moved = true;
            for (int round = 0; moved && round < town.streets; round++) {
                moved = false;
                for (int lane = 0; lane < town.lanes; lane++) {
                    if ((open >> lane & 1) == 1) {
                        int here = town.laneFrom[lane];
                        int there = town.laneTo[lane];
                        int takes = minutesOf(town, lane);
                        if (at[here] + takes < at[there]) {
                            at[there] = at[here] + takes;
                            moved = true;
                        } else if (at[there] + takes < at[here]) {
                            at[here] = at[there] + takes;
                            moved = true;
                        }
                    }
                }
            }
        }

        private int minutesOf(Town town, int lane) {
            return town.takes[lane] + (wet >> lane & 1) * MUD_TAKES;
        }

        boolean isLike(Dark model, int streets) {
            for (int street = 0; street < streets; street++) {
                if (at[street] != model.at[street]) {
                    return false;
                }
            }
            return true;
        }

        int latest(Town town) {
            int minute = 0;
            for (int street = 0; street < town.streets; street++) {
                minute = Math.max(minute, at[street]);
            }
            return minute;
        }

        /** The first LANE by which the GATES' dark comes; NONE where it comes in, or never comes. */
        int laneInto(Town town, int street) {
            if (at[street] >= NEVER) {
                return NONE;
            }
            for (int gate = 0; gate < town.gates; gate++) {
                if (town.gateAt[gate] == street && town.gateHolds[gate] == at[street]) {
                    return NONE;
                }
            }
            for (int lane = 0; lane < town.lanes; lane++) {
                int before = acrossLane(town, lane, street);
                if (before != NONE && at[before] + minutesOf(town, lane) == at[street]) {
                    return lane;
                }
            }
            return NONE;
        }

        /** The other STREET of an open LANE; NONE if it does not go from this one. */
        private int acrossLane(Town town, int lane, int street) {
            if ((open >> lane & 1) == 0) {
                return NONE;
            }
            if (town.laneFrom[lane] == street) {
                return town.laneTo[lane];
            }
            return town.laneTo[lane] == street ? town.laneFrom[lane] : NONE;
        }

        /** The LANES, as bits, by which it is gone back from a STREET to where it came in. */
        int wayTo(Town town, int street) {
            int way = 0;
            int here = street;
            for (int i = 0; i < MOST_STREETS; i++) {
                int lane = laneInto(town, here);
                if (lane == NONE) {
                    break;
                }
                way |= 1 << lane;
                here = town.laneFrom[lane] == here ? town.laneTo[lane] : town.laneFrom[lane];
            }
            return way;
        }

        int gladOf(Town town, int house) {
            return gladAt(town, house, at[town.houseAt[house]]);
        }

        static int gladAt(Town town, int house, int minute) {
            if (minute >= NEVER) {
                return 0;
            }
            return Math.max(0, town.pays[house] - Math.abs(town.wants[house] - minute));
        }

        int gladOfAll(Town town) {
            int sum = 0;
            for (int house = 0; house < town.houses; house++) {
                sum += gladOf(town, house);
            }
            return sum;
        }
    }

    /** WHOSE the STREETS are. */
    private static final class Owners {
        final int[] owner = new int[MOST_STREETS];
        final int[] strangersAt = new int[MOST_STREETS];
        private final Dark own = new Dark();
        private final Dark strange = new Dark();

        void settle(Town town) {
            own.fallNow(town);
            Arrays.fill(strangersAt, NEVER);
            Arrays.fill(owner, NONE);
            for (int stranger = 0; stranger < town.strangers; stranger++) {
                strange.fallFrom(town, town.strangerAt[stranger], town.strangerFrom[stranger]);
                for (int street = 0; street < town.streets; street++) {
                    if (strange.at[street] < strangersAt[street]) {
                        strangersAt[street] = strange.at[street];
                        owner[street] = stranger + 1;
                    }
                }
            }
            for (int street = 0; street < town.streets; street++) {
                if (own.at[street] < NEVER && own.at[street] <= strangersAt[street]) {
                    owner[street] = 0;
                }
            }
        }

        int darkAt(int street) {
            return street >= 0 && street < MOST_STREETS ? own.at[street] : NEVER;
        }

        boolean partedBy(Town town, int lane) {
            int here = owner[town.laneFrom[lane]];
            int there = owner[town.laneTo[lane]];
            return here != NONE && there != NONE && here != there;
        }
    }

    /** What bars, openings and cuts of LANES bring, and the clerk's game with the town. */
    private static final class Plans {
        private static final int CLERKS_MINUTES = 30;

        int greatest = 0;
        int found = 0;
        private final Dark dark = new Dark();
        private final int[] ways = new int[LANE_SETS];
        private int waysKnown = 0;
        private final int[] gladBy = new int[MOST_GATES * MOST_LANES];
        private final int[] townsBest = new int[MOST_GATES];

        /** The greatest GLAD if k at most of some LANES were turned (barred, opened), and by which. */
        void turnLanes(Town town, int lanes, int k) {
            greatest = NONE;
            for (int size = 0; size <= k; size++) {
                for (int set = 0; set <= lanes && set < LANE_SETS; set++) {
                    if ((set & ~lanes) == 0 && Integer.bitCount(set) == size) {
                        weighTurn(town, set);
                    }
                }
            }
        }

        private void weighTurn(Town town, int set) {
            dark.fall(town, town.openLanes() ^ set, 0);
            int given = dark.gladOfAll(town);
            if (given > greatest) {
                greatest = given;
                found = set;
            }
        }

        /**
         * The least of the smallest sets by which it does not come ahead of a minute; NONE without.
         * Each way that was too early must lose a lane, so that sets that leave a known one whole
         * need not be walked.
         */
        int leastCut(Town town, int street, int minute) {
            int open = town.openLanes();
            waysKnown = 0;
            for (int size = 0; size <= MOST_LANES; size++) {
                for (int set = 0; set <= open && set < LANE_SETS; set++) {
                    if ((set & ~open) == 0 && Integer.bitCount(set) == size && cutsKnownWays(set)
                            && cutsAll(town, set, street, minute)) {
                        return set;
                    }
                }
            }
            return NONE;
        }

        private boolean cutsKnownWays(int set) {
            for (int i = 0; i < waysKnown; i++) {
                if ((ways[i] & set) == 0) {
                    return false;
                }
            }
            return true;
        }

        private boolean cutsAll(Town town, int set, int street, int minute) {
            dark.fall(town, town.openLanes() & ~set, 0);
            if (dark.at[street] >= minute) {
                return true;
            }
            if (waysKnown < LANE_SETS) {
                ways[waysKnown] = dark.wayTo(town, street);
                waysKnown++;
            }
            return false;
        }

        /** Finds GLAD by every pair, and what the town makes of each GATE at best. */
        void weighClerk(Town town) {
            for (int gate = 0; gate < town.gates; gate++) {
                townsBest[gate] = town.openLanes() == 0 ? gladClerked(town, gate, 0) : 0;
                for (int lane = 0; lane < town.lanes; lane++) {
                    if (isOpenIn(town, lane)) {
                        int given = gladClerked(town, gate, 1 << lane);
                        gladBy[gate * MOST_LANES + lane] = given;
                        townsBest[gate] = Math.max(townsBest[gate], given);
                    }
                }
            }
        }

        private static boolean isOpenIn(Town town, int lane) {
            return (town.openLanes() >> lane & 1) == 1;
        }

        private int gladClerked(Town town, int gate, int barredSet) {
            int n = town.gateHolds[gate] + CLERKS_MINUTES;
            dark.fallHeld(town, gate, n, town.openLanes() & ~barredSet, 0);
            return dark.gladOfAll(town);
        }

        int restingPairs(Town town) {
            int pairs = 0;
            for (int gate = 0; gate < town.gates; gate++) {
                for (int lane = 0; lane < town.lanes; lane++) {
                    if (isOpenIn(town, lane) && pairRests(town, gate, lane)) {
                        pairs++;
                    }
                }
            }
            return pairs;
        }

        private boolean pairRests(Town town, int gate, int lane) {
            int given = gladBy[gate * MOST_LANES + lane];
            for (int i = 0; i < town.gates; i++) {
                if (gladBy[i * MOST_LANES + lane] < given) {
                    return false;
                }
            }
            return given >= townsBest[gate];
        }

        int clerksGate(Town town) {
            int chosen = NONE;
            for (int gate = 0; gate < town.gates; gate++) {
                if (chosen == NONE || townsBest[gate] < townsBest[chosen]) {
                    chosen = gate;
                }
            }
            return chosen;
        }
    }

    /** What one GATE's hold does, and which holds fit what was seen. */
    private static final class Holders {
        int fitting = 0;
        private final Dark dark = new Dark();
        private final int[] byOthers = new int[MOST_GATES * MOST_STREETS];
        private final int[] onItsWay = new int[MOST_GATES * MOST_STREETS];
        private final boolean[] may = new boolean[MOST_GATES * HOLDS];
        private final int[] tally = new int[MINUTES + 1];

        /** When it comes by the other GATES, and how long it goes from this one. */
        void learnGate(Town town, int gate) {
            dark.fallHeld(town, gate, NEVER, town.openLanes(), 0);
            System.arraycopy(dark.at, 0, byOthers, gate * MOST_STREETS, MOST_STREETS);
            dark.fallFrom(town, town.gateAt[gate], 0);
            System.arraycopy(dark.at, 0, onItsWay, gate * MOST_STREETS, MOST_STREETS);
        }

        int minuteWith(int gate, int n, int street) {
            int i = gate * MOST_STREETS + street;
            return Math.min(byOthers[i], onItsWay[i] + n);
        }

        int gladWith(Town town, int gate, int n) {
            int sum = 0;
            for (int house = 0; house < town.houses; house++) {
                sum += Dark.gladAt(town, house, minuteWith(gate, n, town.houseAt[house]));
            }
            return sum;
        }

        int gladdestHold(Town town, int gate) {
            learnGate(town, gate);
            int found = 0;
            int most = NONE;
            for (int n = 0; n < HOLDS; n++) {
                int given = gladWith(town, gate, n);
                if (given > most) {
                    most = given;
                    found = n;
                }
            }
            return found;
        }

        /** Finds the GATES and holds by which all that a row tells was seen. */
        void match(Town town, Rows rows, int slot) {
            fitting = 0;
            for (int i = 0; i < MOST_GATES * HOLDS; i++) {
                may[i] = false;
            }
            for (int gate = 0; gate < town.gates; gate++) {
                learnGate(town, gate);
                for (int n = 0; n < HOLDS; n++) {
                    if (matches(rows, slot, gate, n)) {
                        may[gate * HOLDS + n] = true;
                        fitting++;
                    }
                }
            }
        }

        private boolean matches(Rows rows, int slot, int gate, int n) {
            for (int i = 0; i + 1 < rows.length(slot); i += 2) {
                int street = (int) rows.number(slot, i);
                if (minuteOrNone(minuteWith(gate, n, street)) != rows.number(slot, i + 1)) {
                    return false;
                }
            }
            return true;
        }

        int leastFitting(int gate) {
            for (int n = 0; n < HOLDS; n++) {
                if (may[gate * HOLDS + n]) {
                    return n;
                }
            }
            return NONE;
        }

        int tellingStreet(Town town) {
            int found = NONE;
            int fewest = fitting;
            for (int street = 0; street < town.streets; street++) {
                int left = leftAtWorst(town, street);
                if (left < fewest) {
                    fewest = left;
                    found = street;
                }
            }
            return found;
        }

        int leftAtWorst(Town town, int street) {
            Arrays.fill(tally, 0);
            int worst = 0;
            for (int i = 0; i < town.gates * HOLDS; i++) {
                if (may[i]) {
                    int seen = Math.min(minuteWith(i / HOLDS, i % HOLDS, street), MINUTES);
                    tally[seen]++;
                    worst = Math.max(worst, tally[seen]);
                }
            }
            return worst;
        }
    }

    /** Sets of STREETS on which GATES that hold nothing would stand. */
    private static final class Places {
        int soonestFull = NEVER;
        int soonestSet = NONE;
        int leastSum = NEVER;
        private final Dark dark = new Dark();

        void search(Town town, int k) {
            soonestFull = NEVER;
            soonestSet = NONE;
            leastSum = NEVER;
            int size = Math.min(k, town.streets);
            for (int set = 0; set < 1 << town.streets && set < STREET_SETS; set++) {
                if (Integer.bitCount(set) == size) {
                    weigh(town, set);
                }
            }
        }

        private void weigh(Town town, int set) {
            dark.fallAt(town, set);
            int latest = dark.latest(town);
            if (latest >= NEVER) {
                return;
            }
            if (latest < soonestFull) {
                soonestFull = latest;
                soonestSet = set;
            }
            int sum = 0;
            for (int street = 0; street < town.streets; street++) {
                sum += dark.at[street];
            }
            leastSum = Math.min(leastSum, sum);
        }
    }

    /** Loads put into carts, HOUSE by HOUSE. */
    private static final class Packing {
        private final int[] room = new int[MOST_HOUSES];
        private final int[] cartOf = new int[MOST_HOUSES];

        /** How many carts are enough; NONE if a HOUSE wants more than one cart brings. */
        int fewest(Town town, int size) {
            for (int limit = 0; limit <= town.houses; limit++) {
                Arrays.fill(room, size);
                if (packs(town, 0, 0, limit)) {
                    return limit;
                }
            }
            return NONE;
        }

        /** Tries the least cart first, so that what it finds is the first way. */
        private boolean packs(Town town, int house, int used, int limit) {
            if (house >= town.houses || house >= MOST_HOUSES) {
                return true;
            }
            int load = town.loads[house];
            for (int i = 0; i <= used && i < limit && i < MOST_HOUSES; i++) {
                if (room[i] >= load) {
                    room[i] -= load;
                    cartOf[house] = i;
                    if (packs(town, house + 1, Math.max(used, i + 1), limit)) {
                        return true;
                    }
                    room[i] += load;
                }
            }
            return false;
        }

        int housesIn(Town town, int i) {
            int bits = 0;
            for (int house = 0; house < town.houses; house++) {
                if (cartOf[house] == i) {
                    bits |= 1 << house;
                }
            }
            return bits;
        }
    }

    /** Chances of mud, and evenings drawn. */
    private static final class Mud {
        /** Ten for each LANE there may be: every chance is a whole number of these parts. */
        private static final long WHOLE = 10000000000L;
        private static final long DRAW_TIMES = 1103515245L;
        private static final long DRAW_MORE = 12345L;
        private static final long DRAW_ROUND = 2147483648L;
        private static final long DRAW_CUT = 65536L;

        private final Dark dark = new Dark();
        private final long[] parts = new long[MINUTES];

        static int evening(Town town, long seed) {
            int wet = 0;
            long x = seed;
            for (int lane = 0; lane < town.lanes; lane++) {
                x = (DRAW_TIMES * x + DRAW_MORE) % DRAW_ROUND;
                if (x / DRAW_CUT % 10 < town.muddy[lane]) {
                    wet |= 1 << lane;
                }
            }
            return wet;
        }

        /** Finds how many parts of the whole each minute has in which it comes to a STREET. */
        void weighStreet(Town town, int street) {
            Arrays.fill(parts, 0L);
            int sure = 0;
            int wet = 0;
            for (int lane = 0; lane < town.lanes; lane++) {
                if (town.muddy[lane] == 0 || town.muddy[lane] == 10) {
                    sure |= 1 << lane;
                    wet |= town.muddy[lane] == 10 ? 1 << lane : 0;
                }
            }
            weighLanes(town, street, sure, wet, WHOLE, 0);
        }

        /**
         * With the unsure lanes dry it comes soonest; if its way has none of them, mud elsewhere
         * changes nothing, and else one of them is either dry or muddy.
         */
        private void weighLanes(Town town, int street, int sure, int wet, long weight, int depth) {
            dark.fall(town, town.openLanes(), wet);
            int minute = dark.at[street];
            if (minute >= MINUTES) {
                return;
            }
            int unsure = dark.wayTo(town, street) & ~sure;
            int lane = Integer.bitCount((unsure & -unsure) - 1);
            if (unsure == 0 || lane >= MOST_LANES || depth >= MOST_LANES) {
                parts[minute] += weight;
                return;
            }
            int bit = 1 << lane;
            long tenth = weight / 10;
            weighLanes(town, street, sure | bit, wet, tenth * (10 - town.muddy[lane]), depth + 1);
            weighLanes(town, street, sure | bit, wet | bit, tenth * town.muddy[lane], depth + 1);
        }

        long chanceBy(int minute, boolean below) {
            long above = 0;
            for (int i = 0; i <= minute && i < MINUTES; i++) {
                above += parts[i];
            }
            long common = commonDivisor(WHOLE, above);
            return common <= 0 ? 0 : (below ? WHOLE : above) / common;
        }

        private static long commonDivisor(long a, long b) {
            long greater = a;
            long less = b;
            for (int i = 0; i < 100 && less != 0; i++) {
                long rest = greater % less;
                greater = less;
                less = rest;
            }
            return greater;
        }

        int leastMinute(int n) {
            long above = 0;
            for (int minute = 0; minute < MINUTES; minute++) {
                above += parts[minute];
                if (above * 100 >= WHOLE * n) {
                    return minute;
                }
            }
            return NONE;
        }
    }
}
