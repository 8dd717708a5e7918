import java.util.Arrays;

/**
 * The winter on foot: WALKERS who go from VILLAGE to VILLAGE, a DAY at a time.
 * This outer class only tests what it is given and answers; what is known and
 * done stands in the classes inside it.
 */
public final class WinterWalk {
    public static final int NONE = -1000000, BAD = -1000001, STATE = -1000002, FULL = -1000003;

    private static final int FINDING = -1000010, NULL = 1, PLACE = 2, KIND = 3, SIZE = 4, STORE = 5;
    private static final int FAULT = -1000100;

    private static final int WALKER = 0, OLD = 1, SLOW = 2, LIKES = 3, SISTER = 4, EARLY = 5;

    private static final int MOST_VILLAGES = 8, MOST_ROADS = 12, MOST_WALKERS = 3;
    private static final int MOST_OFFER = 20, MOST_DAYS = 999, MOST_AHEAD = 100, MOST_BID_DAYS = 50;
    private static final int MOST_IMAGES = 2;

    private final Rows rows;
    private final Tape tape;
    private final Land now;
    private final Acts acts;
    private final Land[] images;
    private final Foretelling foretelling;
    private final Asks asks;
    private int finding;

    public WinterWalk() {
        rows = new Rows();
        tape = new Tape();
        now = new Land();
        acts = new Acts();
        images = new Land[MOST_IMAGES];
        foretelling = new Foretelling(now);
        asks = new Asks(now);
        finding = 0;
    }

    // ---- rows

    public int row(int row, int lane, int n) {
        if (!Rows.isRow(row) || !Rows.isLane(lane) || n > Rows.MOST_ITEMS) {
            return BAD;
        }
        if (n < 0) {
            return found(SIZE);
        }
        rows.lay(row, lane, n);
        return foundNothing(n);
    }

    public int set(int row, int i, int v) {
        if (!Rows.isRow(row)) {
            return BAD;
        }
        int trouble = rows.troubleWith(row, i, 1);
        if (trouble != 0) {
            return found(trouble);
        }
        return foundNothing(rows.put(row, i, v));
    }

    public int copy(int a, int i, int b, int j, int n) {
        if (!Rows.isRow(a) || !Rows.isRow(b)) {
            return BAD;
        }
        int trouble = rows.troubleBetween(a, i, b, j, n);
        if (trouble != 0) {
            return found(trouble);
        }
        rows.carry(a, i, b, j, n);
        return foundNothing(n);
    }

    public int drop(int row) {
        if (!Rows.isRow(row)) {
            return BAD;
        }
        if (rows.isMissing(row)) {
            return found(NULL);
        }
        return foundNothing(rows.takeAway(row));
    }

    // ---- what is told

    public int feed(int letter) {
        if (letter < 0 || letter > 255) {
            return BAD;
        }
        if (tape.isFull()) {
            return FULL;
        }
        return tape.append(letter);
    }

    public int land() {
        if (!tape.readInto(now)) {
            return FAULT - tape.faultPlace;
        }
        acts.forgetAll();
        return now.villages;
    }

    public int fault() {
        return tape.latestFault;
    }

    public int undo() {
        if (acts.kept == 0) {
            return STATE;
        }
        return acts.undoLatestOf(now);
    }

    // ---- what is done

    public int days(int n) {
        if (now.isNone()) {
            return STATE;
        }
        if (!isFrom(1, n, Acts.MOST)) {
            return BAD;
        }
        if (now.day + n > MOST_DAYS) {
            return FULL;
        }
        for (int d = 0; d < n; d++) {
            acts.keep(now);
            now.passDay();
        }
        return now.gain;
    }

    public int offer(int village, int v) {
        if (!now.hasVillage(village) || !isFrom(0, v, MOST_OFFER)) {
            return BAD;
        }
        int was = now.offers[village];
        if (was != v) {
            acts.keep(now);
            now.offers[village] = v;
        }
        return was;
    }

    public int door(int village, int shut) {
        if (!now.hasVillage(village) || !isFrom(0, shut, 1)) {
            return BAD;
        }
        if (now.isShut(village) == (shut == 1)) {
            return STATE;
        }
        acts.keep(now);
        now.turnDoor(village);
        return Integer.bitCount(now.doorsShut);
    }

    public int village(int village, int what) {
        if (!now.hasVillage(village)) {
            return BAD;
        }
        switch (what) {
            case 0: return now.worth[village];
            case 1: return now.offers[village];
            case 2: return now.isShut(village) ? 1 : 0;
            case 3: return now.frostOf(village);
            case 4: return now.nightsIn[village];
            case 5: return now.roads[village];
            default: return BAD;
        }
    }

    public int walker(int walker, int what) {
        if (!now.hasWalker(walker)) {
            return BAD;
        }
        switch (what) {
            case 0: return now.at[walker];
            case 1: return now.before[walker];
            case 2: return now.goesTo(walker);
            default: return BAD;
        }
    }

    // ---- foretold

    public int ahead(int walker, int n, int what) {
        if (!now.hasWalker(walker) || !isFrom(0, n, MOST_AHEAD) || !isFrom(0, what, 1)) {
            return BAD;
        }
        Land then = foretelling.landBehind(n);
        return what == 0 ? then.at[walker] : then.before[walker];
    }

    public int cold(int n, int what) {
        if (now.isNone()) {
            return STATE;
        }
        if (!isFrom(0, n, MOST_AHEAD) || !isFrom(0, what, 2)) {
            return BAD;
        }
        Land then = foretelling.landBehind(n);
        switch (what) {
            case 0: return then.gain;
            case 1: return then.paid;
            default: return then.frozen();
        }
    }

    public int nights(int village, int n) {
        if (!now.hasVillage(village) || !isFrom(0, n, MOST_AHEAD)) {
            return BAD;
        }
        return foretelling.landBehind(n).nightsIn[village];
    }

    public int freezes(int village, int n) {
        if (!now.hasVillage(village) || !isFrom(1, n, MOST_AHEAD)) {
            return BAD;
        }
        return foretelling.firstFrozen(village, n);
    }

    public int warn(int k) {
        if (now.isNone()) {
            return STATE;
        }
        if (!isFrom(-1, k, MOST_VILLAGES - 1)) {
            return BAD;
        }
        return foretelling.warned(k);
    }

    public int lure(int village, int n) {
        if (!now.hasVillage(village) || !isFrom(1, n, MOST_AHEAD)) {
            return BAD;
        }
        return foretelling.leastLure(village, n);
    }

    public int keepsAway(int village, int n, int what) {
        if (!now.hasVillage(village) || !isFrom(1, n, MOST_AHEAD) || !isFrom(0, what, 1)) {
            return BAD;
        }
        int doors = foretelling.fewestDoors(village, n);
        return doors == NONE || what == 1 ? doors : Integer.bitCount(doors);
    }

    public int bid(int village, int n, int what) {
        if (!now.hasVillage(village) || !isFrom(1, n, MOST_BID_DAYS) || !isFrom(0, what, 1)) {
            return BAD;
        }
        int best = foretelling.bestOffer(village, n);
        return what == 0 ? best : foretelling.keepsForItself(village, best, n);
    }

    public int rests(int n) {
        if (now.isNone()) {
            return STATE;
        }
        if (!isFrom(1, n, MOST_BID_DAYS)) {
            return BAD;
        }
        return foretelling.restless(n);
    }

    public int fits(int walker, int row, int i, int n) {
        if (!now.hasWalker(walker) || !Rows.isRow(row) || !isFrom(1, n, 24)) {
            return BAD;
        }
        int trouble = rows.troubleWith(row, i, n);
        if (trouble != 0) {
            return found(trouble);
        }
        int kinds = 0;
        for (int kind = OLD; kind <= EARLY; kind++) {
            if (foretelling.goesSo(walker, kind, rows, rows.indexOf(row, i), n)) {
                kinds |= 1 << kind;
            }
        }
        return foundNothing(kinds);
    }

    public int round(int walker) {
        if (!now.hasWalker(walker)) {
            return BAD;
        }
        return foretelling.roundOf(walker);
    }

    public int meet(int n, int what) {
        if (now.isNone()) {
            return STATE;
        }
        if (!isFrom(1, n, MOST_AHEAD) || !isFrom(0, what, 1)) {
            return BAD;
        }
        return foretelling.firstMeeting(n, what == 1);
    }

    public int slept(int walker, int row, int i, int n, int what) {
        if (!now.hasWalker(walker) || !Rows.isRow(row) || !isFrom(1, n, 12) || !isFrom(0, what, 1)) {
            return BAD;
        }
        int trouble = rows.troubleWith(row, i, n);
        if (trouble != 0) {
            return found(trouble);
        }
        int many = 0;
        int first = NONE;
        for (int from = now.villages - 1; from >= 0; from--) {
            if (foretelling.freezesSo(walker, from, rows, rows.indexOf(row, i), n)) {
                many++;
                first = from;
            }
        }
        return foundNothing(what == 0 ? many : first);
    }

    public long late(int walker, int p, int n, int village, int what) {
        if (!now.hasWalker(walker) || !now.hasVillage(village) || !isFrom(0, p, 10)
                || !isFrom(0, n, Foretelling.MOST_LATE) || !isFrom(0, what, 1)) {
            return BAD;
        }
        long cases = foretelling.casesOfBeingIn(walker, p, n, village);
        long all = Foretelling.power(10, n);
        long shared = Foretelling.greatestShared(cases, all);
        return (what == 0 ? cases : all) / shared;
    }

    public int year(int n, int seed, int what) {
        if (now.isNone()) {
            return STATE;
        }
        if (!isFrom(0, n, MOST_AHEAD) || !isFrom(1, seed, 999999) || !isFrom(0, what, 1)) {
            return BAD;
        }
        Land then = foretelling.landBehindYear(n, seed);
        return what == 0 ? then.gain - now.gain : then.mostSlept();
    }

    public int image(int k) {
        if (!isFrom(0, k, MOST_IMAGES - 1)) {
            return BAD;
        }
        if (now.isNone()) {
            return STATE;
        }
        if (images[k] == null) {
            images[k] = new Land();
        }
        images[k].becomeLike(now);
        return 1;
    }

    public int restore(int k) {
        if (!isFrom(0, k, MOST_IMAGES - 1)) {
            return BAD;
        }
        if (images[k] == null) {
            return STATE;
        }
        now.becomeLike(images[k]);
        acts.forgetAll();
        return 1;
    }

    // ---- asked

    public int kind(int one) {
        if (!now.hasWalker(one)) {
            return BAD;
        }
        return now.kinds[one];
    }

    public int as(int one, int kind) {
        if (!now.hasWalker(one) || !isFrom(WALKER, kind, EARLY)) {
            return BAD;
        }
        if (!Kinds.isOf(now.kinds[one], kind)) {
            return found(KIND);
        }
        return foundNothing(one);
    }

    public int ask(int one, int what) {
        if (!now.hasWalker(one) || !isFrom(0, what, 1)) {
            return BAD;
        }
        return asks.answer(one, what);
    }

    public int trace(int i) {
        if (i < 0 || i >= asks.traced) {
            return NONE;
        }
        return asks.bodies[i];
    }

    public int count(int what) {
        switch (what) {
            case 0: return rows.howMany();
            case 1: return now.villages;
            case 2: return now.roadsTold;
            case 3: return now.walkers;
            case 4: return now.day;
            case 5: return now.gain;
            case 6: return now.paid;
            case 7: return acts.kept;
            case 8: return tape.length;
            default: return BAD;
        }
    }

    public int status() {
        return finding;
    }

    private int found(int number) {
        finding = number;
        return FINDING - number;
    }

    private int foundNothing(int answer) {
        finding = 0;
        return answer;
    }

    private static boolean isFrom(int least, int v, int most) {
        return least <= v && v <= most;
    }

    /** ROWS lie one behind the other in one array, so that a call makes none. */
    private static final class Rows {
        static final int MOST_ITEMS = 40;
        private static final int MANY = 8, BYTES = 0, SHORTS = 1, INTS = 2, MISSING = -1;

        private final int[] lanes = new int[MANY];
        private final int[] sizes = new int[MANY];
        private final int[] items = new int[MANY * MOST_ITEMS];

        Rows() {
            Arrays.fill(lanes, MISSING);
        }

        static boolean isRow(int row) {
            return isFrom(0, row, MANY - 1);
        }

        static boolean isLane(int lane) {
            return isFrom(BYTES, lane, INTS);
        }

        boolean isMissing(int row) {
            return lanes[row] == MISSING;
        }

        int howMany() {
            int many = 0;
            for (int row = 0; row < MANY; row++) {
                if (!isMissing(row)) {
                    many++;
                }
            }
            return many;
        }

        void lay(int row, int lane, int n) {
            lanes[row] = lane;
            sizes[row] = n;
            Arrays.fill(items, row * MOST_ITEMS, (row + 1) * MOST_ITEMS, 0);
        }

        int takeAway(int row) {
            lanes[row] = MISSING;
            return sizes[row];
        }

        /** What is found where n ITEMS from i on are wanted; 0 for nothing. */
        int troubleWith(int row, int i, int n) {
            if (isMissing(row)) {
                return NULL;
            }
            return holds(row, i, n) ? 0 : PLACE;
        }

        int troubleBetween(int a, int i, int b, int j, int n) {
            if (isMissing(a) || isMissing(b)) {
                return NULL;
            }
            if (lanes[a] != lanes[b]) {
                return STORE;
            }
            return holds(a, i, n) && holds(b, j, n) ? 0 : PLACE;
        }

        // i is held against what is left, as i + n could wrap around
        private boolean holds(int row, int i, int n) {
            return i >= 0 && n >= 0 && i <= sizes[row] - n;
        }

        int indexOf(int row, int i) {
            return row * MOST_ITEMS + i;
        }

        int itemAt(int index) {
            return isFrom(0, index, MANY * MOST_ITEMS - 1) ? items[index] : 0;
        }

        int put(int row, int i, int v) {
            int kept = cutToLane(lanes[row], v);
            items[indexOf(row, i)] = kept;
            return kept;
        }

        private static int cutToLane(int lane, int v) {
            switch (lane) {
                case BYTES: return (byte) v;
                case SHORTS: return (short) v;
                default: return v;
            }
        }

        void carry(int a, int i, int b, int j, int n) {
            System.arraycopy(items, indexOf(a, i), items, indexOf(b, j), n);
        }
    }

    /** THE TAPE, and how a LAND is read off it. */
    private static final class Tape {
        private static final int MOST = 120;
        private static final int CANNOT_STAND = 1, WRONG_NUMBER = 2, NO_ROOM = 3;
        private static final int END = -1;

        private final int[] bytes = new int[MOST];
        private final Land draft = new Land();
        int length = 0;
        int latestFault = 0;
        int faultPlace = 0;
        private int place = 0;
        private boolean faulty = false;

        boolean isFull() {
            return length >= MOST;
        }

        int append(int letter) {
            bytes[length] = letter;
            length++;
            return length;
        }

        /** Empties the tape; the LAND becomes another one only if there is no FAULT. */
        boolean readInto(Land land) {
            place = 0;
            faulty = false;
            draft.becomeNone();
            readLaw();
            readVillages();
            readRoads();
            readWalkers();
            if (place < length) {
                fail(CANNOT_STAND, place);
            }
            length = 0;
            if (!faulty) {
                land.becomeLike(draft);
            }
            return !faulty;
        }

        private void readLaw() {
            takeSign('f');
            draft.lasts = takeNumber(1, 9);
            takeSign(';');
        }

        private void readVillages() {
            if (!beginsVillage()) {
                fail(CANNOT_STAND, place);
            }
            for (int i = 0; i < MOST && beginsVillage(); i++) {
                readVillage();
            }
        }

        private boolean beginsVillage() {
            return next() == 'g' || next() == 'c';
        }

        private void readVillage() {
            int sign = next() == 'c' ? -1 : 1;
            takeLetter(draft.villages < MOST_VILLAGES);
            int worth = takeNumber(0, 9);
            takeSign(',');
            int offer = takeNumber(0, MOST_OFFER);
            takeSign(';');
            if (!faulty) {
                draft.addVillage(sign * worth, offer);
            }
        }

        private void readRoads() {
            for (int i = 0; i < MOST && next() == 'r'; i++) {
                readRoad();
            }
        }

        private void readRoad() {
            takeLetter(draft.roadsTold < MOST_ROADS);
            int a = takeNumber(0, draft.villages - 1);
            takeSign(',');
            int placeOfB = place;
            int b = takeNumber(0, draft.villages - 1);
            if (!faulty && !draft.canJoin(a, b)) {
                fail(WRONG_NUMBER, placeOfB);
            }
            takeSign(';');
            if (!faulty) {
                draft.addRoad(a, b);
            }
        }

        private void readWalkers() {
            for (int i = 0; i < MOST && kindOfLetter(next()) != WALKER; i++) {
                readWalker();
            }
        }

        private void readWalker() {
            int kind = kindOfLetter(next());
            takeLetter(draft.walkers < MOST_WALKERS);
            int village = takeNumber(0, draft.villages - 1);
            takeSign(';');
            if (!faulty) {
                draft.addWalker(kind, village);
            }
        }

        private static int kindOfLetter(int letter) {
            switch (letter) {
                case 'o': return OLD;
                case 's': return SLOW;
                case 'l': return LIKES;
                case 't': return SISTER;
                case 'e': return EARLY;
                default: return WALKER;
            }
        }

        // behind a FAULT nothing more is seen, so that what reads on stops by itself
        private int next() {
            return faulty ? END : byteAt(place);
        }

        private int byteAt(int i) {
            return i >= 0 && i < length ? bytes[i] : END;
        }

        private void takeSign(int sign) {
            if (next() == sign) {
                place++;
            } else {
                fail(CANNOT_STAND, place);
            }
        }

        private void takeLetter(boolean hasRoom) {
            if (hasRoom) {
                place++;
            } else {
                fail(NO_ROOM, place);
            }
        }

        private int takeNumber(int least, int most) {
            int figures = figuresFrom(place);
            if (faulty || figures < 1 || figures > 2) {
                fail(CANNOT_STAND, place);
                return 0;
            }
            int number = 0;
            for (int i = place; i < place + figures; i++) {
                number = number * 10 + byteAt(i) - '0';
            }
            if (!isFrom(least, number, most)) {
                fail(WRONG_NUMBER, place);
                return 0;
            }
            place += figures;
            return number;
        }

        private int figuresFrom(int from) {
            int figures = 0;
            for (int i = from; i < length && isFrom('0', byteAt(i), '9'); i++) {
                figures++;
            }
            return figures;
        }

        private void fail(int number, int where) {
            if (!faulty) {
                faulty = true;
                latestFault = number;
                faultPlace = where;
            }
        }
    }

    /** All that is so on one DAY; with no VILLAGE there is no LAND. */
    private static final class Land {
        private static final int MORE_THAN_ANY_NIGHTS = 1000000;

        int villages = 0;
        int roadsTold = 0;
        int walkers = 0;
        int lasts = 0;
        int doorsShut = 0;
        int day = 0;
        int gain = 0;
        int paid = 0;
        final int[] worth = new int[MOST_VILLAGES];
        final int[] offers = new int[MOST_VILLAGES];
        final int[] roads = new int[MOST_VILLAGES];
        final int[] nightsIn = new int[MOST_VILLAGES];
        // the DAY on which a VILLAGE thaws: so no DAY has to count FROST down
        private final int[] thaws = new int[MOST_VILLAGES];
        final int[] kinds = new int[MOST_WALKERS];
        final int[] at = new int[MOST_WALKERS];
        final int[] before = new int[MOST_WALKERS];

        boolean isNone() {
            return villages == 0;
        }

        boolean hasVillage(int village) {
            return village >= 0 && village < villages;
        }

        boolean hasWalker(int walker) {
            return walker >= 0 && walker < walkers;
        }

        void becomeNone() {
            villages = 0;
            roadsTold = 0;
            walkers = 0;
            lasts = 0;
            doorsShut = 0;
            day = 0;
            gain = 0;
            paid = 0;
            Arrays.fill(roads, 0);
            Arrays.fill(nightsIn, 0);
            thawAll();
        }

        void becomeLike(Land other) {
            villages = other.villages;
            roadsTold = other.roadsTold;
            walkers = other.walkers;
            lasts = other.lasts;
            doorsShut = other.doorsShut;
            day = other.day;
            gain = other.gain;
            paid = other.paid;
            System.arraycopy(other.worth, 0, worth, 0, MOST_VILLAGES);
            System.arraycopy(other.offers, 0, offers, 0, MOST_VILLAGES);
            System.arraycopy(other.roads, 0, roads, 0, MOST_VILLAGES);
            System.arraycopy(other.nightsIn, 0, nightsIn, 0, MOST_VILLAGES);
            System.arraycopy(other.thaws, 0, thaws, 0, MOST_VILLAGES);
            System.arraycopy(other.kinds, 0, kinds, 0, MOST_WALKERS);
            System.arraycopy(other.at, 0, at, 0, MOST_WALKERS);
            System.arraycopy(other.before, 0, before, 0, MOST_WALKERS);
        }

        void addVillage(int itsWorth, int itsOffer) {
            if (villages < MOST_VILLAGES) {
                worth[villages] = itsWorth;
                offers[villages] = itsOffer;
                villages++;
            }
        }

        boolean canJoin(int a, int b) {
            return hasVillage(a) && hasVillage(b) && a != b && !isIn(roads[a], b);
        }

        void addRoad(int a, int b) {
            if (canJoin(a, b)) {
                roads[a] |= 1 << b;
                roads[b] |= 1 << a;
                roadsTold++;
            }
        }

        void addWalker(int kind, int village) {
            if (walkers < MOST_WALKERS) {
                kinds[walkers] = kind;
                at[walkers] = village;
                before[walkers] = NONE;
                walkers++;
            }
        }

        static boolean isIn(int bits, int village) {
            return (bits >> village & 1) != 0;
        }

        boolean isShut(int village) {
            return isIn(doorsShut, village);
        }

        void turnDoor(int village) {
            doorsShut ^= 1 << village;
        }

        int frostOf(int village) {
            return Math.max(0, thaws[village] - day);
        }

        int frozen() {
            int bits = 0;
            for (int v = 0; v < villages; v++) {
                if (thaws[v] > day) {
                    bits |= 1 << v;
                }
            }
            return bits;
        }

        void thawAll() {
            Arrays.fill(thaws, 0);
        }

        void passDay() {
            goOnAndSleep();
            layFrost();
        }

        /** A DAY but for its FROST, which leads nobody elsewhere. */
        void goOnAndSleep() {
            for (int w = 0; w < walkers; w++) {
                int village = goesTo(w);
                before[w] = at[w];
                at[w] = village;
                nightsIn[village]++;
                gain += worth[village];
                paid += paidTo(w);
            }
            day++;
        }

        private void layFrost() {
            for (int w = 0; w < walkers; w++) {
                thaws[at[w]] = day + lasts;
                for (int v = 0; v < villages; v++) {
                    if (isIn(roads[at[w]], v)) {
                        thaws[v] = Math.max(thaws[v], day + 1);
                    }
                }
            }
        }

        /** What the VILLAGE it is in pays to a WALKER for a night. */
        private int paidTo(int w) {
            return isPaid(kinds[w]) ? offers[at[w]] : 0;
        }

        private static boolean isPaid(int kind) {
            return kind == OLD || kind == SLOW || kind == LIKES;
        }

        int goesTo(int w) {
            int here = at[w];
            int open = roads[here] & ~doorsShut;
            switch (kinds[w]) {
                case SLOW: return day % 3 == 2 ? here : greatestOffer(open, here);
                case LIKES: return greatestOffer(withoutWayBack(open, before[w]), here);
                case SISTER: return fewestNights(here);
                case EARLY: return fewestNights(fewestNights(here));
                default: return greatestOffer(open, here);
            }
        }

        private static int withoutWayBack(int open, int back) {
            int others = back == NONE ? open : open & ~(1 << back);
            return others != 0 ? others : open;
        }

        private int greatestOffer(int open, int here) {
            int best = here;
            int most = -1;
            for (int v = 0; v < villages; v++) {
                if ((open >> v & 1) != 0 && offers[v] > most) {
                    best = v;
                    most = offers[v];
                }
            }
            return best;
        }

        private int fewestNights(int here) {
            int open = roads[here] & ~doorsShut;
            int best = here;
            int fewest = MORE_THAN_ANY_NIGHTS;
            for (int v = 0; v < villages; v++) {
                if ((open >> v & 1) != 0 && nightsIn[v] < fewest) {
                    best = v;
                    fewest = nightsIn[v];
                }
            }
            return best;
        }

        boolean hasSleeper(int village) {
            for (int w = 0; w < walkers; w++) {
                if (at[w] == village) {
                    return true;
                }
            }
            return false;
        }

        /** What the latest night brought a VILLAGE for itself. */
        int keptTonight(int village) {
            int kept = 0;
            for (int w = 0; w < walkers; w++) {
                if (at[w] == village) {
                    kept += worth[village] - paidTo(w);
                }
            }
            return kept;
        }

        /** The least VILLAGE in which two are; NONE. */
        int meetingPlace() {
            int least = NONE;
            for (int w = 0; w < walkers; w++) {
                for (int other = 0; other < w; other++) {
                    if (at[w] == at[other] && (least == NONE || at[w] < least)) {
                        least = at[w];
                    }
                }
            }
            return least;
        }

        int mostSlept() {
            int best = 0;
            for (int v = 1; v < villages; v++) {
                if (nightsIn[v] > nightsIn[best]) {
                    best = v;
                }
            }
            return best;
        }

        void keepOnly(int w) {
            kinds[0] = kinds[w];
            at[0] = at[w];
            before[0] = before[w];
            walkers = 1;
        }
    }

    /** The ACTS that can be undone, each as the LAND was ahead of it, in a ring. */
    private static final class Acts {
        static final int MOST = 24;

        private final Land[] ring = new Land[MOST];
        private int nextSlot = 0;
        int kept = 0;

        void forgetAll() {
            kept = 0;
        }

        void keep(Land land) {
            if (ring[nextSlot] == null) {
                ring[nextSlot] = new Land();
            }
            ring[nextSlot].becomeLike(land);
            nextSlot = (nextSlot + 1) % MOST;
            kept = Math.min(kept + 1, MOST);
        }

        int undoLatestOf(Land land) {
            int latest = (nextSlot + MOST - 1) % MOST;
            if (kept > 0 && ring[latest] != null) {
                land.becomeLike(ring[latest]);
                nextSlot = latest;
                kept--;
            }
            return kept;
        }
    }

    /** What would come; all of it happens to a LAND apart from the one that is. */
    private static final class Foretelling {
        static final int MOST_LATE = 6;
        private static final int MOST_DOORS = 3;
        private static final int ROUND_FROM = 100, ROUND_TO = 199;
        private static final long DRAW_TIMES = 16807L, DRAW_BY = 2147483647L;

        private final Land now;
        private final Land then = new Land();

        Foretelling(Land now) {
            this.now = now;
        }

        Land landBehind(int n) {
            then.becomeLike(now);
            for (int d = 0; d < n; d++) {
                then.passDay();
            }
            return then;
        }

        int firstFrozen(int village, int n) {
            then.becomeLike(now);
            for (int d = 0; d < n; d++) {
                then.passDay();
                if (then.frostOf(village) > 0) {
                    return d;
                }
            }
            return NONE;
        }

        /** The k-th VILLAGE to warn; how many there are for k = -1. */
        int warned(int k) {
            then.becomeLike(now);
            int many = 0;
            int seen = 0;
            for (int d = 0; d < MOST_AHEAD; d++) {
                then.passDay();
                int fresh = then.frozen() & ~seen;
                for (int v = 0; fresh != 0 && v < then.villages; v++) {
                    if (Land.isIn(fresh, v)) {
                        if (many == k) {
                            return v;
                        }
                        many++;
                    }
                }
                seen |= fresh;
            }
            return k == -1 ? many : NONE;
        }

        int leastLure(int village, int n) {
            for (int v = 0; v <= MOST_OFFER; v++) {
                then.becomeLike(now);
                then.offers[village] = v;
                if (someoneComes(village, n)) {
                    return v;
                }
            }
            return NONE;
        }

        private boolean someoneComes(int village, int n) {
            for (int d = 0; d < n; d++) {
                then.goOnAndSleep();
                if (then.hasSleeper(village)) {
                    return true;
                }
            }
            return false;
        }

        /** The doors to shut (bits) that keep all away from a VILLAGE; NONE. */
        int fewestDoors(int village, int n) {
            for (int many = 0; many <= MOST_DOORS; many++) {
                for (int doors = 0; doors < 1 << now.villages; doors++) {
                    if (Integer.bitCount(doors) == many && (doors & now.doorsShut) == 0
                            && keepAllAway(doors, village, n)) {
                        return doors;
                    }
                }
            }
            return NONE;
        }

        private boolean keepAllAway(int doors, int village, int n) {
            then.becomeLike(now);
            then.doorsShut |= doors;
            return !someoneComes(village, n);
        }

        int keepsForItself(int village, int offer, int n) {
            then.becomeLike(now);
            then.offers[village] = offer;
            int kept = 0;
            for (int d = 0; d < n; d++) {
                then.goOnAndSleep();
                kept += then.keptTonight(village);
            }
            return kept;
        }

        int bestOffer(int village, int n) {
            int best = 0;
            int most = keepsForItself(village, 0, n);
            for (int v = 1; v <= MOST_OFFER; v++) {
                int kept = keepsForItself(village, v, n);
                if (kept > most) {
                    best = v;
                    most = kept;
                }
            }
            return best;
        }

        int restless(int n) {
            int bits = 0;
            for (int village = 0; village < now.villages; village++) {
                if (wouldHaveMore(village, n)) {
                    bits |= 1 << village;
                }
            }
            return bits;
        }

        private boolean wouldHaveMore(int village, int n) {
            int has = keepsForItself(village, now.offers[village], n);
            for (int v = 0; v <= MOST_OFFER; v++) {
                if (v != now.offers[village] && keepsForItself(village, v, n) > has) {
                    return true;
                }
            }
            return false;
        }

        /** Whether a WALKER, were it of a KIND, would sleep where n ITEMS tell. */
        boolean goesSo(int walker, int kind, Rows rows, int firstItem, int n) {
            then.becomeLike(now);
            then.kinds[walker] = kind;
            for (int d = 0; d < n; d++) {
                then.goOnAndSleep();
                if (then.at[walker] != rows.itemAt(firstItem + d)) {
                    return false;
                }
            }
            return true;
        }

        /** Whether a WALKER alone, set out from a VILLAGE, would freeze what n ITEMS tell. */
        boolean freezesSo(int walker, int from, Rows rows, int firstItem, int n) {
            then.becomeLike(now);
            then.keepOnly(walker);
            then.thawAll();
            then.at[0] = from;
            then.before[0] = NONE;
            for (int d = 0; d < n; d++) {
                then.passDay();
                if (then.frozen() != rows.itemAt(firstItem + d)) {
                    return false;
                }
            }
            return true;
        }

        int roundOf(int walker) {
            then.becomeLike(now);
            int bits = 0;
            for (int d = 0; d <= ROUND_TO; d++) {
                then.goOnAndSleep();
                if (d >= ROUND_FROM) {
                    bits |= 1 << then.at[walker];
                }
            }
            return bits;
        }

        int firstMeeting(int n, boolean wantsVillage) {
            then.becomeLike(now);
            for (int d = 0; d < n; d++) {
                then.goOnAndSleep();
                int village = then.meetingPlace();
                if (village != NONE) {
                    return wantsVillage ? village : d;
                }
            }
            return NONE;
        }

        /**
         * In how many of 10 to the n cases a WALKER alone is in a VILLAGE: a DAY
         * it is late for has not been for it, so only how many it went counts.
         */
        long casesOfBeingIn(int walker, int p, int n, int village) {
            then.becomeLike(now);
            then.keepOnly(walker);
            long cases = 0;
            for (int gone = 0; gone <= n; gone++) {
                if (then.at[0] == village) {
                    cases += waysToChoose(gone, n) * power(p, gone) * power(10 - p, n - gone);
                }
                then.goOnAndSleep();
            }
            return cases;
        }

        private static long waysToChoose(int k, int n) {
            long ways = 1;
            for (int i = 1; i <= k; i++) {
                ways = ways * (n - k + i) / i;
            }
            return ways;
        }

        static long power(int base, int exponent) {
            long product = 1;
            for (int i = 0; i < exponent; i++) {
                product *= base;
            }
            return product;
        }

        /** At least 1, so that it can divide. */
        static long greatestShared(long a, long b) {
            long x = a;
            long y = b;
            for (int i = 0; i < 100 && y != 0; i++) {
                long rest = x % y;
                x = y;
                y = rest;
            }
            return Math.max(1, x);
        }

        Land landBehindYear(int n, int seed) {
            then.becomeLike(now);
            long x = seed;
            for (int d = 0; d < n && then.villages > 0; d++) {
                x = x * DRAW_TIMES % DRAW_BY;
                int drawn = (int) (x % then.villages);
                then.turnDoor(drawn);
                then.goOnAndSleep();
                then.turnDoor(drawn);
            }
            return then;
        }
    }

    /** Which KIND is which other one, too. */
    private static final class Kinds {
        static final int NO_KIND = -1;
        private static final int[] ABOVE = {NO_KIND, WALKER, OLD, OLD, WALKER, SISTER};

        static int above(int kind) {
            return isFrom(WALKER, kind, EARLY) ? ABOVE[kind] : NO_KIND;
        }

        static boolean isOf(int kind, int wanted) {
            int one = kind;
            for (int i = WALKER; i <= EARLY && one != NO_KIND; i++) {
                if (one == wanted) {
                    return true;
                }
                one = above(one);
            }
            return false;
        }
    }

    /** ASKS of WALKERS, and THE TRACE that their BODIES leave. */
    private static final class Asks {
        private static final int ASK_SIZE = 0, ASK_MARK = 1;
        private static final int MOST_TRACED = 16, DEEPEST = 8, NOT_TOLD = 0;
        private static final int[] SIZE_TOLD = {10, 11, 12, NOT_TOLD, 13, 14};
        private static final int[] MARK_TOLD = {20, 21, 24, 22, 23, NOT_TOLD};

        private final Land land;
        final int[] bodies = new int[MOST_TRACED];
        int traced = 0;

        Asks(Land land) {
            this.land = land;
        }

        int answer(int one, int what) {
            traced = 0;
            return asked(one, what, 0);
        }

        private int asked(int one, int what, int depth) {
            return gives(bodyFor(land.kinds[one], what), one, depth);
        }

        private static int bodyFor(int kind, int what) {
            int nearest = kind;
            for (int i = WALKER; i <= EARLY && isFrom(WALKER, nearest, EARLY); i++) {
                int body = what == ASK_SIZE ? SIZE_TOLD[nearest] : MARK_TOLD[nearest];
                if (body != NOT_TOLD) {
                    return body;
                }
                nearest = Kinds.above(nearest);
            }
            return NOT_TOLD;
        }

        private int gives(int body, int one, int depth) {
            if (depth > DEEPEST) {
                return 0;
            }
            leaveTrace(body);
            int deeper = depth + 1;
            switch (body) {
                case 10: return land.at[one];
                case 11: return gives(10, one, deeper) + asked(one, ASK_MARK, deeper);
                case 12: return -gives(11, one, deeper);
                case 13: return gives(10, one, deeper) - 100;
                case 14: return 2 * gives(13, one, deeper);
                case 20: return one;
                case 21: return gives(20, one, deeper) + land.offers[land.at[one]];
                case 22: return gives(21, one, deeper) - 1000;
                case 23: return gives(20, one, deeper) - asked(one, ASK_SIZE, deeper);
                case 24: return 2 * gives(21, one, deeper);
                default: return 0;
            }
        }

        private void leaveTrace(int body) {
            if (traced < MOST_TRACED) {
                bodies[traced] = body;
                traced++;
            }
        }
    }
}
