import java.util.Arrays;

/** A valley of millstones, as shared/DOC.md tells it. What is refused is answered, never thrown. */
public final class StoneWed {
    public static final int NONE = -1000000, BAD = -1000001, STATE = -1000002, FULL = -1000003;

    private static final int FINDINGS = -1000010;
    private static final int NULL = 1, PLACE = 2, KIND = 3, SIZE = 4, STORE = 5;
    private static final int FAULTS = -1000100;

    // Runners are the stones 0 to 3, beds the stones 4 to 7: BED and a bed's number.
    private static final int ROOM = 4, BED = 4, STONES = 8;
    private static final int DRESSED = 9;
    private static final int DAYS_AT_ONCE = 24, LAST_DAY = 999, DAYS_AHEAD = 60, DAYS_FITTED = 16;
    private static final int MOST_ASKED_FOR = 999, LAST_SEED = 999999;
    private static final int IMAGES = 2;

    private final Rows rows = new Rows();
    private final Reader reader = new Reader();
    private final Valley valley = new Valley();
    private final Valley[] images = {new Valley(), new Valley()};
    private final Acts acts = new Acts();
    private final Foretold foretold = new Foretold();
    private final Weddings weddings = new Weddings();
    private final Asks asks = new Asks();
    private int latestFault;
    private int latestFinding;

    public StoneWed() {
    }

    // ---- rows

    public int row(int row, int lane, int n) {
        if (!Rows.isPlace(row) || lane < 0 || lane >= Rows.LANES || n > Rows.ITEMS) {
            return BAD;
        }
        if (n < 0) {
            return found(SIZE);
        }
        rows.lay(row, lane, n);
        return clean(n);
    }

    public int set(int row, int i, int v) {
        if (!Rows.isPlace(row)) {
            return BAD;
        }
        if (rows.isMissing(row)) {
            return found(NULL);
        }
        if (!rows.holds(row, i, 1)) {
            return found(PLACE);
        }
        return clean(rows.put(row, i, v));
    }

    public int copy(int a, int i, int b, int j, int n) {
        if (!Rows.isPlace(a) || !Rows.isPlace(b)) {
            return BAD;
        }
        if (rows.isMissing(a) || rows.isMissing(b)) {
            return found(NULL);
        }
        if (rows.laneOf(a) != rows.laneOf(b)) {
            return found(STORE);
        }
        if (!rows.holds(a, i, n) || !rows.holds(b, j, n)) {
            return found(PLACE);
        }
        rows.carry(a, i, b, j, n);
        return clean(n);
    }

    public int drop(int row) {
        if (!Rows.isPlace(row)) {
            return BAD;
        }
        if (rows.isMissing(row)) {
            return found(NULL);
        }
        return clean(rows.lose(row));
    }

    // ---- valleys, acts

    public int feed(int letter) {
        if (letter < 0 || letter > 255) {
            return BAD;
        }
        return reader.tape.isFull() ? FULL : reader.tape.append(letter);
    }

    public int valley() {
        int fault = reader.read();
        reader.tape.empty();
        if (fault != 0) {
            latestFault = fault;
            return FAULTS - reader.place;
        }
        valley.become(reader.told);
        acts.forget();
        return valley.runners;
    }

    public int fault() {
        return latestFault;
    }

    public int days(int n) {
        if (!valley.stands()) {
            return STATE;
        }
        if (n < 1 || n > DAYS_AT_ONCE) {
            return BAD;
        }
        if (valley.day + n > LAST_DAY) {
            return FULL;
        }
        int ground = 0;
        for (int day = 0; day < n; day++) {
            acts.keep(valley);
            ground += valley.passDay();
        }
        return ground;
    }

    public int wed(int runner, int bed) {
        if (!valley.hasRunner(runner) || !valley.hasBed(bed)) {
            return BAD;
        }
        if (valley.runnerOn(bed) != NONE) {
            return STATE;
        }
        acts.keep(valley);
        valley.bedOf[runner] = bed;
        return valley.grindOn(runner, bed);
    }

    public int part(int runner) {
        if (!valley.hasRunner(runner)) {
            return BAD;
        }
        int bed = valley.bedOf[runner];
        if (bed == NONE) {
            return STATE;
        }
        acts.keep(valley);
        valley.bedOf[runner] = NONE;
        return bed;
    }

    public int dress(int stone) {
        if (!valley.hasStone(stone)) {
            return BAD;
        }
        acts.keep(valley);
        int had = valley.furrow[stone];
        valley.furrow[stone] = DRESSED;
        return had;
    }

    public int undo() {
        if (acts.kept == 0) {
            return STATE;
        }
        acts.takeBack(valley);
        return acts.kept;
    }

    public int runner(int runner, int what) {
        if (!valley.hasRunner(runner)) {
            return BAD;
        }
        switch (what) {
            case 0: return valley.rock[runner];
            case 1: return valley.furrow[runner];
            case 2: return valley.temper[runner];
            case 3: return valley.bedOf[runner];
            case 4: return valley.grindNow(runner);
            default: return BAD;
        }
    }

    public int bed(int bed, int what) {
        if (!valley.hasBed(bed)) {
            return BAD;
        }
        switch (what) {
            case 0: return valley.rock[BED + bed];
            case 1: return valley.furrow[BED + bed];
            case 2: return valley.temper[BED + bed];
            case 3: return valley.runnerOn(bed);
            case 4: return valley.flour[bed];
            default: return BAD;
        }
    }

    public int grinds(int runner, int bed) {
        if (!valley.hasRunner(runner) || !valley.hasBed(bed)) {
            return BAD;
        }
        return valley.grindOn(runner, bed);
    }

    // ---- foretold

    public int flour(int bed, int d) {
        if (!valley.hasBed(bed) || !isAhead(d)) {
            return BAD;
        }
        return foretold.after(valley, d).flour[bed];
    }

    public int flourOfAll(int d) {
        if (!valley.stands()) {
            return STATE;
        }
        return isAhead(d) ? foretold.after(valley, d).allFlour() : BAD;
    }

    public int blocks(int what) {
        if (!valley.stands()) {
            return STATE;
        }
        switch (what) {
            case 0: return foretold.howManyBlock(valley);
            case 1: return foretold.firstThatBlock(valley);
            default: return BAD;
        }
    }

    public int stable(int runner) {
        if (!valley.hasRunner(runner)) {
            return BAD;
        }
        weddings.settle(valley);
        return weddings.bedChosen(runner);
    }

    public int most(int d, int k) {
        if (!valley.stands()) {
            return STATE;
        }
        if (!isAhead(d) || !isHowMuchOrRunner(k)) {
            return BAD;
        }
        weddings.tryPairs(valley, d);
        weddings.seekMost();
        return k < 0 ? weddings.bestValue : weddings.bedChosen(k);
    }

    public int moved(int d, int q, int k) {
        if (!valley.stands()) {
            return STATE;
        }
        if (!isAhead(d) || !isEnough(q) || !isHowMuchOrRunner(k)) {
            return BAD;
        }
        weddings.tryPairs(valley, d);
        weddings.seekFewestMoved(q);
        if (!weddings.hasFound()) {
            return NONE;
        }
        return k < 0 ? -weddings.bestValue : weddings.bedChosen(k);
    }

    public int dressing(int d, int what) {
        if (!valley.stands()) {
            return STATE;
        }
        if (!isAhead(d) || what < 0 || what > 1) {
            return BAD;
        }
        int stone = foretold.bestDressed(valley, d);
        return what == 0 ? stone : foretold.groundIfDressed(valley, stone, d);
    }

    public int fits(int bed, int row, int i, int n, int what) {
        if (!valley.hasBed(bed) || !Rows.isPlace(row) || n < 1 || n > DAYS_FITTED || what < 0 || what > 2) {
            return BAD;
        }
        if (rows.isMissing(row)) {
            return found(NULL);
        }
        if (!rows.holds(row, i, n)) {
            return found(PLACE);
        }
        foretold.hear(rows, row, i, n);
        switch (what) {
            case 0: return clean(foretold.runnersThatFit(valley, bed));
            case 1: return clean(foretold.kindsThatFit(valley, bed));
            default: return clean(foretold.rocksThatFit(valley, bed));
        }
    }

    public int breaks(int q, int c, int what) {
        if (!valley.stands()) {
            return STATE;
        }
        if (!isEnough(q) || c < 0 || c > 10 || what < 0 || what > 1) {
            return BAD;
        }
        int ways = foretold.waysOfEnough(valley, q, c);
        int all = foretold.waysOfAll(valley);
        int common = Foretold.commonDivisor(ways, all);
        return (what == 0 ? ways : all) / common;
    }

    public int drawn(int n, int seed, int what) {
        if (!valley.stands()) {
            return STATE;
        }
        if (!isAhead(n) || seed < 1 || seed > LAST_SEED || what < 0 || what > 1) {
            return BAD;
        }
        int ground = foretold.groundByDraws(valley, n, seed);
        return what == 0 ? ground : foretold.then.allFurrows();
    }

    public int image(int k) {
        if (k < 0 || k >= IMAGES) {
            return BAD;
        }
        if (!valley.stands()) {
            return STATE;
        }
        images[k].become(valley);
        return 1;
    }

    public int restore(int k) {
        if (k < 0 || k >= IMAGES) {
            return BAD;
        }
        if (!images[k].stands()) {
            return STATE;
        }
        valley.become(images[k]);
        acts.forget();
        return 1;
    }

    // ---- asked

    public int kind(int runner) {
        return valley.hasRunner(runner) ? valley.kind[runner] : BAD;
    }

    public int as(int runner, int kind) {
        if (!valley.hasRunner(runner) || !Kinds.isOne(kind)) {
            return BAD;
        }
        return Kinds.isAlso(valley.kind[runner], kind) ? clean(runner) : found(KIND);
    }

    public int ask(int runner, int what) {
        if (!valley.hasRunner(runner) || what < 0 || what > 1) {
            return BAD;
        }
        return asks.answer(valley, runner, what);
    }

    public int trace(int i) {
        return asks.numberLeft(i);
    }

    public int count(int what) {
        switch (what) {
            case 0: return rows.howMany();
            case 1: return valley.beds;
            case 2: return valley.runners;
            case 3: return valley.day;
            case 4: return valley.allFlour();
            case 5: return valley.howManyLie();
            case 6: return acts.kept;
            case 7: return reader.tape.length;
            default: return BAD;
        }
    }

    public int status() {
        return latestFinding;
    }

    private int found(int finding) {
        latestFinding = finding;
        return FINDINGS - finding;
    }

    private int clean(int answer) {
        latestFinding = 0;
        return answer;
    }

    private static boolean isAhead(int d) {
        return d >= 0 && d <= DAYS_AHEAD;
    }

    private static boolean isEnough(int q) {
        return q >= 0 && q <= MOST_ASKED_FOR;
    }

    private static boolean isHowMuchOrRunner(int k) {
        return k >= -1 && k < ROOM;
    }

    /** Rows are made once, at their greatest, so that a call makes no array. */
    private static final class Rows {
        static final int PLACES = 8, ITEMS = 40, LANES = 3;
        private static final int MISSING = -1;

        private final int[][] items = new int[PLACES][ITEMS];
        private final int[] lane = new int[PLACES];
        private final int[] size = new int[PLACES];

        Rows() {
            Arrays.fill(size, MISSING);
        }

        static boolean isPlace(int row) {
            return row >= 0 && row < PLACES;
        }

        boolean isMissing(int row) {
            return size[row] == MISSING;
        }

        boolean holds(int row, int from, int n) {
            // n is taken from the size, since from and n together may wrap around.
            return from >= 0 && n >= 0 && from <= size[row] - n;
        }

        int laneOf(int row) {
            return lane[row];
        }

        int itemOf(int row, int i) {
            return items[row][i];
        }

        void lay(int row, int newLane, int n) {
            Arrays.fill(items[row], 0);
            lane[row] = newLane;
            size[row] = n;
        }

        int put(int row, int i, int v) {
            items[row][i] = lowestBits(lane[row], v);
            return items[row][i];
        }

        void carry(int a, int i, int b, int j, int n) {
            System.arraycopy(items[a], i, items[b], j, n);
        }

        int lose(int row) {
            int had = size[row];
            size[row] = MISSING;
            return had;
        }

        int howMany() {
            int many = 0;
            for (int row = 0; row < PLACES; row++) {
                many += isMissing(row) ? 0 : 1;
            }
            return many;
        }

        private static int lowestBits(int lane, int v) {
            switch (lane) {
                case 0: return (byte) v;
                case 1: return (short) v;
                default: return v;
            }
        }
    }

    private static final class Tape {
        static final int BYTES = 100;
        static final int END = -1;

        private final int[] bytes = new int[BYTES];
        int length;

        boolean isFull() {
            return length >= BYTES;
        }

        int append(int letter) {
            if (!isFull()) {
                bytes[length] = letter;
                length++;
            }
            return length;
        }

        void empty() {
            length = 0;
        }

        int at(int place) {
            return place >= 0 && place < length ? bytes[place] : END;
        }
    }

    /** Reads a text token by token; at the first fault it stands still, so that place tells where. */
    private static final class Reader {
        private static final int MISPLACED = 1, WRONG_NUMBER = 2, NO_ROOM = 3;
        private static final int FIGURES = 2;
        private static final int NO_BED = 9;

        final Tape tape = new Tape();
        final Valley told = new Valley();
        int place;
        private int fault;

        /** The number of the fault; 0, if there is none. */
        int read() {
            place = 0;
            fault = 0;
            told.clear();
            readLaw();
            readBeds();
            readRunners();
            return fault;
        }

        private void readLaw() {
            take('m');
            told.lasts = number(1, 9);
            take(',');
            told.peace = number(0, 9);
            take(';');
        }

        private void readBeds() {
            // One turn more than there is room for: it finds the bed that is too many.
            for (int turn = 0; turn <= ROOM && fault == 0 && (turn == 0 || tape.at(place) == 'b'); turn++) {
                readBed();
            }
        }

        private void readRunners() {
            for (int turn = 0; turn <= ROOM && fault == 0 && tape.at(place) != Tape.END; turn++) {
                readRunner();
            }
        }

        private void readBed() {
            if (told.beds >= ROOM) {
                fault = NO_ROOM;
                return;
            }
            take('b');
            readStone(BED + told.beds);
            take(';');
            told.beds++;
        }

        private void readRunner() {
            int kind = Kinds.ofLetter(tape.at(place));
            if (kind == Kinds.RUNNER) {
                fault = MISPLACED;
                return;
            }
            if (told.runners >= ROOM) {
                fault = NO_ROOM;
                return;
            }
            place++;
            told.kind[told.runners] = kind;
            readStone(told.runners);
            take(',');
            told.bedOf[told.runners] = bedTold();
            take(';');
            told.runners++;
        }

        private void readStone(int stone) {
            told.rock[stone] = number(0, 9);
            take(',');
            told.furrow[stone] = number(0, 9);
            take(',');
            told.temper[stone] = number(0, 9);
        }

        private int bedTold() {
            int first = place;
            int bed = number(0, NO_BED);
            if (fault != 0 || bed == NO_BED) {
                return NONE;
            }
            if (!told.hasBed(bed) || told.runnerOn(bed) != NONE) {
                place = first;
                fault = WRONG_NUMBER;
                return NONE;
            }
            return bed;
        }

        private void take(char sign) {
            if (fault != 0) {
                return;
            }
            if (tape.at(place) == sign) {
                place++;
            } else {
                fault = MISPLACED;
            }
        }

        private int number(int least, int greatest) {
            if (fault != 0) {
                return least;
            }
            int figures = 0;
            int value = 0;
            while (figures <= FIGURES && isFigure(tape.at(place + figures))) {
                value = 10 * value + tape.at(place + figures) - '0';
                figures++;
            }
            if (figures == 0 || figures > FIGURES) {
                fault = MISPLACED;
                return least;
            }
            if (value < least || value > greatest) {
                fault = WRONG_NUMBER;
                return least;
            }
            place += figures;
            return value;
        }

        private static boolean isFigure(int letter) {
            return letter >= '0' && letter <= '9';
        }
    }

    /** The stones and how they lie; one without a bed is none at all. */
    private static final class Valley {
        static final int CHANGING = STONES + ROOM + ROOM + 1;

        int lasts;
        int peace;
        int day;
        int beds;
        int runners;
        final int[] rock = new int[STONES];
        final int[] furrow = new int[STONES];
        final int[] temper = new int[STONES];
        final int[] kind = new int[ROOM];
        final int[] bedOf = new int[ROOM];
        final int[] flour = new int[ROOM];

        Valley() {
            Arrays.fill(bedOf, NONE);
        }

        void clear() {
            day = 0;
            beds = 0;
            runners = 0;
            Arrays.fill(flour, 0);
            partAll();
        }

        void become(Valley other) {
            lasts = other.lasts;
            peace = other.peace;
            day = other.day;
            beds = other.beds;
            runners = other.runners;
            System.arraycopy(other.rock, 0, rock, 0, STONES);
            System.arraycopy(other.furrow, 0, furrow, 0, STONES);
            System.arraycopy(other.temper, 0, temper, 0, STONES);
            System.arraycopy(other.kind, 0, kind, 0, ROOM);
            System.arraycopy(other.bedOf, 0, bedOf, 0, ROOM);
            System.arraycopy(other.flour, 0, flour, 0, ROOM);
        }

        /** Of what is told in a text no act changes any more than this. */
        void writeChanging(int[] page) {
            System.arraycopy(furrow, 0, page, 0, STONES);
            System.arraycopy(bedOf, 0, page, STONES, ROOM);
            System.arraycopy(flour, 0, page, STONES + ROOM, ROOM);
            page[STONES + ROOM + ROOM] = day;
        }

        void readChanging(int[] page) {
            System.arraycopy(page, 0, furrow, 0, STONES);
            System.arraycopy(page, STONES, bedOf, 0, ROOM);
            System.arraycopy(page, STONES + ROOM, flour, 0, ROOM);
            day = page[STONES + ROOM + ROOM];
        }

        boolean stands() {
            return beds > 0;
        }

        boolean hasRunner(int runner) {
            return runner >= 0 && runner < runners;
        }

        boolean hasBed(int bed) {
            return bed >= 0 && bed < beds;
        }

        boolean hasStone(int stone) {
            return stone < BED ? hasRunner(stone) : hasBed(stone - BED);
        }

        int runnerOn(int bed) {
            for (int runner = 0; runner < runners; runner++) {
                if (bedOf[runner] == bed) {
                    return runner;
                }
            }
            return NONE;
        }

        void partAll() {
            Arrays.fill(bedOf, NONE);
        }

        int grindNow(int runner) {
            int bed = bedOf[runner];
            return bed == NONE ? 0 : grindOn(runner, bed);
        }

        int grindOn(int runner, int bed) {
            int peaceful = grindInPeace(runner, bed);
            boolean quarrel = Math.abs(temper[runner] - temper[BED + bed]) > peace;
            return quarrel ? peaceful / 2 : peaceful;
        }

        private int grindInPeace(int runner, int bed) {
            int furrows = furrow[runner] + furrow[BED + bed];
            int gritty = Math.max(0, furrows - Math.abs(rock[runner] - rock[BED + bed]));
            int soft = furrow[BED + bed] / 2;
            switch (kind[runner]) {
                case Kinds.FRENCH: return 2 * gritty;
                case Kinds.SOFT: return soft;
                case Kinds.WIDOW: return day % 3 == 0 ? soft + 3 : soft;
                default: return gritty;
            }
        }

        int passDays(int d) {
            int ground = 0;
            for (int passed = 0; passed < d; passed++) {
                ground += passDay();
            }
            return ground;
        }

        int passDay() {
            int ground = 0;
            for (int runner = 0; runner < runners; runner++) {
                int bed = bedOf[runner];
                if (bed != NONE) {
                    int more = grindOn(runner, bed);
                    flour[bed] += more;
                    ground += more;
                    // No other runner lies on this bed, so it may wear before the others grind.
                    wearPair(runner, bed);
                }
            }
            day++;
            return ground;
        }

        private void wearPair(int runner, int bed) {
            if (lasts > 0 && day % lasts == 0) {
                wear(runner);
                wear(BED + bed);
            }
            if (kind[runner] == Kinds.SPARKING) {
                wear(BED + bed);
            }
        }

        private void wear(int stone) {
            if (furrow[stone] > 0) {
                furrow[stone]--;
            }
        }

        int howManyLie() {
            int many = 0;
            for (int runner = 0; runner < runners; runner++) {
                many += bedOf[runner] == NONE ? 0 : 1;
            }
            return many;
        }

        int allFlour() {
            int all = 0;
            for (int bed = 0; bed < beds; bed++) {
                all += flour[bed];
            }
            return all;
        }

        int allFurrows() {
            int all = 0;
            for (int stone = 0; stone < STONES; stone++) {
                all += hasStone(stone) ? furrow[stone] : 0;
            }
            return all;
        }
    }

    /** What was ahead of the latest acts: a ring, whose oldest page gives way. */
    private static final class Acts {
        private static final int MOST = 24;

        private final int[][] pages = new int[MOST][Valley.CHANGING];
        private int next;
        int kept;

        void keep(Valley valley) {
            valley.writeChanging(pages[next]);
            next = (next + 1) % MOST;
            kept = Math.min(kept + 1, MOST);
        }

        void takeBack(Valley valley) {
            if (kept > 0) {
                next = (next + MOST - 1) % MOST;
                kept--;
                valley.readChanging(pages[next]);
            }
        }

        void forget() {
            kept = 0;
        }
    }

    /** Tries what would be on a valley of its own, so that the one that stands never changes. */
    private static final class Foretold {
        private static final int NOBODY_LIES = 1 << ROOM;
        private static final int ROCKS = 10;
        private static final int TENTHS = 10;
        private static final long DRAW_FACTOR = 16807, DRAW_DIVISOR = 2147483647;

        final Valley then = new Valley();
        private final int[] heard = new int[DAYS_FITTED];
        private int daysHeard;

        Valley after(Valley now, int d) {
            then.become(now);
            then.passDays(d);
            return then;
        }

        int howManyBlock(Valley now) {
            int many = 0;
            for (int runner = 0; runner < now.runners; runner++) {
                for (int bed = 0; bed < now.beds; bed++) {
                    many += doBlock(now, runner, bed) ? 1 : 0;
                }
            }
            return many;
        }

        int firstThatBlock(Valley now) {
            for (int runner = 0; runner < now.runners; runner++) {
                for (int bed = 0; bed < now.beds; bed++) {
                    if (doBlock(now, runner, bed)) {
                        return 10 * runner + bed;
                    }
                }
            }
            return NONE;
        }

        private static boolean doBlock(Valley now, int runner, int bed) {
            int there = now.grindOn(runner, bed);
            int other = now.runnerOn(bed);
            int others = other == NONE ? 0 : now.grindNow(other);
            return now.bedOf[runner] != bed && there > now.grindNow(runner) && there > others;
        }

        int bestDressed(Valley now, int d) {
            int best = BED;
            int most = -1;
            for (int stone = 0; stone < STONES; stone++) {
                int ground = groundIfDressed(now, stone, d);
                if (ground > most) {
                    best = stone;
                    most = ground;
                }
            }
            return best;
        }

        /** Of a stone that is not there less than nothing, so that it is never the best. */
        int groundIfDressed(Valley now, int stone, int d) {
            if (!now.hasStone(stone)) {
                return -1;
            }
            then.become(now);
            then.furrow[stone] = DRESSED;
            return then.passDays(d);
        }

        void hear(Rows rows, int row, int from, int n) {
            daysHeard = Math.min(n, DAYS_FITTED);
            for (int day = 0; day < daysHeard; day++) {
                heard[day] = rows.itemOf(row, from + day);
            }
        }

        private boolean fitsHeard() {
            for (int day = 0; day < daysHeard; day++) {
                if (then.passDay() != heard[day]) {
                    return false;
                }
            }
            return true;
        }

        int runnersThatFit(Valley now, int bed) {
            int bits = 0;
            for (int runner = 0; runner < now.runners; runner++) {
                layAlone(now, runner, bed);
                bits |= fitsHeard() ? 1 << runner : 0;
            }
            then.become(now);
            then.partAll();
            return fitsHeard() ? bits | NOBODY_LIES : bits;
        }

        int kindsThatFit(Valley now, int bed) {
            int runner = now.runnerOn(bed);
            if (runner == NONE) {
                return 0;
            }
            int bits = 0;
            for (int kind = Kinds.GRITTY; kind <= Kinds.WIDOW; kind++) {
                layAlone(now, runner, bed);
                then.kind[runner] = kind;
                bits |= fitsHeard() ? 1 << kind : 0;
            }
            return bits;
        }

        int rocksThatFit(Valley now, int bed) {
            int runner = now.runnerOn(bed);
            if (runner == NONE) {
                return 0;
            }
            int bits = 0;
            for (int rock = 0; rock < ROCKS; rock++) {
                layAlone(now, runner, bed);
                then.rock[runner] = rock;
                bits |= fitsHeard() ? 1 << rock : 0;
            }
            return bits;
        }

        private void layAlone(Valley now, int runner, int bed) {
            then.become(now);
            then.partAll();
            then.bedOf[runner] = bed;
        }

        /** Of waysOfAll, ten for each runner that lies, so many grind enough. */
        int waysOfEnough(Valley now, int q, int c) {
            int enough = 0;
            for (int whole = 0; whole < 1 << now.runners; whole++) {
                if (groundBy(now, whole) >= q) {
                    enough += waysOf(now, whole, c);
                }
            }
            return enough;
        }

        int waysOfAll(Valley now) {
            int all = 1;
            for (int runner = 0; runner < now.runners; runner++) {
                all *= now.bedOf[runner] == NONE ? 1 : TENTHS;
            }
            return all;
        }

        private static int groundBy(Valley now, int whole) {
            int ground = 0;
            for (int runner = 0; runner < now.runners; runner++) {
                ground += isIn(whole, runner) ? now.grindNow(runner) : 0;
            }
            return ground;
        }

        private static int waysOf(Valley now, int whole, int c) {
            int ways = 1;
            for (int runner = 0; runner < now.runners; runner++) {
                if (now.bedOf[runner] != NONE) {
                    ways *= isIn(whole, runner) ? TENTHS - c : c;
                } else if (isIn(whole, runner)) {
                    // One that lies nowhere is counted in one half of the sets alone.
                    return 0;
                }
            }
            return ways;
        }

        private static boolean isIn(int set, int runner) {
            return (set >> runner & 1) == 1;
        }

        /** 1 at least, whatever is asked, so that it can divide. */
        static int commonDivisor(int a, int b) {
            int rest = a;
            int divisor = b;
            for (int turn = 0; turn < 64 && rest != 0; turn++) {
                int next = divisor % rest;
                divisor = rest;
                rest = next;
            }
            return Math.max(1, divisor);
        }

        int groundByDraws(Valley now, int n, int seed) {
            then.become(now);
            long draw = seed;
            int ground = 0;
            for (int day = 0; day < n; day++) {
                draw = draw * DRAW_FACTOR % DRAW_DIVISOR;
                dressDrawn(draw);
                ground += then.passDay();
            }
            return ground;
        }

        private void dressDrawn(long draw) {
            if (draw % 3 == 0 && then.runners > 0) {
                then.furrow[(int) (draw % then.runners)] = DRESSED;
            }
            if (draw % 3 == 1 && then.beds > 0) {
                then.furrow[BED + (int) (draw % then.beds)] = DRESSED;
            }
        }
    }

    /**
     * Chooses beds for all runners. How a pair grinds hangs on its two stones alone:
     * so each pair is tried once, and weddings are weighed by adding.
     */
    private static final class Weddings {
        // Less than any weddings are worth: nothing, or as many moves as there are runners.
        private static final int NOT_FOUND = -ROOM - 1;

        private final Valley then = new Valley();
        private final int[][] worth = new int[ROOM][ROOM];
        private final int[] asked = new int[ROOM];
        private final int[] tried = new int[ROOM];
        private final int[] chosen = new int[ROOM];
        private Valley now = then;
        private int needed;
        private boolean sparing;
        int bestValue;

        int bedChosen(int runner) {
            return now.hasRunner(runner) ? chosen[runner] : NONE;
        }

        boolean hasFound() {
            return bestValue != NOT_FOUND;
        }

        void settle(Valley valley) {
            now = valley;
            Arrays.fill(asked, 0);
            Arrays.fill(chosen, NONE);
            // No runner asks a bed twice, so there are no more turns than pairs.
            for (int turn = 0; turn < ROOM * ROOM; turn++) {
                int runner = nextToAsk();
                if (runner == NONE) {
                    return;
                }
                askBed(runner, bedToAsk(runner));
            }
        }

        private int nextToAsk() {
            for (int runner = 0; runner < now.runners; runner++) {
                if (chosen[runner] == NONE && bedToAsk(runner) != NONE) {
                    return runner;
                }
            }
            return NONE;
        }

        private int bedToAsk(int runner) {
            int dearest = NONE;
            int most = 0;
            for (int bed = 0; bed < now.beds; bed++) {
                int there = now.grindOn(runner, bed);
                if ((asked[runner] >> bed & 1) == 0 && there > most) {
                    dearest = bed;
                    most = there;
                }
            }
            return dearest;
        }

        private void askBed(int runner, int bed) {
            asked[runner] |= 1 << bed;
            int other = chosenFor(bed);
            if (other == NONE) {
                chosen[runner] = bed;
            } else if (now.grindOn(other, bed) < now.grindOn(runner, bed)) {
                chosen[other] = NONE;
                chosen[runner] = bed;
            }
        }

        private int chosenFor(int bed) {
            for (int runner = 0; runner < now.runners; runner++) {
                if (chosen[runner] == bed) {
                    return runner;
                }
            }
            return NONE;
        }

        void tryPairs(Valley valley, int d) {
            now = valley;
            for (int runner = 0; runner < now.runners; runner++) {
                for (int bed = 0; bed < now.beds; bed++) {
                    then.become(now);
                    then.partAll();
                    then.bedOf[runner] = bed;
                    worth[runner][bed] = then.passDays(d);
                }
            }
        }

        void seekMost() {
            sparing = false;
            seek(0);
        }

        void seekFewestMoved(int q) {
            sparing = true;
            seek(q);
        }

        private void seek(int atLeast) {
            needed = atLeast;
            bestValue = NOT_FOUND;
            choose(0, 0, 0, 0);
        }

        /** A level for each runner, beds first, then nowhere: so the first weddings come first. */
        private void choose(int runner, int taken, int ground, int moves) {
            if (runner >= ROOM || runner >= now.runners) {
                weigh(ground, moves);
                return;
            }
            for (int bed = 0; bed < now.beds; bed++) {
                if ((taken >> bed & 1) == 0) {
                    tryOn(bed, runner, taken | 1 << bed, ground + worth[runner][bed], moves);
                }
            }
            tryOn(NONE, runner, taken, ground, moves);
        }

        private void tryOn(int bed, int runner, int taken, int ground, int moves) {
            tried[runner] = bed;
            choose(runner + 1, taken, ground, now.bedOf[runner] == bed ? moves : moves + 1);
        }

        private void weigh(int ground, int moves) {
            int value = sparing ? -moves : ground;
            if (ground >= needed && value > bestValue) {
                bestValue = value;
                System.arraycopy(tried, 0, chosen, 0, ROOM);
            }
        }
    }

    private static final class Kinds {
        static final int RUNNER = 0, GRITTY = 1, FRENCH = 2, SPARKING = 3, SOFT = 4, WIDOW = 5;
        static final int NO_BODY = 0;
        private static final int[] NEXT_WIDER = {-1, RUNNER, GRITTY, GRITTY, RUNNER, SOFT};
        private static final int[] SIZES = {10, 11, 12, NO_BODY, 13, 14};
        private static final int[] MARKS = {20, 21, 24, 22, 23, NO_BODY};

        static boolean isOne(int kind) {
            return kind >= RUNNER && kind <= WIDOW;
        }

        /** RUNNER, if it is the letter of no sort. */
        static int ofLetter(int letter) {
            switch (letter) {
                case 'g': return GRITTY;
                case 'f': return FRENCH;
                case 's': return SPARKING;
                case 'o': return SOFT;
                case 'w': return WIDOW;
                default: return RUNNER;
            }
        }

        static boolean isAlso(int kind, int wider) {
            int reached = kind;
            for (int step = 0; step <= WIDOW && isOne(reached); step++) {
                if (reached == wider) {
                    return true;
                }
                reached = NEXT_WIDER[reached];
            }
            return false;
        }

        static int bodyOf(int kind, int what) {
            int reached = kind;
            for (int step = 0; step <= WIDOW && isOne(reached); step++) {
                int body = what == Asks.SIZE_ASKED ? SIZES[reached] : MARKS[reached];
                if (body != NO_BODY) {
                    return body;
                }
                reached = NEXT_WIDER[reached];
            }
            return NO_BODY;
        }
    }

    private static final class Asks {
        static final int SIZE_ASKED = 0, MARK_ASKED = 1;
        private static final int LEFT_AT_MOST = 16;
        // The longest chain of bodies, a mark that asks for a size, stays far below.
        private static final int DEEPEST = 12;

        private final int[] left = new int[LEFT_AT_MOST];
        private int howManyLeft;
        private int kind;
        private int rock;
        private int furrow;
        private int number;

        int answer(Valley valley, int runner, int what) {
            howManyLeft = 0;
            kind = valley.kind[runner];
            rock = valley.rock[runner];
            furrow = valley.furrow[runner];
            number = runner;
            return asked(what, 0);
        }

        int numberLeft(int i) {
            return i >= 0 && i < howManyLeft ? left[i] : NONE;
        }

        private int asked(int what, int depth) {
            return begin(Kinds.bodyOf(kind, what), depth);
        }

        private int begin(int body, int depth) {
            if (depth > DEEPEST) {
                return 0;
            }
            leave(body);
            return given(body, depth + 1);
        }

        private int given(int body, int depth) {
            switch (body) {
                case 10: return rock;
                case 11: return begin(10, depth) + asked(MARK_ASKED, depth);
                case 12: return -begin(11, depth);
                case 13: return begin(10, depth) - 100;
                case 14: return 2 * begin(13, depth);
                case 20: return number;
                case 21: return begin(20, depth) + furrow;
                case 22: return begin(21, depth) - 1000;
                case 23: return begin(20, depth) - asked(SIZE_ASKED, depth);
                case 24: return 2 * begin(21, depth);
                default: return 0;
            }
        }

        private void leave(int body) {
            if (howManyLeft < LEFT_AT_MOST) {
                left[howManyLeft] = body;
                howManyLeft++;
            }
        }
    }
}
