import java.util.Arrays;

/**
 * A debating chamber of dodgem cars on a floor of 6 by 6 cells. What each public call promises
 * stands in the document, DOC.md, under the same name; words in capitals are explained there.
 */
public final class DodgemDebate {
    public static final int NONE = -1, BAD = -2, NOT = -3, FULL = -4;

    private static final int SIDE = 6, CELLS = 36, MOMENTS = 24, MOST_AYE_X = 2;
    private static final int MOST_BYTES = 47, MOST_CARS = 8, MOST_STEERS = 12;
    private static final int MOST_EVENTS = 8, MOST_SEEN = 8;
    private static final int SORTS = 3, HEAVIEST = 9, SIXTEENTHS = 16;
    private static final int BELL = 0;
    private static final int LOST_SHEET = 1, NO_INDEX = 2, OTHER_FORM = 3, UNLIKE_FORMS = 4, BELOW_NONE = 5;
    private static final int LEAST_INT = -2147483648;
    private static final long BAD_LONG = -9223372036854775808L - BAD;
    private static final int[] STEP_X = {1, 0, -1, 0};
    private static final int[] STEP_Y = {0, 1, 0, -1};
    private static final int[] DIGEST_MOMENTS = {0, 7, 15, 23};

    private final Text carText = new Text();
    private final Text steerText = new Text();
    private final Cars cars = new Cars();
    private final Steers steers = new Steers();
    private final Events events = new Events();
    private final Sightings sightings = new Sightings();
    private final Sheets sheets = new Sheets();
    private final Run run = new Run();
    private final Trials trials = new Trials(cars, steers, events, sightings);
    private final Hash hash = new Hash();
    /** Whether texts or events were changed since they were last read and run. */
    private boolean stale = true;

    public DodgemDebate() {
    }

    // ---- cars, steers, events

    public int type(int text, int b) {
        if (!within(text, 2) || !within(b, 256)) {
            return BAD;
        }
        Text row = textOf(text);
        if (row.length >= MOST_BYTES) {
            return FULL;
        }
        row.append(b);
        stale = true;
        return row.length;
    }

    public int wipe(int text) {
        if (!within(text, 2)) {
            return BAD;
        }
        Text row = textOf(text);
        int had = row.length;
        row.length = 0;
        stale = true;
        return had;
    }

    public int undo(int text) {
        if (!within(text, 2)) {
            return BAD;
        }
        Text row = textOf(text);
        if (row.length == 0) {
            return NOT;
        }
        row.length--;
        stale = true;
        return row.length;
    }

    public int fault(int text) {
        if (!within(text, 2)) {
            return BAD;
        }
        settle();
        return text == 0 ? cars.flaw : steers.flaw;
    }

    public int car(int car, int what) {
        settle();
        if (!within(car, cars.size) || !within(what, Cars.PARTS)) {
            return BAD;
        }
        return cars.rows[car][what];
    }

    public int steer(int i, int what) {
        if (!within(i, MOST_STEERS) || !within(what, Steers.PARTS)) {
            return BAD;
        }
        settle();
        return steers.partOf(i, what);
    }

    public int event(int kind, int moment, int car) {
        if (!Events.fits(kind, moment, car)) {
            return BAD;
        }
        if (events.size >= MOST_EVENTS) {
            return FULL;
        }
        events.append(kind, moment, car);
        stale = true;
        return events.size;
    }

    public int back() {
        if (events.size == 0) {
            return NOT;
        }
        events.size--;
        stale = true;
        return events.size;
    }

    public int read(int s) {
        if (!within(s, Sheets.SHEETS)) {
            return BAD;
        }
        if (sheets.isLost(s)) {
            return sheets.found(LOST_SHEET);
        }
        int[] items = sheets.items[s];
        int taken = 0;
        for (int i = 0; i + 3 <= sheets.length[s] && events.size < MOST_EVENTS; i += 3) {
            if (!Events.fits(items[i], items[i + 1], items[i + 2])) {
                break;
            }
            events.append(items[i], items[i + 1], items[i + 2]);
            taken++;
        }
        stale = true;
        return taken;
    }

    // ---- moments

    public int at(int moment, int car, int what) {
        settle();
        if (!within(moment, MOMENTS) || !within(car, cars.size) || !within(what, Run.PARTS)) {
            return BAD;
        }
        return run.behind(moment, car, what);
    }

    public int who(int moment, int x, int y) {
        if (!within(moment, MOMENTS) || !onFloor(x, y)) {
            return BAD;
        }
        settle();
        return run.inCell(moment, x, y);
    }

    public int house(int moment, int what) {
        if (!within(moment, MOMENTS) || !within(what, 3)) {
            return BAD;
        }
        settle();
        return run.division(moment, what);
    }

    public int strikes() {
        settle();
        return run.strikeCount;
    }

    public int first(int what) {
        if (!within(what, 2)) {
            return BAD;
        }
        settle();
        return what == 0 ? run.firstMoment : run.firstCar;
    }

    public int best() {
        settle();
        return run.leader();
    }

    public int meek() {
        settle();
        return run.untouched();
    }

    public int jam(int what) {
        if (!within(what, 2)) {
            return BAD;
        }
        settle();
        int moment = run.worstJam();
        return what == 0 ? moment : run.stuck[moment];
    }

    public int carried() {
        settle();
        return run.divisionsCarried();
    }

    // ---- plans

    public int stand(int car, int what) {
        settle();
        if (!within(car, cars.size) || !within(what, 3)) {
            return BAD;
        }
        return standPart(trials.bestStand(car), what);
    }

    public int better(int car, int moment, int what) {
        settle();
        if (!within(car, cars.size) || !within(moment, MOMENTS) || !within(what, 2)) {
            return BAD;
        }
        return turnPart(trials.bestTurn(car, moment), what);
    }

    public int ring(int what) {
        if (!within(what, 2)) {
            return BAD;
        }
        settle();
        int moment = bestBell();
        return what == 0 ? moment : ayesAhead(moment);
    }

    public int spare(int i) {
        if (i < NONE || i > 1) {
            return BAD;
        }
        settle();
        return sparePart(trials.fewestSpared(), i);
    }

    // ---- seen, chance, ages

    public int seen(int moment, int car, int x, int y) {
        if (!within(moment, MOMENTS) || !within(car, MOST_CARS) || !onFloor(x, y)) {
            return BAD;
        }
        if (sightings.size >= MOST_SEEN) {
            return FULL;
        }
        sightings.append(moment, car, x, y);
        return sightings.size;
    }

    public int forget() {
        int had = sightings.size;
        sightings.size = 0;
        return had;
    }

    public int never() {
        settle();
        return trials.eventsThatNeverWere();
    }

    public int was(int car, int what) {
        settle();
        if (!within(car, cars.size) || !within(what, 2)) {
            return BAD;
        }
        return what == 0 ? trials.sortsOf(car) : trials.weightsOf(car);
    }

    public int ask(int car) {
        settle();
        if (!within(car, cars.size)) {
            return BAD;
        }
        return trials.momentToLook(car);
    }

    public long chance(int c, int car, int what) {
        settle();
        if (!within(c, SIXTEENTHS + 1) || !within(car, cars.size) || !within(what, 2)) {
            return BAD_LONG;
        }
        return fractionPart(trials.weighStruck(c, car), what);
    }

    public int ages(int seed, int n, int what) {
        if (!within(n, MOST_EVENTS + 1) || !within(what, 2)) {
            return BAD;
        }
        settle();
        trials.playAges(seed, n);
        return what == 0 ? trials.run.strikeCount : trials.run.allPoints();
    }

    // ---- sheets

    public int sheet(int s, int form, int n) {
        if (!within(s, Sheets.SHEETS) || !within(form, Sheets.FORMS) || n > Sheets.MOST_ITEMS) {
            return BAD;
        }
        if (n < 0) {
            return sheets.found(BELOW_NONE);
        }
        sheets.begin(s, form, n);
        return n;
    }

    public int lose(int s) {
        if (!within(s, Sheets.SHEETS)) {
            return BAD;
        }
        if (sheets.isLost(s)) {
            return sheets.found(LOST_SHEET);
        }
        int had = sheets.length[s];
        sheets.length[s] = NONE;
        return had;
    }

    public int put(int s, int form, int i, int v) {
        if (!within(s, Sheets.SHEETS) || !within(form, Sheets.FORMS)) {
            return BAD;
        }
        int finding = sheets.barTo(s, form, i);
        if (finding != 0) {
            return sheets.found(finding);
        }
        sheets.items[s][i] = Sheets.lowestBits(form, v);
        return 1;
    }

    public int get(int s, int form, int i) {
        if (!within(s, Sheets.SHEETS) || !within(form, Sheets.FORMS)) {
            return LEAST_INT;
        }
        int finding = sheets.barTo(s, form, i);
        if (finding != 0) {
            sheets.found(finding);
            return LEAST_INT;
        }
        return sheets.items[s][i];
    }

    public int copy(int s, int i, int t, int j, int n) {
        if (!within(s, Sheets.SHEETS) || !within(t, Sheets.SHEETS)) {
            return BAD;
        }
        if (sheets.isLost(s) || sheets.isLost(t)) {
            return sheets.found(LOST_SHEET);
        }
        if (sheets.form[s] != sheets.form[t]) {
            return sheets.found(UNLIKE_FORMS);
        }
        if (!sheets.hasSpan(s, i, n) || !sheets.hasSpan(t, j, n)) {
            return sheets.found(NO_INDEX);
        }
        System.arraycopy(sheets.items[s], i, sheets.items[t], j, n);
        return 1;
    }

    public int write(int car, int s) {
        settle();
        if (!within(car, cars.size) || !within(s, Sheets.SHEETS)) {
            return BAD;
        }
        if (sheets.isLost(s)) {
            return sheets.found(LOST_SHEET);
        }
        int written = Math.min(sheets.length[s], MOMENTS);
        for (int moment = 0; moment < written; moment++) {
            sheets.items[s][moment] = run.behind(moment, car, Run.POINTS);
        }
        return written;
    }

    public int count(int what) {
        settle();
        return tally(what);
    }

    public long digest() {
        settle();
        hash.value = 17;
        addTold();
        for (int car = 0; car < cars.size; car++) {
            addCar(car);
        }
        addHouse();
        addWhole();
        return hash.value;
    }

    private int tally(int what) {
        switch (what) {
            case 0: return cars.size;
            case 1: return steers.size;
            case 2: return carText.length;
            case 3: return steerText.length;
            case 4: return events.size;
            case 5: return run.strikeCount;
            case 6: return run.allPoints();
            case 7: return sightings.size;
            case 8: return sheets.latest;
            default: return BAD;
        }
    }

    // What goes into the digest is settled by then, so that none of it asks a public call, which would look again.
    private void addTold() {
        for (int what = 0; what <= 7; what++) {
            hash.add(tally(what));
        }
        hash.add(cars.flaw);
        hash.add(steers.flaw);
        for (int i = 0; i < MOST_STEERS; i++) {
            for (int what = 0; what < Steers.PARTS; what++) {
                hash.add(steers.partOf(i, what));
            }
        }
    }

    // What is dear to find is found once and parted, not asked for by each part.
    private void addCar(int car) {
        for (int what = 0; what < Cars.PARTS; what++) {
            hash.add(cars.rows[car][what]);
        }
        for (int moment : DIGEST_MOMENTS) {
            for (int what = 0; what < Run.PARTS; what++) {
                hash.add(run.behind(moment, car, what));
            }
        }
        int stand = trials.bestStand(car);
        for (int what = 0; what < 3; what++) {
            hash.add(standPart(stand, what));
        }
        int turn = trials.bestTurn(car, 9);
        hash.add(turnPart(turn, 0));
        hash.add(turnPart(turn, 1));
        hash.add(trials.sortsOf(car));
        hash.add(trials.weightsOf(car));
        hash.add(trials.momentToLook(car));
        long struck = trials.weighStruck(5, car);
        hash.add(fractionPart(struck, 0));
        hash.add(fractionPart(struck, 1));
    }

    private void addHouse() {
        for (int moment = 0; moment < MOMENTS; moment++) {
            for (int what = 0; what < 3; what++) {
                hash.add(run.division(moment, what));
            }
        }
    }

    private void addWhole() {
        hash.add(run.firstMoment);
        hash.add(run.firstCar);
        hash.add(run.leader());
        hash.add(run.untouched());
        int jammed = run.worstJam();
        hash.add(jammed);
        hash.add(run.stuck[jammed]);
        hash.add(run.divisionsCarried());
        int bell = bestBell();
        hash.add(bell);
        hash.add(ayesAhead(bell));
        int spared = trials.fewestSpared();
        hash.add(sparePart(spared, NONE));
        hash.add(sparePart(spared, 0));
        hash.add(trials.eventsThatNeverWere());
        trials.playAges(7, 6);
        hash.add(trials.run.strikeCount);
        hash.add(trials.run.allPoints());
    }

    private static boolean within(int value, int limit) {
        return value >= 0 && value < limit;
    }

    private static boolean onFloor(int x, int y) {
        return x >= 0 && x < SIDE && y >= 0 && y < SIDE;
    }

    private Text textOf(int text) {
        return text == 0 ? carText : steerText;
    }

    /** Reads and runs anew what was told, if it has changed; every call that looks comes through here. */
    private void settle() {
        if (!stale) {
            return;
        }
        cars.learn(carText);
        steers.learn(steerText);
        run.play(cars, steers, events, 0);
        trials.struckKnown = false;
        stale = false;
    }

    // Nobody goes while a bell is rung, and all was the same until then: who would be an aye
    // at one bell more is whoever is one ahead of that moment.
    private int ayesAhead(int moment) {
        return moment == 0 ? cars.ayesAsTold() : run.ayes(moment - 1);
    }

    private int bestBell() {
        int best = 0;
        for (int moment = 1; moment < MOMENTS; moment++) {
            if (ayesAhead(moment) > ayesAhead(best)) {
                best = moment;
            }
        }
        return best;
    }

    private static int standPart(int found, int what) {
        if (what == 2) {
            return found / CELLS;
        }
        int cell = found % CELLS;
        return what == 0 ? cell / SIDE : cell % SIDE;
    }

    private static int turnPart(int found, int what) {
        return what == 0 ? found % Trials.TURNS : found / Trials.TURNS;
    }

    private static int sparePart(int spared, int i) {
        if (spared == NONE) {
            return NONE;
        }
        if (i == NONE) {
            return Integer.bitCount(spared);
        }
        int rest = i == 0 ? spared : spared & (spared - 1);
        return rest == 0 ? NONE : Integer.bitCount((rest & -rest) - 1);
    }

    // Below is a power of two, so that lowest terms come by halving alone.
    private long fractionPart(long weight, int what) {
        long above = weight;
        long below = 1L << (4 * events.size);
        for (int i = 0; i < 4 * MOST_EVENTS && below > 1 && (above & 1) == 0; i++) {
            above /= 2;
            below /= 2;
        }
        return what == 0 ? above : below;
    }

    /** The bytes of a text. */
    private static final class Text {
        final int[] bytes = new int[MOST_BYTES];
        int length;

        void append(int b) {
            if (length < MOST_BYTES) {
                bytes[length] = b;
                length++;
            }
        }
    }

    /** What a text tells: rows of so many signs each, with ; between them. */
    private abstract static class Told {
        final int[][] rows;
        final int most;
        final int parts;
        int size;
        int flaw = NONE;

        Told(int[][] rows, int most, int parts) {
            this.rows = rows;
            this.most = most;
            this.parts = parts;
        }

        /** What a sign means as a part of a row, behind those that have been read; NONE: it cannot be there. */
        abstract int meaning(int row, int part, char sign);

        final void learn(Text text) {
            flaw = NONE;
            int row = 0;
            int part = 0;
            for (int i = 0; i < text.length && flaw == NONE; i++) {
                char sign = (char) text.bytes[i];
                if (part == parts) {
                    row++;
                    part = 0;
                    flaw = sign == ';' ? NONE : i;
                } else {
                    flaw = takes(row, part, sign) ? NONE : i;
                    part++;
                }
            }
            if (flaw == NONE && text.length > 0 && part != parts) {
                flaw = text.length;
            }
            size = flaw == NONE && text.length > 0 ? row + 1 : 0;
        }

        private boolean takes(int row, int part, char sign) {
            if (row >= most) {
                return false;
            }
            rows[row][part] = meaning(row, part, sign);
            return rows[row][part] != NONE;
        }
    }

    /** Cars as told. */
    private static final class Cars extends Told {
        static final int SORT = 0, X = 1, Y = 2, WAY = 3, WEIGHT = 4, PARTS = 5;
        static final int MINISTER = 1, HISTORIAN = 2;

        Cars() {
            super(new int[MOST_CARS][PARTS], MOST_CARS, PARTS);
        }

        int meaning(int row, int part, char sign) {
            switch (part) {
                case SORT: return "bmh".indexOf(sign);
                case X: return "012345".indexOf(sign);
                case Y: return isTaken(rows[row][X], sign - '0', row, row) ? NONE : "012345".indexOf(sign);
                case WAY: return "enws".indexOf(sign);
                default: return sign == '0' ? NONE : "0123456789".indexOf(sign);
            }
        }

        /** Whether a cell is told of one of the cars below a limit, but for one. */
        boolean isTaken(int x, int y, int limit, int butFor) {
            for (int i = 0; i < limit && i < MOST_CARS; i++) {
                if (i != butFor && rows[i][X] == x && rows[i][Y] == y) {
                    return true;
                }
            }
            return false;
        }

        int ayesAsTold() {
            int ayes = 0;
            for (int i = 0; i < size; i++) {
                if (rows[i][X] <= MOST_AYE_X) {
                    ayes++;
                }
            }
            return ayes;
        }

        void becomeLike(Cars other) {
            size = other.size;
            for (int i = 0; i < MOST_CARS; i++) {
                System.arraycopy(other.rows[i], 0, rows[i], 0, PARTS);
            }
        }
    }

    /** Steers as told, with room for one more, which is lent. */
    private static final class Steers extends Told {
        static final int MOMENT = 0, CAR = 1, TURN = 2, PARTS = 3;
        static final int LEFT = 1, RIGHT = 2;

        Steers() {
            super(new int[MOST_STEERS + 1][PARTS], MOST_STEERS, PARTS);
        }

        int meaning(int row, int part, char sign) {
            switch (part) {
                case MOMENT: return "abcdefghijklmnopqrstuvwx".indexOf(sign);
                case CAR: return "01234567".indexOf(sign);
                default: return sign == 'l' ? LEFT : sign == 'r' ? RIGHT : NONE;
            }
        }

        int partOf(int i, int part) {
            return i < size ? rows[i][part] : NONE;
        }

        void lend(int moment, int car, int turn) {
            if (size <= MOST_STEERS) {
                rows[size][MOMENT] = moment;
                rows[size][CAR] = car;
                rows[size][TURN] = turn;
                size++;
            }
        }

        void giveBack() {
            if (size > 0) {
                size--;
            }
        }
    }

    /** Bells and cuts, in the order in which they are told. */
    private static final class Events {
        final int[] kind = new int[MOST_EVENTS];
        final int[] moment = new int[MOST_EVENTS];
        final int[] car = new int[MOST_EVENTS];
        int size;

        static boolean fits(int kind, int moment, int car) {
            return within(kind, 2) && within(moment, MOMENTS) && within(car, MOST_CARS);
        }

        void append(int itsKind, int itsMoment, int itsCar) {
            if (size < MOST_EVENTS) {
                kind[size] = itsKind;
                moment[size] = itsMoment;
                car[size] = itsCar;
                size++;
            }
        }
    }

    /** Where cars were seen. */
    private static final class Sightings {
        final int[] moment = new int[MOST_SEEN];
        final int[] car = new int[MOST_SEEN];
        final int[] x = new int[MOST_SEEN];
        final int[] y = new int[MOST_SEEN];
        int size;

        void append(int itsMoment, int itsCar, int itsX, int itsY) {
            if (size < MOST_SEEN) {
                moment[size] = itsMoment;
                car[size] = itsCar;
                x[size] = itsX;
                y[size] = itsY;
                size++;
            }
        }

        boolean comeOutIn(Run run) {
            for (int i = 0; i < size; i++) {
                if (car[i] >= run.size
                        || run.behind(moment[i], car[i], Run.X) != x[i]
                        || run.behind(moment[i], car[i], Run.Y) != y[i]) {
                    return false;
                }
            }
            return true;
        }
    }

    /** All moments of one debate, and what is known behind each. */
    private static final class Run {
        static final int X = 0, Y = 1, WAY = 2, POINTS = 3, STRUCK = 4, CURRENT = 5, PARTS = 6;
        /** The bit by which a way and its opposite differ. */
        static final int ROUND = 2;

        /** How each car is, by part and car. */
        final int[][] now = new int[PARTS][MOST_CARS];
        /** How each car was, by part, then moment and car. */
        final int[][] past = new int[PARTS][MOMENTS * MOST_CARS];
        /** Who is in each cell. */
        final int[] board = new int[CELLS];
        final int[] rung = new int[MOMENTS];
        /** Of each moment the strikes by which both stay. */
        final int[] stuck = new int[MOMENTS];
        int size;
        int strikeCount;
        int firstMoment = NONE;
        int firstCar = NONE;
        /** Cars that strike or are struck, as bits. */
        int touched;

        /** Runs all moments; spared are the events, as bits, that are left out. */
        void play(Cars cars, Steers steers, Events events, int spared) {
            begin(cars);
            for (int moment = 0; moment < MOMENTS; moment++) {
                doEvents(events, spared, moment);
                doSteers(cars, steers, moment);
                for (int car = 0; car < size && rung[moment] == 0; car++) {
                    if (now[CURRENT][car] == 1) {
                        go(cars, moment, car);
                    }
                }
                keep(moment);
            }
        }

        private void begin(Cars cars) {
            size = cars.size;
            strikeCount = 0;
            firstMoment = NONE;
            firstCar = NONE;
            touched = 0;
            Arrays.fill(rung, 0);
            Arrays.fill(stuck, 0);
            Arrays.fill(board, NONE);
            for (int car = 0; car < size; car++) {
                int[] told = cars.rows[car];
                now[X][car] = told[Cars.X];
                now[Y][car] = told[Cars.Y];
                now[WAY][car] = told[Cars.WAY];
                now[POINTS][car] = 0;
                now[STRUCK][car] = 0;
                now[CURRENT][car] = 1;
                board[told[Cars.X] * SIDE + told[Cars.Y]] = car;
            }
        }

        private void doEvents(Events events, int spared, int moment) {
            for (int i = 0; i < events.size; i++) {
                if (events.moment[i] != moment || (spared >> i & 1) == 1) {
                    continue;
                }
                if (events.kind[i] == BELL) {
                    rung[moment] = 1;
                } else if (events.car[i] < size) {
                    now[CURRENT][events.car[i]] = 0;
                }
            }
        }

        private void doSteers(Cars cars, Steers steers, int moment) {
            for (int i = 0; i < steers.size; i++) {
                int[] steer = steers.rows[i];
                int car = steer[Steers.CAR];
                if (steer[Steers.MOMENT] == moment && car < size && cars.rows[car][Cars.SORT] != Cars.MINISTER) {
                    int turn = steer[Steers.TURN] == Steers.LEFT ? 1 : 3;
                    now[WAY][car] = (now[WAY][car] + turn) & 3;
                }
            }
        }

        private void go(Cars cars, int moment, int car) {
            int way = now[WAY][car];
            int to = cars.rows[car][Cars.SORT] == Cars.HISTORIAN ? way ^ ROUND : way;
            int x = now[X][car] + STEP_X[to];
            int y = now[Y][car] + STEP_Y[to];
            if (!onFloor(x, y)) {
                now[WAY][car] = way ^ ROUND;
                return;
            }
            int other = board[x * SIDE + y];
            if (other != NONE) {
                countStrike(moment, car, other, to);
                int nextX = x + STEP_X[to];
                int nextY = y + STEP_Y[to];
                boolean weak = cars.rows[car][Cars.WEIGHT] < cars.rows[other][Cars.WEIGHT];
                if (weak || !onFloor(nextX, nextY) || board[nextX * SIDE + nextY] != NONE) {
                    stuck[moment]++;
                    return;
                }
                shift(other, nextX, nextY);
            }
            shift(car, x, y);
        }

        private void countStrike(int moment, int car, int other, int to) {
            if (firstMoment == NONE) {
                firstMoment = moment;
                firstCar = car;
            }
            strikeCount++;
            touched |= 1 << car | 1 << other;
            int way = now[WAY][other];
            now[POINTS][car] += way == (to ^ ROUND) ? 3 : way == to ? 1 : 2;
            now[STRUCK][other]++;
        }

        private void shift(int car, int x, int y) {
            board[now[X][car] * SIDE + now[Y][car]] = NONE;
            board[x * SIDE + y] = car;
            now[X][car] = x;
            now[Y][car] = y;
        }

        private void keep(int moment) {
            for (int part = 0; part < PARTS; part++) {
                System.arraycopy(now[part], 0, past[part], moment * MOST_CARS, MOST_CARS);
            }
        }

        int behind(int moment, int car, int part) {
            return past[part][moment * MOST_CARS + car];
        }

        int inCell(int moment, int x, int y) {
            for (int car = 0; car < size; car++) {
                if (behind(moment, car, X) == x && behind(moment, car, Y) == y) {
                    return car;
                }
            }
            return NONE;
        }

        int ayes(int moment) {
            int ayes = 0;
            for (int car = 0; car < size; car++) {
                if (behind(moment, car, X) <= MOST_AYE_X) {
                    ayes++;
                }
            }
            return ayes;
        }

        /** The ayes (0), the noes (1), whether it is rung (2). */
        int division(int moment, int what) {
            if (what == 2) {
                return rung[moment];
            }
            return what == 0 ? ayes(moment) : size - ayes(moment);
        }

        int divisionsCarried() {
            int carried = 0;
            for (int moment = 0; moment < MOMENTS; moment++) {
                if (rung[moment] == 1 && 2 * ayes(moment) > size) {
                    carried++;
                }
            }
            return carried;
        }

        int leader() {
            int leader = NONE;
            for (int car = 0; car < size; car++) {
                if (leader == NONE || now[POINTS][car] > now[POINTS][leader]) {
                    leader = car;
                }
            }
            return leader;
        }

        int untouched() {
            return ~touched & ((1 << size) - 1);
        }

        int worstJam() {
            int worst = 0;
            for (int moment = 1; moment < MOMENTS; moment++) {
                if (stuck[moment] > stuck[worst]) {
                    worst = moment;
                }
            }
            return worst;
        }

        int allPoints() {
            int all = 0;
            for (int car = 0; car < size; car++) {
                all += now[POINTS][car];
            }
            return all;
        }

        boolean wasStruck(int car) {
            return now[STRUCK][car] > 0;
        }
    }

    /** What would have come of it, had something been otherwise. */
    private static final class Trials {
        static final int TURNS = 3;

        final Cars told;
        final Steers steers;
        final Events events;
        final Sightings sightings;
        /** The cars as told, but for what is tried of one. */
        final Cars tried = new Cars();
        final Events drawn = new Events();
        final Run run = new Run();
        /** By weight and moment the cell of the car that is asked of; NONE where the weight is ruled out. */
        final int[][] cells = new int[HEAVIEST + 1][MOMENTS];
        /** By the events that are left out, as bits: cars that are ever struck, as bits. */
        final int[] struck = new int[1 << MOST_EVENTS];
        boolean struckKnown;

        Trials(Cars told, Steers steers, Events events, Sightings sightings) {
            this.told = told;
            this.steers = steers;
            this.events = events;
            this.sightings = sightings;
        }

        /** The most points, and the least cell by which they come, as one number. */
        int bestStand(int car) {
            tried.becomeLike(told);
            int most = NONE;
            int best = 0;
            for (int cell = 0; cell < CELLS; cell++) {
                if (told.isTaken(cell / SIDE, cell % SIDE, told.size, car)) {
                    continue;
                }
                tried.rows[car][Cars.X] = cell / SIDE;
                tried.rows[car][Cars.Y] = cell % SIDE;
                run.play(tried, steers, events, 0);
                if (run.now[Run.POINTS][car] > most) {
                    most = run.now[Run.POINTS][car];
                    best = cell;
                }
            }
            return most * CELLS + best;
        }

        /** The most points, and the least turn by which they come, as one number. */
        int bestTurn(int car, int moment) {
            run.play(told, steers, events, 0);
            int most = run.now[Run.POINTS][car];
            int best = 0;
            for (int turn = 1; turn < TURNS; turn++) {
                steers.lend(moment, car, turn);
                run.play(told, steers, events, 0);
                steers.giveBack();
                if (run.now[Run.POINTS][car] > most) {
                    most = run.now[Run.POINTS][car];
                    best = turn;
                }
            }
            return most * TURNS + best;
        }

        /** The events, as bits, that had better not be; NONE if no two are enough. */
        int fewestSpared() {
            if (touchesAll(0)) {
                return 0;
            }
            for (int i = 0; i < events.size; i++) {
                if (touchesAll(1 << i)) {
                    return 1 << i;
                }
            }
            for (int i = 0; i < events.size; i++) {
                for (int j = i + 1; j < events.size; j++) {
                    if (touchesAll(1 << i | 1 << j)) {
                        return 1 << i | 1 << j;
                    }
                }
            }
            return NONE;
        }

        private boolean touchesAll(int spared) {
            run.play(told, steers, events, spared);
            return run.untouched() == 0;
        }

        int eventsThatNeverWere() {
            int bits = 0;
            for (int i = 0; i < events.size; i++) {
                run.play(told, steers, events, 1 << i);
                if (sightings.comeOutIn(run)) {
                    bits |= 1 << i;
                }
            }
            return bits;
        }

        int sortsOf(int car) {
            tried.becomeLike(told);
            int bits = 0;
            for (int sort = 0; sort < SORTS; sort++) {
                if (agrees(car, Cars.SORT, sort)) {
                    bits |= 1 << sort;
                }
            }
            return bits;
        }

        int weightsOf(int car) {
            tried.becomeLike(told);
            int bits = 0;
            for (int weight = 1; weight <= HEAVIEST; weight++) {
                if (agrees(car, Cars.WEIGHT, weight)) {
                    bits |= 1 << weight;
                }
            }
            return bits;
        }

        private boolean agrees(int car, int part, int value) {
            tried.rows[car][part] = value;
            run.play(tried, steers, events, 0);
            return sightings.comeOutIn(run);
        }

        int momentToLook(int car) {
            tried.becomeLike(told);
            for (int weight = 1; weight <= HEAVIEST; weight++) {
                boolean possible = agrees(car, Cars.WEIGHT, weight);
                for (int moment = 0; moment < MOMENTS; moment++) {
                    cells[weight][moment] = possible ? cellOf(moment, car) : NONE;
                }
            }
            int best = 0;
            int least = mostAlike(0);
            for (int moment = 1; moment < MOMENTS; moment++) {
                int alike = mostAlike(moment);
                if (alike < least) {
                    least = alike;
                    best = moment;
                }
            }
            return best;
        }

        private int cellOf(int moment, int car) {
            return run.behind(moment, car, Run.X) * SIDE + run.behind(moment, car, Run.Y);
        }

        private int mostAlike(int moment) {
            int most = 0;
            for (int weight = 1; weight <= HEAVIEST; weight++) {
                int alike = 0;
                for (int other = 1; other <= HEAVIEST; other++) {
                    if (cells[weight][moment] != NONE && cells[other][moment] == cells[weight][moment]) {
                        alike++;
                    }
                }
                most = Math.max(most, alike);
            }
            return most;
        }

        /** The chance that a car is ever struck, by sixteenths multiplied as often as there are events. */
        long weighStruck(int c, int car) {
            findStruck();
            long weight = 0;
            for (int spared = 0; spared < 1 << events.size; spared++) {
                if ((struck[spared] >> car & 1) == 1) {
                    weight += weightOf(spared, c);
                }
            }
            return weight;
        }

        private long weightOf(int spared, int c) {
            long weight = 1;
            for (int i = 0; i < events.size; i++) {
                weight *= (spared >> i & 1) == 1 ? SIXTEENTHS - c : c;
            }
            return weight;
        }

        // All cars share these runs, the dearest ones: they are kept until something changes.
        private void findStruck() {
            if (struckKnown) {
                return;
            }
            for (int spared = 0; spared < 1 << events.size; spared++) {
                run.play(told, steers, events, spared);
                int bits = 0;
                for (int car = 0; car < run.size; car++) {
                    if (run.wasStruck(car)) {
                        bits |= 1 << car;
                    }
                }
                struck[spared] = bits;
            }
            struckKnown = true;
        }

        void playAges(int seed, int n) {
            drawn.size = 0;
            int next = seed;
            for (int i = 0; i < n && told.size > 0; i++) {
                next = nextSeed(next);
                int kind = lot(next, 2);
                next = nextSeed(next);
                int moment = lot(next, MOMENTS);
                next = nextSeed(next);
                drawn.append(kind, moment, lot(next, told.size));
            }
            run.play(told, steers, drawn, 0);
        }

        private static int nextSeed(int seed) {
            return 1103515245 * seed + 12345;
        }

        private static int lot(int seed, int m) {
            return m > 0 ? (seed >>> 16) % m : 0;
        }
    }

    /** Rows of bytes, shorts or ints, all made ahead, so that no call makes a new one. */
    private static final class Sheets {
        static final int SHEETS = 4, FORMS = 3, MOST_ITEMS = 60;
        static final int BYTES = 0, SHORTS = 1;

        final int[][] items = new int[SHEETS][MOST_ITEMS];
        final int[] form = new int[SHEETS];
        /** How many items each has; NONE: it is lost. */
        final int[] length = {NONE, NONE, NONE, NONE};
        /** The number of the latest finding. */
        int latest;

        int found(int finding) {
            latest = finding;
            return -10 - finding;
        }

        boolean isLost(int s) {
            return length[s] == NONE;
        }

        void begin(int s, int itsForm, int n) {
            form[s] = itsForm;
            length[s] = n;
            Arrays.fill(items[s], 0);
        }

        /** The finding that bars the way to an item; 0: none does. */
        int barTo(int s, int asForm, int i) {
            if (isLost(s)) {
                return LOST_SHEET;
            }
            if (form[s] != asForm) {
                return OTHER_FORM;
            }
            return within(i, length[s]) ? 0 : NO_INDEX;
        }

        // Written so that no sum of outside numbers can wrap.
        boolean hasSpan(int s, int from, int n) {
            return from >= 0 && n >= 0 && n <= length[s] && from <= length[s] - n;
        }

        static int lowestBits(int form, int v) {
            return form == BYTES ? (byte) v : form == SHORTS ? (short) v : v;
        }
    }

    /** The sum that digest tells. */
    private static final class Hash {
        long value;

        void add(long next) {
            value = 31 * value + next;
        }
    }
}
