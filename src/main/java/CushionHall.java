import java.util.Arrays;

/** Cushions in a lecture hall. The promises stand in the document DOC.md; words in CAPITALS are its terms. */
public final class CushionHall {
    public static final int NONE = -1, BAD = -2, STATE = -3, FULL = -4;
    public static final long NO = -4611686018427387904L;

    private static final int NOTHING = -11, OUTSIDE = -12, OTHER_SORT = -13, BELOW_ZERO = -14;
    private static final int BEFORE_FAULT = -100;

    private static final int MOST_STUFFS = 8, MOST_HALLS = 6, MOST_SURFACES = 6, MOST_NIGHTS = 40;
    private static final int MOST_TEXTS = 6, MOST_SHEETS = 4, MOST_CELLS = 40, MOST_BYTES = 160;
    private static final int MOST_LAWS = 60, MOST_CUSHION = 990, CUSHION_STEP = 10;
    private static final int MOST_AIMED = 5, MOST_AIM_STUFFS = 6;
    private static final int MOST_SIZE = 99999, MOST_TIME = 99999, MOST_SLIP = 9999, MOST_NUMBER = 999;
    private static final int MOST_SEATS = 400, MOST_STEPS = 400, MOST_MANY_TO_COME = 200, MANY_STEP = 20;
    private static final int WALLS_EAT = 100, WINDOW_EATS = 100, CLEAR_TIME = 180;
    private static final int NIGHT_PARTS = 5, MOST_AT_ONCE = 8;
    private static final long ANY_SUM = 9223372036854775807L;

    /** What set() calls the numbers. */
    private static final int LAW = 0, CUSHION = 1, PERSON = 2, COAT = 3;

    private static final int CUSHIONED = 1, WINDOWED = 2, PEOPLED = 3, COATED = 4, FAR = 5;
    /** For each KIND the one that it is under. */
    private static final int[] UNDER = {-1, 0, 0, 1, 1, 2};

    private static final String FIRST_TEXT = "late tired * 2 ; leave time = 0 ;";

    private final Stuff[] stuffRow = new Stuff[MOST_STUFFS];
    private final Hall[] hallRow = new Hall[MOST_HALLS];
    private final Night[] nightRow = new Night[MOST_NIGHTS];
    private final Text[] textRow = new Text[MOST_TEXTS];
    private final Sheet[] sheetRow = new Sheet[MOST_SHEETS];
    private int stuffs, halls, nightsNow, texts;
    private final int[] numbers = {49, 100, 450, 30};
    private int rule;
    private final Tape tape = new Tape();
    private final Speakers speakers = new Speakers();
    private final int[] met = new int[MOST_SEATS];
    private final int[] keptNumbers = new int[4];
    private int keptRule, keptHalls, keptNights = NONE;

    public CushionHall() {
        for (int i = 0; i < FIRST_TEXT.length(); i++) tape.append(FIRST_TEXT.charAt(i));
        textRow[0] = tape.read();
        texts = 1;
        for (int i = 0; i < sheetRow.length; i++) sheetRow[i] = new Sheet();
    }

    // ---- stuffs, halls

    public int stuff(int eats, int coin) {
        if (!within(eats, 0, 999999) || !within(coin, 0, 99)) return BAD;
        if (stuffs >= stuffRow.length) return FULL;
        stuffRow[stuffs] = new Stuff(eats, coin);
        return stuffs++;
    }

    public int hall(int size, int wide, int deep) {
        if (!within(size, 1, MOST_SIZE) || !within(wide, 2, 20) || !within(deep, 2, 20)) return BAD;
        if (halls >= hallRow.length) return FULL;
        hallRow[halls] = new Hall(size, wide, deep);
        return halls++;
    }

    public int surface(int hall, int stuff, int feet) {
        Hall h = hallAt(hall);
        if (h == null || stuffAt(stuff) == null || !within(feet, 0, 9999)) return BAD;
        return h.addSurface(stuff, feet);
    }

    public int cover(int hall, int surface, int stuff) {
        Hall h = hallAt(hall);
        if (h == null || !h.hasSurface(surface) || stuffAt(stuff) == null) return BAD;
        return h.coverWith(surface, stuff);
    }

    public int set(int what, int v) {
        if (!within(what, LAW, COAT) || !within(v, what == LAW ? 1 : 0, MOST_NUMBER)) return BAD;
        int was = numbers[what];
        numbers[what] = v;
        return was;
    }

    public long eaten(int hall, int pitch, int what) {
        Hall h = hallAt(hall);
        if (h == null || !within(pitch, 0, 2) || !within(what, 0, 1)) return NO;
        long eats = eatenIn(h, pitch);
        return what == 0 ? eats : timeOf(h, numbers[LAW], eats);
    }

    // ---- nights

    public int night(int kind, int where, int many, int heard, int tired) {
        Hall h = hallOf(where);
        if (h == null || !within(kind, 0, FAR) || !within(many, 0, MOST_NUMBER)) return BAD;
        if (!within(heard, 0, MOST_TIME) || !within(tired, 0, 9)) return BAD;
        if (nightsNow >= nightRow.length) return FULL;
        nightRow[nightsNow] = new Night(kind, h, where, many, heard, tired);
        return nightsNow++;
    }

    public long told(int night, int what) {
        Night n = nightAt(night);
        if (n == null || !within(what, 0, 10)) return NO;
        switch (what) {
            case 6: return moreOf(n, numbers[CUSHION]);
            case 7: return lateOf(n);
            case 8: return dueOf(n);
            case 9: return n.heard - dueOf(n);
            case 10: return isLeftOut(n) ? 1 : 0;
            default: return n.part(what);
        }
    }

    public int feed(int n, long bytes) {
        if (!within(n, 1, 8)) return BAD;
        if (!tape.hasRoom(n)) return FULL;
        for (int i = 0; i < n; i++) tape.append((int) (bytes >> (8 * i)) & 255);
        return tape.size;
    }

    public int text() {
        if (texts >= textRow.length) return FULL;
        Text t = tape.read();
        if (t == null) return BEFORE_FAULT - tape.fault;
        textRow[texts] = t;
        return texts++;
    }

    public int force(int text) {
        if (!within(text, 0, texts - 1)) return BAD;
        int was = rule;
        rule = text;
        return was;
    }

    // ---- what nights say

    public long fit(int from, int to, int what) {
        if (!areLaws(from, to) || !within(what, 0, 2)) return NO;
        gatherSpeakers(NONE);
        long best = -1;
        int law = from;
        int cushion = 0;
        for (int c = 0; c <= MOST_CUSHION; c += CUSHION_STEP) {
            tryCushion(c);
            for (int l = from; l <= to; l++) {
                // Of like sums the least LAW wins, so a later CUSHION needs a lesser LAW to be no more off.
                long most = best < 0 ? ANY_SUM : l < law ? best : best - 1;
                long sum = speakers.sumUpTo(l, most);
                if (sum <= most) {
                    best = sum;
                    law = l;
                    cushion = c;
                }
            }
        }
        return what == 0 ? law : what == 1 ? cushion : best;
    }

    public int lets(int laws, int slip, int what) {
        if (!areLaws(laws / 1000, laws % 1000) || !within(slip, 0, MOST_SLIP) || !within(what, 0, 2)) return BAD;
        judgePairs(laws, slip);
        return what == 0 ? speakers.let : what == 1 ? speakers.leastLet : speakers.mostLet;
    }

    public int thrownOut(int laws, int slip) {
        if (!areLaws(laws / 1000, laws % 1000) || !within(slip, 0, MOST_SLIP)) return BAD;
        judgePairs(laws, slip);
        return speakers.let > 0 ? NONE : speakers.numberAt(speakers.furthest);
    }

    public long better(int hall, int what) {
        if (hallAt(hall) == null || !within(what, 0, 2)) return NO;
        gatherSpeakers(hall);
        long straight = speakers.straightSum();
        if (straight < 0) return STATE;
        tryCushion(numbers[CUSHION]);
        long bent = speakers.sumUpTo(numbers[LAW], ANY_SUM);
        return what == 0 ? straight : what == 1 ? bent : Long.compare(straight, bent);
    }

    public int narrows(int laws, int slip, int where, int most) {
        Hall h = hallOf(where);
        if (!areLaws(laws / 1000, laws % 1000) || !within(slip, 0, MOST_SLIP)) return BAD;
        if (h == null || !within(most, 0, MOST_MANY_TO_COME)) return BAD;
        judgePairs(laws, slip);
        if (speakers.let == 0) return STATE;
        long eats = eatenIn(h, where % 10);
        long widest = -1;
        int best = 0;
        for (int many = 0; many <= most; many += MANY_STEP) {
            // LATE is the same by both CUSHIONS, so it does not part them.
            long longest = timeOf(h, numbers[LAW], eats + many * speakers.leastLet);
            long shortest = timeOf(h, numbers[LAW], eats + many * speakers.mostLet);
            if (longest - shortest > widest) {
                widest = longest - shortest;
                best = many;
            }
        }
        return best;
    }

    // ---- plans

    public long plan(int hall, int pitch, int people) {
        Hall h = hallAt(hall);
        if (h == null || !within(pitch, 0, 2) || !within(people, 0, MOST_NUMBER)) return NO;
        return timeWith(h, pitch, people);
    }

    public long aim(int where, int people, int time, int slip, int what) {
        Hall h = hallOf(where);
        if (h == null || !within(people, 0, MOST_NUMBER) || !within(time, 0, MOST_TIME)) return NO;
        if (!within(slip, 0, MOST_SLIP) || !within(what, 0, 1)) return NO;
        if (h.surfaces > MOST_AIMED || stuffs > MOST_AIM_STUFFS) return FULL;
        Aim aim = new Aim(h, where % 10, numbers[LAW], time, slip, stuffRow, stuffs);
        tryStuffs(aim, 0, WALLS_EAT + (long) people * numbers[PERSON], 0, 0);
        return what == 0 ? aim.coin : aim.digits;
    }

    public long wrong(int where, int people, int time, int what, int part) {
        Hall h = hallOf(where);
        if (h == null || !within(people, 0, MOST_NUMBER) || !within(time, 0, MOST_TIME)) return NO;
        if (!within(what, 0, 2) || !within(part, 0, 1)) return NO;
        Guess guess = guessOf(what, h, eatenIn(h, where % 10), people);
        int number = guess.nearest(time);
        return part == 0 ? number : Math.abs(guess.timeBy(number) - time);
    }

    public int echo(int hall, int seat, int way, int n) {
        Hall h = hallAt(hall);
        if (h == null || !within(seat, 0, h.seats() - 1)) return BAD;
        if (!within(way, 0, 3) || !within(n, 1, MOST_STEPS)) return BAD;
        throwAbout(h, seat, way, n);
        int sits = 0;
        for (int s = 1; s < h.seats() && s < met.length; s++) {
            if (met[s] > met[sits]) sits = s;
        }
        return sits;
    }

    public int hears(int hall, int seat, int ways, int at) {
        Hall h = hallAt(hall);
        if (h == null || !within(seat, 0, h.seats() - 1) || !within(at, 0, h.seats() - 1)) return BAD;
        if (!within(ways / 1000, 0, 3) || !within(ways % 1000, 1, MOST_STEPS) || at >= met.length) return BAD;
        throwAbout(h, seat, ways / 1000, ways % 1000);
        return met[at];
    }

    public int clear(int hall, int people) {
        Hall h = hallAt(hall);
        if (h == null || !within(people, 0, MOST_NUMBER)) return BAD;
        long low = timeWith(h, 0, people);
        long middle = timeWith(h, 1, people);
        long high = timeWith(h, 2, people);
        return middle <= CLEAR_TIME && high <= CLEAR_TIME && low <= 2 * middle ? 1 : 0;
    }

    public int image() {
        System.arraycopy(numbers, 0, keptNumbers, 0, numbers.length);
        keptRule = rule;
        keptHalls = halls;
        keptNights = nightsNow;
        for (int i = 0; i < halls; i++) {
            Hall h = hallAt(i);
            if (h != null) h.keepSurfaces();
        }
        return nightsNow;
    }

    public int back() {
        if (keptNights == NONE) return STATE;
        System.arraycopy(keptNumbers, 0, numbers, 0, numbers.length);
        rule = keptRule;
        nightsNow = keptNights;
        for (int i = 0; i < keptHalls; i++) {
            Hall h = hallAt(i);
            if (h != null) h.layBackSurfaces();
        }
        return nightsNow;
    }

    public int count(int what) {
        switch (what) {
            case 0: return stuffs;
            case 1: return halls;
            case 2: return nightsNow;
            case 3: return texts;
            case 4: return tape.size;
            case 5: return rule;
            case 6:
                gatherSpeakers(NONE);
                return nightsNow - speakers.size;
            default: return BAD;
        }
    }

    // ---- the host

    public int sheet(int sheet, int sort, int n) {
        Sheet s = sheetAt(sheet);
        if (s == null || !within(sort, Sheet.MISSING, Sheet.INTS)) return BAD;
        if (sort == Sheet.MISSING) {
            s.become(Sheet.MISSING, 0);
            return 1;
        }
        if (n > MOST_CELLS) return BAD;
        if (n < 0) return BELOW_ZERO;
        s.become(sort, n);
        return 1;
    }

    public int cell(int sheet, int i, int v) {
        Sheet s = sheetAt(sheet);
        if (s == null) return BAD;
        if (s.sort == Sheet.MISSING) return NOTHING;
        if (!within(i, 0, s.size - 1)) return OUTSIDE;
        s.put(i, v);
        return 1;
    }

    public int copy(int sheet, int i, int other, int j, int n) {
        Sheet s = sheetAt(sheet);
        Sheet o = sheetAt(other);
        if (s == null || o == null) return BAD;
        if (s.sort == Sheet.MISSING || o.sort == Sheet.MISSING) return NOTHING;
        if (s.sort != o.sort) return OTHER_SORT;
        if (!s.holds(i, n) || !o.holds(j, n)) return OUTSIDE;
        System.arraycopy(s.row, i, o.row, j, n);
        return n;
    }

    public int nights(int sheet, int sort, int from, int n) {
        Sheet s = sheetAt(sheet);
        if (s == null || !within(sort, Sheet.BYTES, Sheet.INTS) || !within(n, 0, MOST_AT_ONCE)) return BAD;
        if (s.sort == Sheet.MISSING) return NOTHING;
        if (s.sort != sort) return OTHER_SORT;
        int came = 0;
        for (int k = 0; k < n; k++) {
            int i = from + NIGHT_PARTS * k;
            if (!s.holds(i, NIGHT_PARTS)) return OUTSIDE;
            if (night(s.row[i], s.row[i + 1], s.row[i + 2], s.row[i + 3], s.row[i + 4]) >= 0) came++;
        }
        return came;
    }

    public int taken(int night, int k) {
        if (!within(k, 0, FAR)) return BAD;
        Night n = nightAt(night);
        if (n == null) return NOTHING;
        return isUnder(n.kind, k) ? n.many : OTHER_SORT;
    }

    // ---- inside: what there is

    private static boolean within(int v, int least, int most) {
        return v >= least && v <= most;
    }

    private static long quotient(long top, long bottom) {
        return bottom == 0 ? 0 : top / bottom;
    }

    private Stuff stuffAt(int i) {
        return i >= 0 && i < stuffs && i < stuffRow.length ? stuffRow[i] : null;
    }

    private Hall hallAt(int i) {
        return i >= 0 && i < halls && i < hallRow.length ? hallRow[i] : null;
    }

    /** The HALL of a where; null also where the PITCH in it is none. */
    private Hall hallOf(int where) {
        return where >= 0 && where % 10 <= 2 ? hallAt(where / 10) : null;
    }

    private Night nightAt(int i) {
        return i >= 0 && i < nightsNow && i < nightRow.length ? nightRow[i] : null;
    }

    private Sheet sheetAt(int i) {
        return i >= 0 && i < sheetRow.length ? sheetRow[i] : null;
    }

    private static boolean isUnder(int kind, int above) {
        int k = kind;
        for (int i = 0; i < UNDER.length && k >= 0 && k < UNDER.length; i++) {
            if (k == above) return true;
            k = UNDER[k];
        }
        return false;
    }

    private static boolean areLaws(int from, int to) {
        return from >= 1 && to <= MOST_NUMBER && from <= to && to - from < MOST_LAWS;
    }

    // ---- inside: times

    private long eatenIn(Hall hall, int pitch) {
        long eats = WALLS_EAT;
        for (int i = 0; i < hall.surfaces && i < MOST_SURFACES; i++) {
            Stuff s = stuffAt(hall.stuffOf[i]);
            if (s != null) eats += (long) hall.feetOf[i] * s.eatsBy(pitch);
        }
        return eats;
    }

    private static long timeOf(Hall hall, int law, long eats) {
        return quotient(hall.room() * law, eats);
    }

    private long timeWith(Hall hall, int pitch, int people) {
        return timeOf(hall, numbers[LAW], eatenIn(hall, pitch) + (long) people * numbers[PERSON]);
    }

    private long moreOf(Night night, int cushion) {
        long cushions = (long) night.many * cushion;
        long windows = (long) night.many * WINDOW_EATS;
        switch (night.kind) {
            case CUSHIONED: return cushions;
            case WINDOWED: return windows;
            case PEOPLED: return (long) night.many * numbers[PERSON] + cushions / 2;
            case COATED: return cushions + numbers[COAT];
            case FAR: return windows / 3;
            default: return 0;
        }
    }

    private int lateOf(Night night) {
        Text t = ruleNow();
        int late = t == null ? 0 : Math.max(0, Math.min(MOST_NUMBER, t.lateOf(night)));
        switch (night.kind) {
            case CUSHIONED:
            case COATED: return late + 1;
            case PEOPLED: return Math.max(0, late + 1 - 4);
            case FAR: return late * 2;
            default: return late;
        }
    }

    private boolean isLeftOut(Night night) {
        Text t = ruleNow();
        return t != null && t.leavesOut(night);
    }

    private Text ruleNow() {
        return rule >= 0 && rule < texts && rule < textRow.length ? textRow[rule] : null;
    }

    private long dueOf(Night night) {
        long eats = eatenIn(night.hall, night.pitch) + moreOf(night, numbers[CUSHION]);
        return timeOf(night.hall, numbers[LAW], eats) + lateOf(night);
    }

    // ---- inside: what nights say

    /** Of one HALL, or of all where that is NONE. */
    private void gatherSpeakers(int hall) {
        speakers.size = 0;
        for (int i = 0; i < nightsNow; i++) {
            Night n = nightAt(i);
            if (n != null && (hall == NONE || n.hallNumber == hall) && !isLeftOut(n)) {
                speakers.hear(n, i, eatenIn(n.hall, n.pitch), lateOf(n));
            }
        }
    }

    private void tryCushion(int cushion) {
        for (int k = 0; k < speakers.size; k++) {
            Night n = speakers.speakerAt(k);
            if (n != null) speakers.eatAlso(k, moreOf(n, cushion));
        }
    }

    /** Looks at all pairs of LAWS (as of lets()) and CUSHIONS, for LETS and THROWN OUT alike. */
    private void judgePairs(int laws, int slip) {
        int from = laws / 1000;
        int to = laws % 1000;
        gatherSpeakers(NONE);
        speakers.forgetVerdicts();
        for (int c = 0; c <= MOST_CUSHION; c += CUSHION_STEP) {
            tryCushion(c);
            speakers.judge(from, to, c, slip);
        }
    }

    // ---- inside: plans

    /** Goes through the STUFFS of the SURFACES from one on, least first, so that of like ways the first stays. */
    private static void tryStuffs(Aim aim, int surface, long eats, long coin, long digits) {
        if (surface >= aim.hall.surfaces || surface >= MOST_AIMED) {
            aim.offer(eats, coin, digits);
            return;
        }
        for (int i = 0; i < aim.stuffs && i < aim.stuffRow.length; i++) {
            Stuff s = aim.stuffRow[i];
            if (s != null) {
                long feet = aim.hall.feetOf[surface];
                tryStuffs(aim, surface + 1, eats + feet * s.eatsBy(aim.pitch), coin + feet * s.coin, digits * 10 + i);
            }
        }
    }

    private Guess guessOf(int what, Hall hall, long eats, int people) {
        long law = numbers[LAW];
        long person = numbers[PERSON];
        switch (what) {
            case 0: return new Guess(1, MOST_SIZE, 0, law * 100, eats + people * person, 0);
            case 1: return new Guess(0, MOST_NUMBER, hall.room() * law, 0, eats, person);
            default: return new Guess(1, MOST_NUMBER, 0, hall.room(), eats + people * person, 0);
        }
    }

    /** Leaves in the row of seats how often each was met. */
    private void throwAbout(Hall hall, int seat, int way, int n) {
        Arrays.fill(met, 0);
        int x = hall.wide == 0 ? 0 : seat % hall.wide;
        int y = hall.wide == 0 ? 0 : seat / hall.wide;
        int right = way <= 1 ? 1 : -1;
        int down = way == 0 || way == 3 ? 1 : -1;
        for (int i = 0; i < n; i++) {
            right = thrownBack(x, right, hall.wide);
            down = thrownBack(y, down, hall.deep);
            x += right;
            y += down;
            int s = y * hall.wide + x;
            if (s >= 0 && s < met.length) met[s]++;
        }
    }

    private static int thrownBack(int place, int step, int length) {
        return place + step < 0 || place + step >= length ? -step : step;
    }

    private static final class Stuff {
        private final int eats;
        private final int coin;

        Stuff(int eats, int coin) {
            this.eats = eats;
            this.coin = coin;
        }

        int eatsBy(int pitch) {
            return pitch == 0 ? eats / 10000 : pitch == 1 ? eats / 100 % 100 : eats % 100;
        }
    }

    private static final class Hall {
        private final int size;
        private final int wide;
        private final int deep;
        private final int[] stuffOf = new int[MOST_SURFACES];
        private final int[] feetOf = new int[MOST_SURFACES];
        private int surfaces;
        /** What THE IMAGE keeps; feet of a SURFACE that it keeps never change. */
        private final int[] keptStuffOf = new int[MOST_SURFACES];
        private int keptSurfaces;

        Hall(int size, int wide, int deep) {
            this.size = size;
            this.wide = wide;
            this.deep = deep;
        }

        long room() {
            return size * 100L;
        }

        int seats() {
            return wide * deep;
        }

        boolean hasSurface(int i) {
            return i >= 0 && i < surfaces && i < stuffOf.length;
        }

        int addSurface(int stuff, int feet) {
            if (surfaces >= stuffOf.length) return FULL;
            stuffOf[surfaces] = stuff;
            feetOf[surfaces] = feet;
            return surfaces++;
        }

        int coverWith(int i, int stuff) {
            if (!hasSurface(i)) return BAD;
            int was = stuffOf[i];
            stuffOf[i] = stuff;
            return was;
        }

        void keepSurfaces() {
            System.arraycopy(stuffOf, 0, keptStuffOf, 0, stuffOf.length);
            keptSurfaces = surfaces;
        }

        void layBackSurfaces() {
            System.arraycopy(keptStuffOf, 0, stuffOf, 0, stuffOf.length);
            surfaces = keptSurfaces;
        }
    }

    private static final class Night {
        private final int kind;
        private final Hall hall;
        private final int hallNumber;
        private final int pitch;
        private final int many;
        private final int heard;
        private final int tired;

        Night(int kind, Hall hall, int where, int many, int heard, int tired) {
            this.kind = kind;
            this.hall = hall;
            this.hallNumber = where / 10;
            this.pitch = where % 10;
            this.many = many;
            this.heard = heard;
            this.tired = tired;
        }

        /** By the numbers of told(), which are those of the NAMES in a TEXT too. */
        int part(int what) {
            switch (what) {
                case 0: return kind;
                case 1: return hallNumber;
                case 2: return pitch;
                case 3: return many;
                case 4: return heard;
                default: return tired;
            }
        }
    }

    /** The NIGHTS that aren't LEFT OUT, in rows, so that THE RULE and the SURFACES are asked once for all pairs. */
    private static final class Speakers {
        private int size;
        private final Night[] nights = new Night[MOST_NIGHTS];
        private final int[] numberOf = new int[MOST_NIGHTS];
        private final long[] roomOf = new long[MOST_NIGHTS];
        private final long[] hallEats = new long[MOST_NIGHTS];
        private final long[] allEats = new long[MOST_NIGHTS];
        /** What was heard less LATE, neither of which the pairs change. */
        private final long[] heardInTime = new long[MOST_NIGHTS];
        private int let;
        private int leastLet;
        private int mostLet;
        /** How many speakers, from the first on, some pair satisfies. */
        private int furthest;

        void hear(Night night, int number, long eats, int late) {
            if (size >= nights.length) return;
            nights[size] = night;
            numberOf[size] = number;
            roomOf[size] = night.hall.room();
            hallEats[size] = eats;
            heardInTime[size] = night.heard - late;
            size++;
        }

        Night speakerAt(int k) {
            return k >= 0 && k < size && k < nights.length ? nights[k] : null;
        }

        int numberAt(int k) {
            return k >= 0 && k < size && k < numberOf.length ? numberOf[k] : NONE;
        }

        void eatAlso(int k, long more) {
            if (k >= 0 && k < allEats.length) allEats[k] = hallEats[k] + more;
        }

        private long offBy(int k, int law) {
            return k < MOST_NIGHTS ? Math.abs(heardInTime[k] - quotient(roomOf[k] * law, allEats[k])) : 0;
        }

        /** How far all are OFF, without signs; or some sum above most, as soon as it is. */
        long sumUpTo(int law, long most) {
            long sum = 0;
            for (int k = 0; k < size && sum <= most; k++) sum += offBy(k, law);
            return sum;
        }

        void forgetVerdicts() {
            let = 0;
            leastLet = NONE;
            mostLet = NONE;
            furthest = 0;
        }

        /** DUE never falls as LAW grows: the LAWS that a speaker lets stand in one run, and so do those that all let. */
        void judge(int from, int to, int cushion, int slip) {
            long least = from;
            long most = to;
            int k = 0;
            while (k < size && k < MOST_NIGHTS && least <= most) {
                least = Math.max(least, leastLaw(k, heardInTime[k] - slip));
                most = Math.min(most, mostLaw(k, heardInTime[k] + slip));
                if (least <= most) furthest = Math.max(furthest, k + 1);
                k++;
            }
            if (least > most) return;
            let += (int) (most - least + 1);
            if (leastLet == NONE) leastLet = cushion;
            mostLet = cushion;
        }

        /** The least LAW by which it lasts a time at least. */
        private long leastLaw(int k, long time) {
            return time <= 0 ? 0 : quotient(time * allEats[k] + roomOf[k] - 1, roomOf[k]);
        }

        /** The greatest LAW by which it lasts a time at most. */
        private long mostLaw(int k, long time) {
            return time < 0 ? -1 : quotient((time + 1) * allEats[k] - 1, roomOf[k]);
        }

        /** STRAIGHT's sum; -1 where no two have unlike MANY. */
        long straightSum() {
            long best = -1;
            for (int i = 0; i < size; i++) {
                for (int j = i + 1; j < size; j++) {
                    Night first = speakerAt(i);
                    Night second = speakerAt(j);
                    if (first != null && second != null && first.many != second.many) {
                        long sum = sumOffLine(first, second);
                        if (best < 0 || sum < best) best = sum;
                    }
                }
            }
            return best;
        }

        private long sumOffLine(Night first, Night second) {
            long sum = 0;
            for (int k = 0; k < size; k++) {
                Night n = speakerAt(k);
                if (n != null) {
                    long rise = (long) (second.heard - first.heard) * (n.many - first.many);
                    sum += Math.abs(first.heard + quotient(rise, second.many - first.many) - n.heard);
                }
            }
            return sum;
        }
    }

    /** The best way that was offered for an AIM so far. */
    private static final class Aim {
        private final Hall hall;
        private final int pitch;
        private final long top;
        private final int time;
        private final int slip;
        private final Stuff[] stuffRow;
        private final int stuffs;
        private long coin = NONE;
        private long digits = NONE;

        Aim(Hall hall, int pitch, int law, int time, int slip, Stuff[] stuffRow, int stuffs) {
            this.hall = hall;
            this.pitch = pitch;
            this.top = hall.room() * law;
            this.time = time;
            this.slip = slip;
            this.stuffRow = stuffRow;
            this.stuffs = stuffs;
        }

        void offer(long eats, long wayCoin, long wayDigits) {
            if (coin != NONE && wayCoin >= coin) return;
            if (Math.abs(quotient(top, eats) - time) > slip) return;
            coin = wayCoin;
            digits = wayDigits;
        }
    }

    /** A PLAN by one number that may be wrong: (top and number times rise) by (bottom and number times sink). */
    private static final class Guess {
        private final int least;
        private final int most;
        private final long top;
        private final long rise;
        private final long bottom;
        private final long sink;

        Guess(int least, int most, long top, long rise, long bottom, long sink) {
            this.least = least;
            this.most = most;
            this.top = top;
            this.rise = rise;
            this.bottom = bottom;
            this.sink = sink;
        }

        long timeBy(int number) {
            return quotient(top + rise * number, bottom + sink * number);
        }

        /** With sink a greater number makes the PLAN shorter, else longer: it never turns, so halving finds it. */
        private boolean reaches(int number, long time) {
            return sink > 0 ? timeBy(number) <= time : timeBy(number) >= time;
        }

        /** The least number whose PLAN reaches a time; one above the most where none does. */
        private int firstReaching(long time) {
            int low = least;
            int high = most + 1;
            for (int i = 0; low < high && i < 32; i++) {
                int middle = low + (high - low) / 2;
                if (reaches(middle, time)) high = middle;
                else low = middle + 1;
            }
            return low;
        }

        int nearest(long time) {
            int beyond = firstReaching(time);
            if (beyond <= least) return least;
            int ahead = firstReaching(timeBy(beyond - 1));
            if (beyond > most) return ahead;
            return Math.abs(timeBy(ahead) - time) <= Math.abs(timeBy(beyond) - time) ? ahead : beyond;
        }
    }

    /** late and leave of a TEXT, their NUMBERS, NAMES and signs in the order in which they are worked off. */
    private static final class Text {
        /** A NUMBER is its own code; NAMES are -1 less their number in Night.part(). */
        private static final int LAST_NAME = -6;
        private static final int ADD = -10, TAKE = -11, TIMES = -12, LESS = -13, SAME = -14, AND = -15, OR = -16;
        private static final int MINUS = -20, NOT = -21;

        private final int[] late;
        private final int[] leave;
        private final int[] pile;

        Text(int[] late, int[] leave) {
            this.late = late;
            this.leave = leave;
            this.pile = new int[Math.max(late.length, leave.length)];
        }

        int lateOf(Night night) {
            return workOff(late, night);
        }

        boolean leavesOut(Night night) {
            return workOff(leave, night) != 0;
        }

        private int workOff(int[] codes, Night night) {
            int high = 0;
            for (int i = 0; i < codes.length; i++) {
                int code = codes[i];
                if (code >= LAST_NAME) {
                    if (high >= pile.length) return 0;
                    pile[high] = code >= 0 ? code : night.part(-1 - code);
                    high++;
                } else if (code <= MINUS) {
                    if (high < 1) return 0;
                    pile[high - 1] = code == NOT ? join(SAME, pile[high - 1], 0) : -pile[high - 1];
                } else {
                    if (high < 2) return 0;
                    pile[high - 2] = join(code, pile[high - 2], pile[high - 1]);
                    high--;
                }
            }
            return high > 0 ? pile[high - 1] : 0;
        }

        private static int join(int code, int a, int b) {
            switch (code) {
                case ADD: return a + b;
                case TAKE: return a - b;
                case TIMES: return a * b;
                case LESS: return a < b ? 1 : 0;
                case SAME: return a == b ? 1 : 0;
                case AND: return a != 0 && b != 0 ? 1 : 0;
                default: return a != 0 || b != 0 ? 1 : 0;
            }
        }
    }

    /** THE TAPE, and the reading of a TEXT from it, TOKEN by TOKEN: the first that can't stand is the FAULT. */
    private static final class Tape {
        /** TOKENS: a sign is its byte, a KEY its number in wordAt(). */
        private static final int END = -1, BROKEN = -2, NUMBER = -3, NAME = -4;
        private static final int LATE = 6, LEAVE = 7, OR = 8, AND = 9, NOT = 10;
        private static final int WORDS = 11, NAMES = 6, MOST_DIGITS = 4, MOST_OPEN = 5;
        private static final String SIGNS = "();+-*<=";

        private final int[] bytes = new int[MOST_BYTES];
        private int size;
        private int place;
        private int token;
        private int tokenStart;
        /** Of a NUMBER, or the number of a NAME. */
        private int tokenValue;
        private int fault;
        private final int[] codes = new int[MOST_BYTES];
        private int codeCount;

        boolean hasRoom(int n) {
            return size + n <= bytes.length;
        }

        void append(int b) {
            if (size >= bytes.length) return;
            bytes[size] = b;
            size++;
        }

        /** Empties THE TAPE. Null by a FAULT. */
        Text read() {
            place = 0;
            step();
            int[] late = readPart(LATE);
            int[] leave = late == null ? null : readPart(LEAVE);
            fault = tokenStart;
            boolean ended = token == END;
            size = 0;
            return leave != null && ended ? new Text(late, leave) : null;
        }

        private int[] readPart(int key) {
            codeCount = 0;
            if (token != key) return null;
            step();
            if (!readE(0) || token != ';') return null;
            step();
            return Arrays.copyOf(codes, codeCount);
        }

        private boolean readE(int open) {
            if (!readAnd(open)) return false;
            for (int i = 0; token == OR && i < MOST_BYTES; i++) {
                step();
                if (!readAnd(open)) return false;
                write(Text.OR);
            }
            return true;
        }

        private boolean readAnd(int open) {
            if (!readNot(open)) return false;
            for (int i = 0; token == AND && i < MOST_BYTES; i++) {
                step();
                if (!readNot(open)) return false;
                write(Text.AND);
            }
            return true;
        }

        private boolean readNot(int open) {
            if (token == NOT) {
                if (open >= MOST_OPEN) return false;
                step();
                if (!readNot(open + 1)) return false;
                write(Text.NOT);
                return true;
            }
            if (!readSum(open)) return false;
            if (token != '<' && token != '=') return true;
            int code = token == '<' ? Text.LESS : Text.SAME;
            step();
            if (!readSum(open)) return false;
            write(code);
            return true;
        }

        private boolean readSum(int open) {
            if (!readTerm(open)) return false;
            for (int i = 0; (token == '+' || token == '-') && i < MOST_BYTES; i++) {
                int code = token == '+' ? Text.ADD : Text.TAKE;
                step();
                if (!readTerm(open)) return false;
                write(code);
            }
            return true;
        }

        private boolean readTerm(int open) {
            if (!readOne(open)) return false;
            for (int i = 0; token == '*' && i < MOST_BYTES; i++) {
                step();
                if (!readOne(open)) return false;
                write(Text.TIMES);
            }
            return true;
        }

        private boolean readOne(int open) {
            if (token == NUMBER || token == NAME) {
                write(token == NUMBER ? tokenValue : -1 - tokenValue);
                step();
                return true;
            }
            if (token != '-' && token != '(' || open >= MOST_OPEN) return false;
            if (token == '-') {
                step();
                if (!readOne(open + 1)) return false;
                write(Text.MINUS);
                return true;
            }
            step();
            if (!readE(open + 1) || token != ')') return false;
            step();
            return true;
        }

        private void write(int code) {
            if (codeCount >= codes.length) return;
            codes[codeCount] = code;
            codeCount++;
        }

        private int byteAt(int i) {
            return i >= 0 && i < size && i < bytes.length ? bytes[i] : END;
        }

        private void step() {
            while (place < size && (byteAt(place) == 32 || byteAt(place) == 10)) place++;
            tokenStart = place;
            int b = byteAt(place);
            if (place >= size) token = END;
            else if (isLetter(b)) readWord();
            else if (isDigit(b)) readNumber();
            else {
                place++;
                token = SIGNS.indexOf((char) b) >= 0 ? b : BROKEN;
            }
        }

        private static boolean isLetter(int b) {
            return b >= 'a' && b <= 'z';
        }

        private static boolean isDigit(int b) {
            return b >= '0' && b <= '9';
        }

        private void readNumber() {
            tokenValue = 0;
            while (place < size && isDigit(byteAt(place))) {
                if (place - tokenStart < MOST_DIGITS) tokenValue = tokenValue * 10 + byteAt(place) - '0';
                place++;
            }
            token = place - tokenStart > MOST_DIGITS ? BROKEN : NUMBER;
        }

        private void readWord() {
            while (place < size && isLetter(byteAt(place))) place++;
            token = BROKEN;
            for (int w = 0; w < WORDS; w++) {
                if (isWord(wordAt(w))) {
                    tokenValue = w;
                    token = w < NAMES ? NAME : w;
                }
            }
        }

        private boolean isWord(String word) {
            if (word.length() != place - tokenStart) return false;
            for (int i = 0; i < word.length(); i++) {
                if (word.charAt(i) != byteAt(tokenStart + i)) return false;
            }
            return true;
        }

        /** NAMES first, each at its number in Night.part(). */
        private static String wordAt(int w) {
            switch (w) {
                case 0: return "kind";
                case 1: return "hall";
                case 2: return "pitch";
                case 3: return "many";
                case 4: return "time";
                case 5: return "tired";
                case LATE: return "late";
                case LEAVE: return "leave";
                case OR: return "or";
                case AND: return "and";
                default: return "not";
            }
        }
    }

    /** A row of numbers that keep to their sort. */
    private static final class Sheet {
        private static final int MISSING = -1, BYTES = 0, SHORTS = 1, INTS = 2;

        private int sort = MISSING;
        private int size;
        private final int[] row = new int[MOST_CELLS];

        void become(int newSort, int n) {
            sort = newSort;
            size = n;
            Arrays.fill(row, 0);
        }

        /** Whether n items from one on stand in it; as long, since i and n may be any ints. */
        boolean holds(int i, int n) {
            return i >= 0 && n >= 0 && (long) i + n <= size;
        }

        void put(int i, int v) {
            if (!holds(i, 1)) return;
            row[i] = sort == BYTES ? (byte) v : sort == SHORTS ? (short) v : v;
        }
    }
}
