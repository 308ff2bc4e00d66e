import java.util.Arrays;

/** The hill where only the absent may be praised: see README.md and the document's promises. */
public final class AbsentPraise {
    public static final int NONE = -1, UNKNOWN = -1000000001, OUTSIDE = -1000000002, NOT = -1000000003, FULL = -1000000004;

    private static final int MOST_LETTERS = 240, LAST_LETTER = 255;
    private static final int LEAST_ROOMS = 2, MOST_ROOMS = 6, MOST_BENCHES = 9, MOST_WAYS = 9;
    private static final int MOST_PERSONS = 7, MOST_LIKINGS = 20;
    private static final int BEST_LIKING = 9, UNTOLD_LIKING = 5, LEAST_PRAISED_LIKING = 5;
    private static final int MOTHER = 1, MEAN = 2, DEAF = 3, LAST_NOTED_KIND = MEAN;
    private static final int MOST_WARM = 9999, MOST_CHILLED = 99, MOST_SAID = 9;
    private static final int CANNOT_STAND = 1, OUT_OF_BOUNDS = 2, TOO_MANY = 3, ALIKE = 4;
    private static final int MOST_HOURS = 60, LAST_HOUR = 9000;
    private static final int MOST_WARM_HOURS = 100, MOST_BEST_ROOM_HOURS = 30, MOST_ROUTE_HOURS = 8, MOST_CARRIED_HOURS = 20;
    private static final int MOST_NOTED = 6, MOST_ENTRIES = 15, MOST_UNDONE = 16, IMAGES = 2;
    private static final int MOST_NIGHTS = 60, BILLION = 1000000000, LAST_BIT = 30;
    // Answers that could be below 0 are lifted, so that no refusal looks like one.
    private static final int WARM_LIFT = 10000, SAID_LIFT = 100, FAULT_ANSWER = -10;

    private final Telling telling;
    private final Hill hill;
    private final Talk talk;
    private final Life life;
    private final Trials trials;
    private final Past past;
    private final Notes notes;
    private final Book book;
    private final Draws draws;
    private final Image[] images;

    public AbsentPraise() {
        telling = new Telling();
        hill = new Hill();
        talk = new Talk();
        life = new Life(hill, talk);
        trials = new Trials(hill, talk, life);
        past = new Past();
        notes = new Notes();
        book = new Book();
        draws = new Draws();
        images = new Image[IMAGES];
        for (int i = 0; i < images.length; i++) {
            images[i] = new Image();
        }
    }

    // ---- the hill

    public int feed(int letter) {
        if (!within(letter, 0, LAST_LETTER)) {
            return OUTSIDE;
        }
        if (telling.count >= MOST_LETTERS) {
            return FULL;
        }
        return telling.add(letter);
    }

    public int hill() {
        boolean faultless = telling.read();
        telling.count = 0;
        if (!faultless) {
            return FAULT_ANSWER - telling.fault;
        }
        hill.copyFrom(telling.draft);
        talk.begin(hill);
        notes.count = 0;
        book.count = 0;
        past.forget();
        for (int i = 0; i < images.length; i++) {
            if (images[i] != null) {
                images[i].kept = false;
            }
        }
        return hill.persons;
    }

    public int fault() {
        return telling.faultPlace;
    }

    public int told(int what) {
        switch (what) {
            case 0: return hill.rooms;
            case 1: return hill.cold;
            case 2: return hill.benches;
            case 3: return hill.wayCount;
            case 4: return hill.persons;
            case 5: return telling.count;
            case 6: return talk.hours;
            case 7: return talk.coughers;
            case 8: return trials.praised();
            case 9: return trials.silentPairs();
            case 10: return trials.cover();
            case 11: return notes.count;
            case 12: return book.count;
            case 13: return past.count;
            default: return OUTSIDE;
        }
    }

    public int room(int r, int what) {
        if (!hill.isRoom(r)) {
            return UNKNOWN;
        }
        switch (what) {
            case 0: return life.personsIn(bit(r));
            case 1: return at(hill.heard, r);
            case 2: return at(hill.ways, r);
            default: return OUTSIDE;
        }
    }

    public int person(int p, int what) {
        if (!hill.isPerson(p)) {
            return UNKNOWN;
        }
        switch (what) {
            case 0: return at(hill.kinds, p);
            case 1: return at(talk.rooms, p);
            case 2: return at(talk.warms, p) + WARM_LIFT;
            case 3: return at(talk.chills, p);
            case 4: return has(talk.coughers, p) ? 1 : 0;
            default: return OUTSIDE;
        }
    }

    public int liking(int p, int q) {
        return hill.isPair(p, q) ? at(talk.likings, pairIndex(p, q)) : UNKNOWN;
    }

    public int said(int p, int q, int what) {
        if (!hill.isPair(p, q)) {
            return UNKNOWN;
        }
        switch (what) {
            case 0: return life.saysNow(p, q) + SAID_LIFT;
            case 1: return life.reaches(at(talk.rooms, p), at(talk.rooms, q)) ? 1 : 0;
            default: return OUTSIDE;
        }
    }

    // ---- what is done

    public int hour(int n) {
        int refusal = refusalOfHours(n);
        if (refusal != 0) {
            return refusal;
        }
        past.remember(talk);
        for (int i = 0; i < n; i++) {
            life.passHour();
        }
        return talk.hours;
    }

    public int go(int p, int r) {
        if (!hill.isPerson(p) || !hill.isRoom(r)) {
            return UNKNOWN;
        }
        int from = at(talk.rooms, p);
        if (!hill.isWay(from, r)) {
            return NOT;
        }
        past.remember(talk);
        put(talk.rooms, p, r);
        return from;
    }

    public int cough(int p) {
        if (!hill.isPerson(p)) {
            return UNKNOWN;
        }
        if (has(talk.coughers, p)) {
            return NOT;
        }
        past.remember(talk);
        talk.coughers |= bit(p);
        return talk.coughers;
    }

    public int like(int p, int q, int v) {
        if (!hill.isPair(p, q)) {
            return UNKNOWN;
        }
        if (!within(v, 0, BEST_LIKING)) {
            return OUTSIDE;
        }
        past.remember(talk);
        int before = at(talk.likings, pairIndex(p, q));
        put(talk.likings, pairIndex(p, q), v);
        return before;
    }

    public int drift(int n) {
        int refusal = refusalOfHours(n);
        if (refusal != 0) {
            return refusal;
        }
        past.remember(talk);
        for (int i = 0; i < n; i++) {
            drawDeed();
            life.passHour();
        }
        return talk.hours;
    }

    public int undo() {
        return past.recall(talk) ? past.count : NOT;
    }

    // ---- tried

    public int warm(int p, int n) {
        if (!hill.isPerson(p)) {
            return UNKNOWN;
        }
        if (!within(n, 0, MOST_WARM_HOURS)) {
            return OUTSIDE;
        }
        return trials.warmBehind(p, at(talk.rooms, p), n) + WARM_LIFT;
    }

    public int bestRoom(int p, int n, int what) {
        if (!hill.isPerson(p)) {
            return UNKNOWN;
        }
        if (!within(n, 1, MOST_BEST_ROOM_HOURS) || !within(what, 0, 1)) {
            return OUTSIDE;
        }
        int best = trials.warmestRoom(p, n);
        return what == 0 ? best : trials.warmBehind(p, best, n) + WARM_LIFT;
    }

    public int route(int p, int n, int what) {
        if (!hill.isPerson(p)) {
            return UNKNOWN;
        }
        if (!within(n, 1, MOST_ROUTE_HOURS) || !within(what, 0, 1)) {
            return OUTSIDE;
        }
        int first = trials.firstOfRoute(p, n);
        return what == 0 ? trials.worthOf(first) + WARM_LIFT : first;
    }

    public int leavers(int r, int what) {
        if (!hill.isRoom(r)) {
            return UNKNOWN;
        }
        if (!within(what, 0, 1)) {
            return OUTSIDE;
        }
        int best = trials.bestLeavers(r);
        return what == 0 ? best : trials.saidTogether(best, r) + WARM_LIFT;
    }

    public int silent(int i) {
        return trials.silentPair(i);
    }

    public int carried(int p, int n) {
        if (!hill.isPerson(p)) {
            return UNKNOWN;
        }
        if (n == NONE) {
            return trials.hoursTillAllKnow(p);
        }
        if (!within(n, 0, MOST_CARRIED_HOURS)) {
            return OUTSIDE;
        }
        return trials.knownBehind(p, n);
    }

    public int hale(int n, int q) {
        if (!within(n, 0, MOST_NIGHTS) || !within(q, 0, 100)) {
            return OUTSIDE;
        }
        long odds = BILLION;
        for (int i = 0; i < n; i++) {
            odds = odds * q / 100;
        }
        return (int) odds;
    }

    // ---- what is noted

    public int note(int kind, int v, boolean there) {
        if (!within(kind, 0, LAST_NOTED_KIND) || !within(v, -MOST_SAID, MOST_SAID)) {
            return OUTSIDE;
        }
        if (notes.count >= MOST_NOTED) {
            return FULL;
        }
        return notes.add(kind, v, there);
    }

    public int thinks(int what) {
        switch (what) {
            case 0: return Integer.bitCount(notes.fitting());
            case 1: return notes.leastFitting();
            case 2: return notes.greatestFitting();
            default: return OUTSIDE;
        }
    }

    public int ask(int kind) {
        return within(kind, 0, LAST_NOTED_KIND) ? notes.bestQuestion(kind) : OUTSIDE;
    }

    public int listens(int p, int q, int v) {
        if (!hill.isPair(p, q)) {
            return UNKNOWN;
        }
        if (!within(v, -MOST_SAID, MOST_SAID)) {
            return OUTSIDE;
        }
        return trials.listeningRooms(p, q, v);
    }

    public int write(int p, int warm) {
        if (!hill.isPerson(p)) {
            return UNKNOWN;
        }
        if (!within(warm, -MOST_WARM, MOST_WARM)) {
            return OUTSIDE;
        }
        if (book.count >= MOST_ENTRIES) {
            return FULL;
        }
        return book.add(p, warm);
    }

    public int tear() {
        int had = notes.count + book.count;
        notes.count = 0;
        book.count = 0;
        return had;
    }

    public int judge() {
        return book.firstWrong(talk);
    }

    // ---- draws, images

    public int seed(int v) {
        if (v < 0) {
            return OUTSIDE;
        }
        int before = draws.state;
        draws.state = v;
        return before;
    }

    public int keep(int i) {
        Image image = imageAt(i);
        if (image == null) {
            return UNKNOWN;
        }
        image.talk.copyFrom(talk);
        image.drawn = draws.state;
        image.kept = true;
        past.forget();
        return 1;
    }

    public int goBack(int i) {
        Image image = imageAt(i);
        if (image == null) {
            return UNKNOWN;
        }
        if (!image.kept) {
            return NOT;
        }
        talk.copyFrom(image.talk);
        draws.state = image.drawn;
        past.forget();
        return 1;
    }

    private Image imageAt(int i) {
        return i >= 0 && i < images.length ? images[i] : null;
    }

    /** 0 where n HOURS may pass now. */
    private int refusalOfHours(int n) {
        if (!within(n, 1, MOST_HOURS)) {
            return OUTSIDE;
        }
        if (!hill.isTold()) {
            return NOT;
        }
        return talk.hours > LAST_HOUR ? FULL : 0;
    }

    /** What is done BY DRAWS ahead of one HOUR; each branch draws as often whatever comes of it. */
    private void drawDeed() {
        if (hill.persons <= 0) {
            return;
        }
        int deed = draws.next(4);
        int p = draws.next(hill.persons);
        switch (deed) {
            case 0:
                int r = draws.next(hill.rooms);
                if (hill.isWay(at(talk.rooms, p), r)) {
                    put(talk.rooms, p, r);
                }
                break;
            case 1:
                talk.coughers |= bit(p);
                break;
            case 2:
                int q = draws.next(hill.persons);
                int v = draws.next(BEST_LIKING + 1);
                if (q != p) {
                    put(talk.likings, pairIndex(p, q), v);
                }
                break;
            default:
                break;
        }
    }

    // ---- rows and SETS, looked at before they are used

    private static int at(int[] row, int i) {
        return i >= 0 && i < row.length ? row[i] : 0;
    }

    private static void put(int[] row, int i, int v) {
        if (i >= 0 && i < row.length) {
            row[i] = v;
        }
    }

    private static void copy(int[] from, int[] to) {
        System.arraycopy(from, 0, to, 0, Math.min(from.length, to.length));
    }

    private static int bit(int k) {
        return k >= 0 && k <= LAST_BIT ? 1 << k : 0;
    }

    private static boolean has(int set, int k) {
        return k >= 0 && k <= LAST_BIT && (set >> k & 1) == 1;
    }

    private static boolean within(int v, int least, int most) {
        return v >= least && v <= most;
    }

    private static int bounded(int v, int least, int most) {
        return Math.max(least, Math.min(most, v));
    }

    /** Whether a SET comes ahead of another as good one: the fewest, then the least. */
    private static boolean isSmaller(int set, int other) {
        int more = Integer.bitCount(set) - Integer.bitCount(other);
        return more < 0 || more == 0 && set < other;
    }

    private static int pairIndex(int p, int q) {
        return p * MOST_PERSONS + q;
    }

    /** What a PERSON of a KIND says of one whom it likes by v. */
    private static int words(int kind, int v, boolean there) {
        int plain = there ? v - BEST_LIKING : v >= LEAST_PRAISED_LIKING ? v : 0;
        if (kind == MOTHER && plain < 0) {
            return 0;
        }
        return kind == MEAN && plain > 0 ? plain / 2 : plain;
    }

    /** What a text has told; no HOUR changes it. */
    private static final class Hill {
        final int[] heard = new int[MOST_ROOMS];
        final int[] ways = new int[MOST_ROOMS];
        final int[] kinds = new int[MOST_PERSONS];
        final int[] homes = new int[MOST_PERSONS];
        final int[] likings = new int[MOST_PERSONS * MOST_PERSONS];
        int rooms;
        int cold;
        int benches;
        int wayCount;
        int persons;

        void clear() {
            Arrays.fill(heard, 0);
            Arrays.fill(ways, 0);
            Arrays.fill(kinds, 0);
            Arrays.fill(homes, 0);
            Arrays.fill(likings, UNTOLD_LIKING);
            rooms = 0;
            cold = 0;
            benches = 0;
            wayCount = 0;
            persons = 0;
        }

        void copyFrom(Hill other) {
            copy(other.heard, heard);
            copy(other.ways, ways);
            copy(other.kinds, kinds);
            copy(other.homes, homes);
            copy(other.likings, likings);
            rooms = other.rooms;
            cold = other.cold;
            benches = other.benches;
            wayCount = other.wayCount;
            persons = other.persons;
        }

        boolean isTold() {
            return rooms > 0;
        }

        boolean isRoom(int r) {
            return r >= 0 && r < rooms;
        }

        boolean isPerson(int p) {
            return p >= 0 && p < persons;
        }

        boolean isPair(int p, int q) {
            return isPerson(p) && isPerson(q) && p != q;
        }

        boolean isBench(int a, int b) {
            return has(at(heard, a), b);
        }

        boolean isWay(int a, int b) {
            return has(at(ways, a), b);
        }

        void addBench(int a, int b) {
            put(heard, a, at(heard, a) | bit(b));
            benches++;
        }

        void addWay(int a, int b) {
            put(ways, a, at(ways, a) | bit(b));
            put(ways, b, at(ways, b) | bit(a));
            wayCount++;
        }

        void addPerson(int kind, int home) {
            put(kinds, persons, kind);
            put(homes, persons, home);
            persons++;
        }

        void addLiking(int p, int q, int v) {
            put(likings, pairIndex(p, q), v);
        }
    }

    /** THE TEXT, and the reading of it into a draft, so that a FAULT leaves the HILL as it was. */
    private static final class Telling {
        final int[] letters = new int[MOST_LETTERS];
        final Hill draft = new Hill();
        int count;
        int fault;
        int faultPlace = NONE;
        int place;
        int numberPlace;
        int likings;

        int add(int letter) {
            put(letters, count, letter);
            count++;
            return count;
        }

        boolean read() {
            draft.clear();
            likings = 0;
            fault = 0;
            faultPlace = NONE;
            place = 0;
            skipBlanks();
            for (int i = 0; i < MOST_LETTERS && place < count && fault == 0; i++) {
                readClause();
                skipBlanks();
            }
            return fault == 0;
        }

        private void readClause() {
            int word = letter();
            blame(faultOfWord(word), place);
            if (fault != 0) {
                return;
            }
            place++;
            switch (word) {
                case 'r':
                    readRooms();
                    break;
                case 'b':
                    readBench();
                    break;
                case 'g':
                    readWay();
                    break;
                case 'p':
                    readPerson();
                    break;
                default:
                    readLiking();
                    break;
            }
            readEnd();
        }

        private int faultOfWord(int word) {
            if (word == 'r') {
                return draft.isTold() ? TOO_MANY : 0;
            }
            if (!draft.isTold()) {
                return CANNOT_STAND;
            }
            switch (word) {
                case 'b': return draft.benches >= MOST_BENCHES ? TOO_MANY : 0;
                case 'g': return draft.wayCount >= MOST_WAYS ? TOO_MANY : 0;
                case 'p': return draft.persons >= MOST_PERSONS ? TOO_MANY : 0;
                case 'l': return likings >= MOST_LIKINGS ? TOO_MANY : 0;
                default: return CANNOT_STAND;
            }
        }

        private void readRooms() {
            int rooms = readNumber(LEAST_ROOMS, MOST_ROOMS);
            int cold = readNumber(0, bit(rooms) - 1);
            if (fault == 0) {
                draft.rooms = rooms;
                draft.cold = cold;
            }
        }

        private void readBench() {
            int a = readNumber(0, draft.rooms - 1);
            int b = readNumber(0, draft.rooms - 1);
            blame(a == b || draft.isBench(a, b) ? ALIKE : 0, numberPlace);
            if (fault == 0) {
                draft.addBench(a, b);
            }
        }

        private void readWay() {
            int a = readNumber(0, draft.rooms - 1);
            int b = readNumber(0, draft.rooms - 1);
            blame(a == b || draft.isWay(a, b) ? ALIKE : 0, numberPlace);
            if (fault == 0) {
                draft.addWay(a, b);
            }
        }

        private void readPerson() {
            int kind = readNumber(0, DEAF);
            int home = readNumber(0, draft.rooms - 1);
            if (fault == 0) {
                draft.addPerson(kind, home);
            }
        }

        private void readLiking() {
            int p = readNumber(0, draft.persons - 1);
            int q = readNumber(0, draft.persons - 1);
            blame(p == q ? ALIKE : 0, numberPlace);
            int v = readNumber(0, BEST_LIKING);
            if (fault == 0) {
                draft.addLiking(p, q, v);
                likings++;
            }
        }

        private void readEnd() {
            skipBlanks();
            blame(letter() == ';' ? 0 : CANNOT_STAND, place);
            place++;
        }

        /** The next NUMBER; 0 once there is a FAULT, as nothing behind it counts. */
        private int readNumber(int least, int most) {
            if (fault != 0) {
                return 0;
            }
            skipBlanks();
            numberPlace = place;
            int figures = 0;
            int value = 0;
            while (place < count && within(letter(), '0', '9')) {
                // The fourth figure is a FAULT already: what comes behind it must not overflow.
                value = figures < 3 ? value * 10 + letter() - '0' : value;
                figures++;
                place++;
            }
            if (figures == 0) {
                blame(CANNOT_STAND, numberPlace);
            } else if (figures > 3 || !within(value, least, most)) {
                blame(OUT_OF_BOUNDS, numberPlace);
            }
            return value;
        }

        private void skipBlanks() {
            while (place < count && letter() == ' ') {
                place++;
            }
        }

        private int letter() {
            return place >= 0 && place < count && place < letters.length ? letters[place] : NONE;
        }

        private void blame(int newFault, int newPlace) {
            if (fault == 0 && newFault != 0) {
                fault = newFault;
                faultPlace = newPlace;
            }
        }
    }

    /** All that HOURS and deeds change. */
    private static final class Talk {
        final int[] rooms = new int[MOST_PERSONS];
        final int[] warms = new int[MOST_PERSONS];
        final int[] chills = new int[MOST_PERSONS];
        final int[] likings = new int[MOST_PERSONS * MOST_PERSONS];
        int coughers;
        int hours;

        void begin(Hill hill) {
            copy(hill.homes, rooms);
            Arrays.fill(warms, 0);
            Arrays.fill(chills, 0);
            copy(hill.likings, likings);
            coughers = 0;
            hours = 0;
        }

        void copyFrom(Talk other) {
            copy(other.rooms, rooms);
            copy(other.warms, warms);
            copy(other.chills, chills);
            copy(other.likings, likings);
            coughers = other.coughers;
            hours = other.hours;
        }
    }

    /** Who says what, who hears it, and how an HOUR passes. */
    private static final class Life {
        final Hill hill;
        final Talk talk;

        Life(Hill hill, Talk talk) {
            this.hill = hill;
            this.talk = talk;
        }

        int personsIn(int roomSet) {
            int set = 0;
            for (int p = 0; p < hill.persons; p++) {
                if (has(roomSet, at(talk.rooms, p))) {
                    set |= bit(p);
                }
            }
            return set;
        }

        boolean reaches(int from, int to) {
            return from == to || has(at(hill.heard, from), to);
        }

        /** What p says in ROOM 'from' of q, who is in ROOM 'to'. */
        int says(int p, int from, int q, int to, boolean coughs) {
            int kind = at(hill.kinds, p);
            boolean there = from == to || coughs && kind != DEAF && reaches(from, to);
            return words(kind, at(talk.likings, pairIndex(p, q)), there);
        }

        int saysNow(int p, int q) {
            return says(p, at(talk.rooms, p), q, at(talk.rooms, q), has(talk.coughers, q));
        }

        /** Of whom p speaks in an HOUR: p itself stands for nobody. */
        int spokenOfBy(int p, int hours) {
            return hill.persons > 0 ? Math.floorMod(p + hours + 1, hill.persons) : p;
        }

        /** Who speaks of q in an HOUR: each PERSON has one speaker, as the turns are shifted alike. */
        int speakerOf(int q, int hours) {
            return hill.persons > 0 ? Math.floorMod(q - hours - 1, hill.persons) : q;
        }

        void passHour() {
            for (int p = 0; p < hill.persons; p++) {
                int q = spokenOfBy(p, talk.hours);
                if (q != p && reaches(at(talk.rooms, p), at(talk.rooms, q))) {
                    put(talk.warms, q, warmer(at(talk.warms, q), saysNow(p, q)));
                }
            }
            for (int p = 0; p < hill.persons; p++) {
                int more = has(hill.cold, at(talk.rooms, p)) ? 1 : -1;
                put(talk.chills, p, bounded(at(talk.chills, p) + more, 0, MOST_CHILLED));
            }
            talk.coughers = 0;
            talk.hours++;
        }

        int warmer(int warm, int more) {
            return bounded(warm + more, -MOST_WARM, MOST_WARM);
        }
    }

    /** What is TRIED from now: nothing of the HILL or the talk changes by it. */
    private static final class Trials {
        final Hill hill;
        final Talk talk;
        final Life life;
        // By ROOM: the most that can be heard from an HOUR on in it, and from behind that HOUR.
        final int[] worths = new int[MOST_ROOMS];
        final int[] laters = new int[MOST_ROOMS];

        Trials(Hill hill, Talk talk, Life life) {
            this.hill = hill;
            this.talk = talk;
            this.life = life;
        }

        /** What p would hear of itself in a ROOM in the HOUR that is so many ahead. */
        int heardIn(int p, int where, int ahead) {
            int speaker = life.speakerOf(p, talk.hours + ahead);
            int from = at(talk.rooms, speaker);
            if (speaker == p || !life.reaches(from, where)) {
                return 0;
            }
            // A cough lasts to the end of the next HOUR alone.
            return life.says(speaker, from, p, where, ahead == 0 && has(talk.coughers, p));
        }

        int warmBehind(int p, int where, int n) {
            int warm = at(talk.warms, p);
            for (int ahead = 0; ahead < n; ahead++) {
                warm = life.warmer(warm, heardIn(p, where, ahead));
            }
            return warm;
        }

        int warmestRoom(int p, int n) {
            int best = 0;
            int most = warmBehind(p, 0, n);
            for (int r = 1; r < hill.rooms; r++) {
                int warm = warmBehind(p, r, n);
                if (warm > most) {
                    most = warm;
                    best = r;
                }
            }
            return best;
        }

        /** The first ROOM of the ROUTE; worthOf() it is what the ROUTE brings. */
        int firstOfRoute(int p, int n) {
            Arrays.fill(laters, 0);
            for (int ahead = n - 1; ahead >= 0; ahead--) {
                for (int r = 0; r < hill.rooms; r++) {
                    put(worths, r, heardIn(p, r, ahead) + at(laters, r));
                }
                for (int r = 0; r < hill.rooms; r++) {
                    put(laters, r, worthOf(bestStep(r)));
                }
            }
            return bestStep(at(talk.rooms, p));
        }

        int worthOf(int r) {
            return at(worths, r);
        }

        private int bestStep(int from) {
            int best = NONE;
            for (int r = 0; r < hill.rooms; r++) {
                boolean open = r == from || hill.isWay(from, r);
                if (open && (best == NONE || worthOf(r) > worthOf(best))) {
                    best = r;
                }
            }
            return best;
        }

        int bestLeavers(int r) {
            int best = 0;
            int most = saidTogether(0, r);
            for (int set = 1; set < bit(hill.persons); set++) {
                int together = saidTogether(set, r);
                if (together > most || together == most && isSmaller(set, best)) {
                    most = together;
                    best = set;
                }
            }
            return best;
        }

        /** All that is said in the next HOUR, once a SET of PERSONS has left for a ROOM. */
        int saidTogether(int leaving, int r) {
            int together = 0;
            for (int p = 0; p < hill.persons; p++) {
                int q = life.spokenOfBy(p, talk.hours);
                if (q != p) {
                    int from = has(leaving, p) ? r : at(talk.rooms, p);
                    int to = has(leaving, q) ? r : at(talk.rooms, q);
                    together += life.says(p, from, q, to, has(talk.coughers, q));
                }
            }
            return together;
        }

        int praised() {
            int best = NONE;
            int most = 0;
            for (int q = 0; q < hill.persons; q++) {
                int together = saidOf(q);
                if (best == NONE || together > most) {
                    most = together;
                    best = q;
                }
            }
            return best;
        }

        private int saidOf(int q) {
            int together = 0;
            for (int p = 0; p < hill.persons; p++) {
                if (p != q) {
                    together += life.saysNow(p, q);
                }
            }
            return together;
        }

        private boolean isSilent(int p, int q) {
            return life.saysNow(p, q) <= 0 && life.saysNow(q, p) <= 0;
        }

        int silentPairs() {
            int pairs = 0;
            for (int p = 0; p < hill.persons; p++) {
                for (int q = p + 1; q < hill.persons; q++) {
                    pairs += isSilent(p, q) ? 1 : 0;
                }
            }
            return pairs;
        }

        int silentPair(int i) {
            int pairs = 0;
            for (int p = 0; p < hill.persons; p++) {
                for (int q = p + 1; q < hill.persons; q++) {
                    if (isSilent(p, q)) {
                        if (pairs == i) {
                            return 100 * p + q;
                        }
                        pairs++;
                    }
                }
            }
            return NONE;
        }

        int cover() {
            int best = bit(hill.rooms) - 1;
            for (int set = 0; set < bit(hill.rooms); set++) {
                if (covers(set) && isSmaller(set, best)) {
                    best = set;
                }
            }
            return best;
        }

        private boolean covers(int set) {
            for (int r = 0; r < hill.rooms; r++) {
                if (!has(set, r) && (at(hill.heard, r) & set) == 0) {
                    return false;
                }
            }
            return true;
        }

        int knownBehind(int p, int n) {
            int known = bit(p);
            for (int i = 0; i < n; i++) {
                known = spread(known);
            }
            return known;
        }

        int hoursTillAllKnow(int p) {
            int known = bit(p);
            // Each HOUR brings one more or never will: there can't be more HOURS than PERSONS.
            for (int n = 0; n <= hill.persons; n++) {
                if (known == bit(hill.persons) - 1) {
                    return n;
                }
                known = spread(known);
            }
            return NONE;
        }

        private int spread(int known) {
            int reached = 0;
            for (int p = 0; p < hill.persons; p++) {
                if (has(known, p)) {
                    int from = at(talk.rooms, p);
                    reached |= bit(from) | at(hill.heard, from);
                }
            }
            return known | life.personsIn(reached);
        }

        int listeningRooms(int p, int q, int v) {
            int set = 0;
            for (int r = 0; r < hill.rooms; r++) {
                if (life.says(p, at(talk.rooms, p), q, r, has(talk.coughers, q)) == v) {
                    set |= bit(r);
                }
            }
            return set;
        }
    }

    /** What can be undone: the talk as it was ahead of the latest deeds. */
    private static final class Past {
        final Talk[] kept = new Talk[MOST_UNDONE];
        int next;
        int count;

        Past() {
            for (int i = 0; i < kept.length; i++) {
                kept[i] = new Talk();
            }
        }

        void remember(Talk talk) {
            Talk slot = slotAt(next);
            if (slot == null) {
                return;
            }
            slot.copyFrom(talk);
            next = (next + 1) % MOST_UNDONE;
            count = Math.min(count + 1, MOST_UNDONE);
        }

        boolean recall(Talk talk) {
            int latest = (next + MOST_UNDONE - 1) % MOST_UNDONE;
            Talk slot = slotAt(latest);
            if (count <= 0 || slot == null) {
                return false;
            }
            talk.copyFrom(slot);
            next = latest;
            count--;
            return true;
        }

        void forget() {
            count = 0;
        }

        private Talk slotAt(int i) {
            return i >= 0 && i < kept.length ? kept[i] : null;
        }
    }

    /** What is NOTED of one unknown liking. */
    private static final class Notes {
        final int[] kinds = new int[MOST_NOTED];
        final int[] values = new int[MOST_NOTED];
        final int[] theres = new int[MOST_NOTED];
        int count;

        int add(int kind, int v, boolean there) {
            put(kinds, count, kind);
            put(values, count, v);
            put(theres, count, there ? 1 : 0);
            count++;
            return count;
        }

        /** The likings (a set of numbers) by which all that is NOTED is so. */
        int fitting() {
            int set = 0;
            for (int v = 0; v <= BEST_LIKING; v++) {
                set |= fits(v) ? bit(v) : 0;
            }
            return set;
        }

        private boolean fits(int v) {
            for (int i = 0; i < count; i++) {
                if (words(at(kinds, i), v, at(theres, i) == 1) != at(values, i)) {
                    return false;
                }
            }
            return true;
        }

        int leastFitting() {
            int set = fitting();
            for (int v = 0; v <= BEST_LIKING; v++) {
                if (has(set, v)) {
                    return v;
                }
            }
            return NONE;
        }

        int greatestFitting() {
            int set = fitting();
            for (int v = BEST_LIKING; v >= 0; v--) {
                if (has(set, v)) {
                    return v;
                }
            }
            return NONE;
        }

        int bestQuestion(int kind) {
            int set = fitting();
            int away = greatestPart(set, kind, false);
            int there = greatestPart(set, kind, true);
            if (Math.min(away, there) >= Integer.bitCount(set)) {
                return NONE;
            }
            return there < away ? 1 : 0;
        }

        /** How many likings of the set, at most, bring the same words. */
        private int greatestPart(int set, int kind, boolean there) {
            int greatest = 0;
            for (int said = -MOST_SAID; said <= MOST_SAID; said++) {
                int alike = 0;
                for (int v = 0; v <= BEST_LIKING; v++) {
                    alike += has(set, v) && words(kind, v, there) == said ? 1 : 0;
                }
                greatest = Math.max(greatest, alike);
            }
            return greatest;
        }
    }

    /** THE BOOK: how WARM PERSONS are told to be. */
    private static final class Book {
        final int[] persons = new int[MOST_ENTRIES];
        final int[] warms = new int[MOST_ENTRIES];
        int count;

        int add(int p, int warm) {
            put(persons, count, p);
            put(warms, count, warm);
            count++;
            return count;
        }

        int firstWrong(Talk talk) {
            for (int i = 0; i < count; i++) {
                if (at(warms, i) != at(talk.warms, at(persons, i))) {
                    return i;
                }
            }
            return NONE;
        }
    }

    /** THE SEED and the DRAWS from it. */
    private static final class Draws {
        int state;

        int next(int n) {
            state = (int) ((state * 1103515245L + 12345L) & 0x7fffffffL);
            return n > 0 ? (state / 65536) % n : 0;
        }
    }

    /** An IMAGE: the talk and THE SEED as they were. */
    private static final class Image {
        final Talk talk = new Talk();
        int drawn;
        boolean kept;
    }
}
