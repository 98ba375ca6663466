/** A bird that drinks: see ../shared/DOC.md for what each call does and answers. */
public final class BirdThatDrinks {
    private static final int NOBODY = -1;
    private static final int OTHER = -2;
    private static final int WRONG_STATE = -3;
    private static final int BELOW = -4;
    private static final int NO_ROOM = -6;
    private static final int NONE = -9;
    private static final int REFUSALS_OF_NOW = 1000000000;

    private static final int PEG = 1;
    private static final int STUFF = 2;
    private static final int SORT = 3;
    private static final int LIFT = 5;
    private static final int SIZE = 6;
    private static final int DRY = 8;
    private static final int WIND = 9;
    private static final int LAMP = 10;
    private static final int ROOM = 11;
    private static final int BELL = 12;
    private static final int SETTINGS = 15;

    private static final int[] FIRST = {40, 50, 60, 3, 0, 0, 1, 0, 50, 1, 0, 200, 0, 0, 10};
    private static final int[] LEAST = {10, 1, 10, 1, 0, 0, 1, 0, 0, 0, 0, 100, 0, 0, 0};
    private static final int[] GREATEST = {99, 99, 99, 9, 99, 9, 4, 1, 99, 9, 9, 400, 1, 1, 999};

    private static final int LONGEST_RUN = 3000;
    private static final int SORTS_RUN = 1000;
    private static final int TAPE_ROOM = 64;
    private static final int BOOK_ROOM = 20;
    private static final int DRUM_ROOM = 60;
    private static final int ROW_ROOM = 10;
    private static final int GREATEST_GLASS = 9999;
    private static final int GREATEST_WET = 9900;
    private static final int GREATEST_GAP = 9999;
    private static final int GREATEST_TRIPLE = 999999;

    private final Bird bird = new Bird();
    private final Bird kept = new Bird();
    // What is only in mind is tried on these two, so that no call makes objects.
    private final Bird mind = new Bird();
    private final Bird secondMind = new Bird();
    private final Tape tape = new Tape();
    private final Cells row = new Cells(ROW_ROOM);
    private final Cells refusals = new Cells(7);
    private boolean isImageTaken = false;

    public BirdThatDrinks() {
        refusals.fillUp();
    }

    // ---- what is told to him

    public int feed(int n, long bytes) {
        int refusal = outside(n < 1, n > 8 || tape.bytes.size() + n > TAPE_ROOM);
        if (refusal != 0) {
            return refusal;
        }
        for (int i = 0; i < n; i++) {
            tape.bytes.add((int) ((bytes >>> (8 * i)) & 255L));
        }
        return tape.bytes.size();
    }

    public int book() {
        int answer = tape.readInto(bird.hours);
        tape.bytes.clear();
        return answer;
    }

    public int set(int what, int v) {
        if (what < 0 || what >= SETTINGS) {
            return refuse(OTHER);
        }
        int refusal = outside(v < numberIn(LEAST, what), v > numberIn(GREATEST, what));
        if (refusal != 0) {
            return refusal;
        }
        int old = bird.settings.at(what);
        bird.settings.put(what, v);
        return old;
    }

    public int glass(int v) {
        int refusal = outside(v < 0, v > GREATEST_GLASS);
        if (refusal != 0) {
            return refusal;
        }
        int old = bird.water;
        bird.water = v;
        return old;
    }

    public int wet(int v) {
        int refusal = outside(v < 0, v > GREATEST_WET);
        if (refusal != 0) {
            return refusal;
        }
        int old = bird.wetness;
        bird.wetness = Math.min(v, bird.mostWet());
        return old;
    }

    public int run(int n) {
        int refusal = outside(n < 1, n > LONGEST_RUN);
        if (refusal != 0) {
            return refusal;
        }
        bird.nodsIn(n);
        return bird.nods;
    }

    // ---- how he is

    public int now(int what) {
        switch (what) {
            case 0: return bird.head;
            case 1: return bird.tail;
            case 2: return bird.wetness;
            case 3: return bird.up;
            case 4: return bird.damp;
            case 5: return bird.gone;
            case 6: return bird.time;
            case 7: return bird.nods;
            case 8: return bird.kind;
            case 9: return bird.since;
            case 10: return bird.swing;
            case 11: return bird.water;
            case 12: return bird.press;
            default: return REFUSALS_OF_NOW - refuse(OTHER);
        }
    }

    public int air(int what) {
        if (what < 0 || what > 3) {
            return refuse(OTHER);
        }
        return bird.airOf(DRY + what);
    }

    public int full() {
        return bird.height();
    }

    // ---- what would be

    public int often(int n) {
        int refusal = outside(n < 1, n > LONGEST_RUN);
        if (refusal != 0) {
            return refusal;
        }
        mind.become(bird);
        return mind.nodsIn(n);
    }

    public int law(int dry, int n) {
        int refusal = outside(dry < 0 || n < 1, dry > 99 || n > LONGEST_RUN);
        if (refusal != 0) {
            return refusal;
        }
        return freshWith(DRY, dry).nodsIn(n);
    }

    public int stops(int n) {
        int refusal = outside(n < 1, n > LONGEST_RUN);
        if (refusal != 0) {
            return refusal;
        }
        for (int dry = 0; dry <= 99; dry++) {
            if (freshWith(DRY, dry).nodsWithin(n)) {
                return dry;
            }
        }
        return NONE;
    }

    public int pegs(int n, int what) {
        if (what < 0 || what > 1) {
            return refuse(OTHER);
        }
        int refusal = outside(n < 1, n > 1000);
        if (refusal != 0) {
            return refusal;
        }
        for (int i = 1; i <= 99; i++) {
            int peg = what == 0 ? i : 100 - i;
            if (freshWith(PEG, peg).nodsWithin(n)) {
                return peg;
            }
        }
        return NONE;
    }

    public int widest(int n) {
        int refusal = outside(n < 1, n > 1000);
        if (refusal != 0) {
            return refusal;
        }
        int best = 0;
        int most = -1;
        for (int peg = 10; peg <= 90; peg += 10) {
            int airs = airsFor(peg, n);
            if (airs > most) {
                most = airs;
                best = peg;
            }
        }
        return best;
    }

    public int lifts(int n) {
        int refusal = outside(n < 1, n > LONGEST_RUN);
        if (refusal != 0) {
            return refusal;
        }
        int best = 0;
        int most = -1;
        for (int lift = 0; lift <= 9; lift++) {
            int lifted = freshWith(LIFT, lift).nodsIn(n) * lift;
            if (lifted > most) {
                most = lifted;
                best = lift;
            }
        }
        return best;
    }

    public int under() {
        return freshWith(BELL, 1).nodsIn(LONGEST_RUN);
    }

    public int without(int n) {
        int refusal = outside(n < 1, n > LONGEST_RUN);
        if (refusal != 0) {
            return refusal;
        }
        for (int lamp = 0; lamp <= 9; lamp++) {
            Bird fresh = freshWith(LAMP, lamp);
            fresh.wetness = 0;
            fresh.water = 0;
            if (fresh.nodsWithin(n)) {
                return lamp;
            }
        }
        return NONE;
    }

    public int larger(int k, int n) {
        int refusal = outside(k < 1 || n < 1, k > 4 || n > LONGEST_RUN);
        if (refusal != 0) {
            return refusal;
        }
        return freshWith(SIZE, k).nodsIn(n);
    }

    public int together(int k) {
        int refusal = outside(k < 1, k > 4);
        if (refusal != 0) {
            return refusal;
        }
        mind.hatch(bird, SIZE, 1);
        secondMind.hatch(bird, SIZE, k);
        for (int i = 0; i < LONGEST_RUN; i++) {
            int first = mind.nodsIn(1);
            int second = secondMind.nodsIn(1);
            if (first > 0 && second > 0) {
                return i;
            }
        }
        return NONE;
    }

    public int drinks(int n) {
        int refusal = outside(n < 1, n > LONGEST_RUN);
        if (refusal != 0) {
            return refusal;
        }
        mind.become(bird);
        mind.nodsIn(n);
        return bird.water - mind.water;
    }

    public int goes(int n, int by, int part) {
        if (part < 0 || part > 1) {
            return refuse(OTHER);
        }
        int refusal = outside(n < 1 || by < 0, n > 300 || by > 5);
        if (refusal != 0) {
            return refusal;
        }
        int above = pairsThatNod(n, by);
        int below = (2 * by + 1) * (2 * by + 1);
        int shared = commonDivisor(above, below);
        int wanted = part == 0 ? above : below;
        return shared > 0 ? wanted / shared : wanted;
    }

    public int bestRoom(int n) {
        int refusal = outside(n < 1, n > LONGEST_RUN);
        if (refusal != 0) {
            return refusal;
        }
        int best = 0;
        int most = -1;
        for (int room = 100; room <= 400; room += 50) {
            int nods = freshWith(ROOM, room).nodsIn(n);
            if (nods > most) {
                most = nods;
                best = room;
            }
        }
        return best;
    }

    public int latest(int n) {
        int refusal = outside(n < 1, n > LONGEST_RUN);
        if (refusal != 0) {
            return refusal;
        }
        int best = NONE;
        int latestNod = -1;
        for (int size = 1; size <= 4; size++) {
            int nod = freshWith(SIZE, size).lastNodIn(n);
            if (nod > latestNod) {
                latestNod = nod;
                best = size;
            }
        }
        return best;
    }

    // ---- the drum

    public int dot(int i) {
        if (i < 0) {
            return refuse(BELOW);
        }
        return i < bird.drum.size() ? bird.drum.at(i) : NONE;
    }

    public int even(int more) {
        if (more < 0) {
            return refuse(BELOW);
        }
        for (int i = 1; i < bird.gaps(); i++) {
            if (Math.abs(bird.gapAt(i) - bird.gapAt(i - 1)) > more) {
                return i;
            }
        }
        return NONE;
    }

    public int longer(int what) {
        if (what < 0 || what > 1) {
            return refuse(OTHER);
        }
        int many = 0;
        for (int i = 1; i < bird.gaps(); i++) {
            int more = bird.gapAt(i) - bird.gapAt(i - 1);
            if (what == 0 ? more > 0 : more < 0) {
                many++;
            }
        }
        return many;
    }

    public int slow(int times) {
        int refusal = outside(times < 0, times > 999);
        if (refusal != 0) {
            return refusal;
        }
        long bound = (long) times * bird.gapAt(0) / 10;
        for (int i = 1; i < bird.gaps(); i++) {
            if (bird.gapAt(i) > bound) {
                return i;
            }
        }
        return NONE;
    }

    public int hour(int i) {
        if (i < 0) {
            return refuse(BELOW);
        }
        long from = 100L * i;
        int many = 0;
        for (int k = 0; k < bird.drum.size(); k++) {
            int dot = bird.drum.at(k);
            if (dot >= from && dot < from + 100) {
                many++;
            }
        }
        return many;
    }

    // ---- told gaps

    public int gap(int v) {
        int refusal = outside(v < 0, v > GREATEST_GAP || row.size() >= ROW_ROOM);
        if (refusal != 0) {
            return refusal;
        }
        row.add(v);
        return row.size();
    }

    public int judge(int slip) {
        int refusal = outside(slip < 0, slip > GREATEST_GAP);
        if (refusal != 0) {
            return refusal;
        }
        int answer = judged(slip);
        row.clear();
        return answer;
    }

    public int driest(int slip, int what) {
        if (what < 0 || what > 2) {
            return refuse(OTHER);
        }
        int refusal = outside(slip < 0, slip > GREATEST_GAP);
        if (refusal != 0) {
            return refusal;
        }
        if (row.size() == 0) {
            return refuse(WRONG_STATE);
        }
        int least = NONE;
        int greatest = NONE;
        int many = 0;
        for (int dry = 0; dry <= 95; dry += 5) {
            if (fitsTheRow(dry, slip)) {
                least = many == 0 ? dry : least;
                greatest = dry;
                many++;
            }
        }
        return what == 0 ? least : what == 1 ? greatest : many;
    }

    // ---- which stuff it is

    public int sorts(int dries, int nods) {
        int refusal = outside(dries < 0 || nods < 0, dries > GREATEST_TRIPLE || nods > GREATEST_TRIPLE);
        if (refusal != 0) {
            return refusal;
        }
        return sortBits(dries, nods);
    }

    public int odds(int sort, int dries, int nods, int part) {
        if (sort < 1 || sort > 9) {
            return refuse(NOBODY);
        }
        if (part < 0 || part > 1) {
            return refuse(OTHER);
        }
        int refusal = outside(dries < 0 || nods < 0, dries > GREATEST_TRIPLE || nods > GREATEST_TRIPLE);
        if (refusal != 0) {
            return refusal;
        }
        int bits = sortBits(dries, nods);
        boolean one = (bits >> sort & 1) == 1;
        if (part == 0) {
            return one ? 1 : 0;
        }
        return one ? Integer.bitCount(bits) : 1;
    }

    // ---- drafts, the image, how many

    public int drafts(int n, int z) {
        int refusal = outside(n < 1, n > LONGEST_RUN);
        if (refusal != 0) {
            return refusal;
        }
        mind.become(bird);
        int seed = z;
        int nods = 0;
        for (int i = 0; i < n; i++) {
            if (mind.time % 10 == 0) {
                seed = seed * 1664525 + 1013904223;
                mind.draft = (seed & 0x7fffffff) / 256 % 10;
            }
            nods += mind.nodsIn(1);
        }
        return nods;
    }

    public int image() {
        kept.become(bird);
        isImageTaken = true;
        return bird.time;
    }

    public int on() {
        if (!isImageTaken) {
            return refuse(WRONG_STATE);
        }
        bird.become(kept);
        return bird.time;
    }

    public int count(int what) {
        if (what >= 11 && what <= 16) {
            return refusals.at(what - 10);
        }
        switch (what) {
            case 0: return bird.drum.size();
            case 1: return bird.hours.size();
            case 2: return row.size();
            case 3: return tape.bytes.size();
            default: return NONE;
        }
    }

    // ---- refusals

    private int refuse(int refusal) {
        refusals.put(-refusal, refusals.at(-refusal) + 1);
        return refusal;
    }

    /** 0 if neither is so; else the refusal, which is counted. */
    private int outside(boolean below, boolean above) {
        if (below) {
            return refuse(BELOW);
        }
        return above ? refuse(NO_ROOM) : 0;
    }

    // ---- parts of the calls above

    private Bird freshWith(int what, int v) {
        mind.hatch(bird, what, v);
        return mind;
    }

    /** With how many of the tens of DRY he nods on this PEG. */
    private int airsFor(int peg, int n) {
        int airs = 0;
        for (int dry = 0; dry <= 90; dry += 10) {
            if (freshWith(DRY, dry).with(PEG, peg).nodsWithin(n)) {
                airs++;
            }
        }
        return airs;
    }

    private int pairsThatNod(int n, int by) {
        int many = 0;
        for (int a = -by; a <= by; a++) {
            for (int b = -by; b <= by; b++) {
                int peg = bird.settings.at(PEG) + a;
                int stuff = bird.settings.at(STUFF) + b;
                if (isInRange(PEG, peg) && isInRange(STUFF, stuff)
                        && freshWith(PEG, peg).with(STUFF, stuff).nodsWithin(n)) {
                    many++;
                }
            }
        }
        return many;
    }

    private int judged(int slip) {
        int gaps = bird.gaps();
        int both = Math.min(row.size(), gaps);
        for (int i = 0; i < both; i++) {
            if (Math.abs(row.at(i) - bird.gapAt(i)) > slip) {
                return i;
            }
        }
        return row.size() == gaps ? NONE : both;
    }

    private boolean fitsTheRow(int dry, int slip) {
        Bird fresh = freshWith(DRY, dry);
        for (int i = 0; i < LONGEST_RUN && fresh.gaps() < row.size(); i++) {
            fresh.tenth();
        }
        if (fresh.gaps() < row.size()) {
            return false;
        }
        for (int i = 0; i < row.size(); i++) {
            if (Math.abs(row.at(i) - fresh.gapAt(i)) > slip) {
                return false;
            }
        }
        return true;
    }

    private int sortBits(int dries, int nods) {
        int bits = 0;
        for (int sort = 1; sort <= 9; sort++) {
            boolean gives = true;
            for (int unit = 10000; unit >= 1 && gives; unit /= 100) {
                Bird fresh = freshWith(SORT, sort).with(DRY, dries / unit % 100);
                gives = fresh.nodsIn(SORTS_RUN) == nods / unit % 100;
            }
            if (gives) {
                bits |= 1 << sort;
            }
        }
        return bits;
    }

    private static int commonDivisor(int a, int b) {
        int x = a;
        int y = b;
        for (int i = 0; i < 100 && y != 0; i++) {
            int rest = x % y;
            x = y;
            y = rest;
        }
        return x;
    }

    private static int numberIn(int[] numbers, int i) {
        return i >= 0 && i < numbers.length ? numbers[i] : 0;
    }

    private static boolean isInRange(int what, int v) {
        return v >= numberIn(LEAST, what) && v <= numberIn(GREATEST, what);
    }

    /** A row of numbers with a fixed room; here alone indexes are looked at and used. */
    private static final class Cells {
        private final int[] cells;
        private int size = 0;

        Cells(int room) {
            cells = new int[Math.max(0, room)];
        }

        int size() {
            return size;
        }

        int at(int i) {
            return i >= 0 && i < size ? cells[i] : 0;
        }

        void put(int i, int v) {
            if (i >= 0 && i < size) {
                cells[i] = v;
            }
        }

        /** Adds it where there is room, else leaves it out. */
        void add(int v) {
            if (size < cells.length) {
                cells[size] = v;
                size++;
            }
        }

        void cutTo(int length) {
            if (length >= 0 && length < size) {
                size = length;
            }
        }

        void clear() {
            size = 0;
        }

        void fillUp() {
            for (int i = size; i < cells.length; i++) {
                add(0);
            }
        }

        void become(Cells other) {
            int length = Math.min(other.size, cells.length);
            System.arraycopy(other.cells, 0, cells, 0, length);
            size = length;
        }
    }

    /** The BOOK of HOURS: its STATEMENTS in the order in which they were told. */
    private static final class Hours {
        private final Cells things = new Cells(BOOK_ROOM);
        private final Cells tenths = new Cells(BOOK_ROOM);
        private final Cells values = new Cells(BOOK_ROOM);

        int size() {
            return things.size();
        }

        void add(int thing, int tenth, int value) {
            things.add(thing);
            tenths.add(tenth);
            values.add(value);
        }

        void cutTo(int length) {
            things.cutTo(length);
            tenths.cutTo(length);
            values.cutTo(length);
        }

        void become(Hours other) {
            things.become(other.things);
            tenths.become(other.tenths);
            values.become(other.values);
        }

        int valueOf(int thing, int time, int otherwise) {
            int answer = otherwise;
            int latest = -1;
            for (int i = 0; i < things.size(); i++) {
                int tenth = tenths.at(i);
                if (things.at(i) == thing && tenth <= time && tenth >= latest) {
                    latest = tenth;
                    answer = values.at(i);
                }
            }
            return answer;
        }
    }

    /** THE TAPE, and how it is read as STATEMENTS. */
    private static final class Tape {
        private static final int FORM_FAULT = -1000;
        private static final int STATEMENT_FAULT = -2000;

        final Cells bytes = new Cells(TAPE_ROOM);
        private int place = 0;
        // The STATEMENT that was read last.
        private int start = 0;
        private int thing = 0;
        private int tenth = 0;
        private int value = 0;

        /** How many STATEMENTS came into the BOOK, or the FAULT, by which none came. */
        int readInto(Hours hours) {
            if (!hasForm()) {
                return FORM_FAULT - place;
            }
            int before = hours.size();
            place = 0;
            for (int i = 0; i < TAPE_ROOM && place < bytes.size(); i++) {
                if (!readStatement() || !isInRange(thing, value) || hours.size() >= BOOK_ROOM) {
                    hours.cutTo(before);
                    return STATEMENT_FAULT - start;
                }
                hours.add(thing, tenth, value);
            }
            return hours.size() - before;
        }

        /** At least one STATEMENT and nothing else; if not, the place is that of the fault. */
        private boolean hasForm() {
            place = 0;
            boolean right = readStatement();
            for (int i = 0; i < TAPE_ROOM && right && place < bytes.size(); i++) {
                right = readStatement();
            }
            return right;
        }

        /** Moves the place behind the STATEMENT, or to the byte with which none can go on. */
        private boolean readStatement() {
            start = place;
            thing = thingOf(bytes.at(place));
            if (thing < 0) {
                return false;
            }
            place++;
            tenth = readNumber(4);
            if (tenth < 0 || !readSign(':')) {
                return false;
            }
            value = readNumber(3);
            return value >= 0 && readSign(';');
        }

        private static int thingOf(int letter) {
            switch (letter) {
                case 'd': return DRY;
                case 'w': return WIND;
                case 'l': return LAMP;
                case 'r': return ROOM;
                default: return -1;
            }
        }

        /** A number of so many digits at most; -1 where none stands. */
        private int readNumber(int digits) {
            int sum = -1;
            for (int i = 0; i < digits; i++) {
                int sign = bytes.at(place);
                if (sign < '0' || sign > '9') {
                    return sum;
                }
                sum = 10 * Math.max(0, sum) + sign - '0';
                place++;
            }
            return sum;
        }

        private boolean readSign(char due) {
            if (bytes.at(place) != due) {
                return false;
            }
            place++;
            return true;
        }
    }

    /** One bird with his air, his glass, his book and his drum: the real one, the image, or one in mind. */
    private static final class Bird {
        private static final int FELT = 0;
        private static final int CRACK = 4;
        private static final int BLACK = 7;
        private static final int SPIRIT = 13;
        private static final int REACH = 14;

        private static final int RISING = 0;
        private static final int SWINGING = 1;
        private static final int TIPPING = 2;
        private static final int EMPTYING = 3;
        private static final int HANGING = 4;
        private static final int STOPPED = 5;
        private static final int DRIED = 6;

        private static final int FIRST_GLASS = 500;
        private static final int FRESH_WET = 500;
        private static final int FIRST_SWING = 88;
        private static final int NO_DRAFT = -1;

        final Cells settings = new Cells(SETTINGS);
        final Hours hours = new Hours();
        final Cells drum = new Cells(DRUM_ROOM);
        int water = FIRST_GLASS;
        int head = 0;
        int tail = 0;
        int wetness = 0;
        int up = 0;
        int damp = 0;
        int gone = 0;
        int time = 0;
        int nods = 0;
        int kind = RISING;
        int since = 0;
        int swing = 0;
        int press = 0;
        // The WIND drawn last; it is over the BOOK's and the setting. Only a bird in mind has one.
        int draft = NO_DRAFT;
        private int cold = 0;

        Bird() {
            for (int i = 0; i < SETTINGS; i++) {
                settings.add(numberIn(FIRST, i));
            }
            head = settings.at(ROOM);
            tail = settings.at(ROOM);
        }

        void become(Bird other) {
            settings.become(other.settings);
            hours.become(other.hours);
            drum.become(other.drum);
            water = other.water;
            head = other.head;
            tail = other.tail;
            wetness = other.wetness;
            up = other.up;
            damp = other.damp;
            gone = other.gone;
            time = other.time;
            nods = other.nods;
            kind = other.kind;
            since = other.since;
            swing = other.swing;
            press = other.press;
            draft = other.draft;
            cold = other.cold;
        }

        /** Becomes a fresh BIRD with the other's settings but one, and his GLASS. */
        void hatch(Bird other, int what, int v) {
            settings.become(other.settings);
            settings.put(what, v);
            hours.cutTo(0);
            drum.clear();
            water = other.water;
            head = settings.at(ROOM);
            tail = settings.at(ROOM);
            wetness = FRESH_WET;
            up = 0;
            damp = 0;
            gone = 0;
            time = 0;
            nods = 0;
            press = 0;
            draft = NO_DRAFT;
            cold = 0;
            turn(RISING);
        }

        Bird with(int what, int v) {
            settings.put(what, v);
            return this;
        }

        int airOf(int what) {
            if (what == WIND && draft != NO_DRAFT) {
                return draft;
            }
            return hours.valueOf(what, time, settings.at(what));
        }

        int height() {
            return settings.at(STUFF) * settings.at(PEG) + 10 * settings.at(LIFT);
        }

        int mostWet() {
            return 100 * settings.at(FELT);
        }

        int gaps() {
            return Math.max(0, drum.size() - 1);
        }

        int gapAt(int i) {
            return i >= 0 && i < gaps() ? drum.at(i + 1) - drum.at(i) : 0;
        }

        int nodsIn(int n) {
            int before = nods;
            for (int i = 0; i < n; i++) {
                tenth();
            }
            return nods - before;
        }

        boolean nodsWithin(int n) {
            int before = nods;
            for (int i = 0; i < n && nods == before; i++) {
                tenth();
            }
            return nods > before;
        }

        /** The TENTH of the last NOD of these, which may be too late for the drum; -1 without one. */
        int lastNodIn(int n) {
            int last = -1;
            for (int i = 0; i < n; i++) {
                if (nodsIn(1) > 0) {
                    last = time - 1;
                }
            }
            return last;
        }

        void tenth() {
            int room = airOf(ROOM);
            int off = goingOff(airOf(DRY), airOf(WIND));
            wetness -= off;
            damp += off;
            gone += off;
            int lamp = airOf(LAMP) * (settings.at(BLACK) == 1 ? 2 : 1);
            head += (room - head) / 20 - off / 10;
            tail += (room - tail) / 20 + lamp;
            press = pressure();
            since++;
            switch (kind) {
                case TIPPING:
                    tip();
                    break;
                case EMPTYING:
                    empty();
                    break;
                default:
                    rise();
            }
            time++;
        }

        private int goingOff(int dry, int wind) {
            int dryness = dry;
            if (settings.at(BELL) == 1) {
                dryness = Math.max(0, dryness - damp / 1000);
            }
            int off = dryness * (wind + 1) / 4;
            if (settings.at(SPIRIT) == 1) {
                off *= 2;
            }
            return Math.min(off, wetness);
        }

        private int pressure() {
            int by = 3 * settings.at(SIZE);
            int drawn = (tail - head) * settings.at(SORT);
            return (by > 0 ? drawn / by : drawn) - settings.at(CRACK);
        }

        private void rise() {
            int most = 100 * settings.at(STUFF);
            up = Math.max(0, Math.min(most, up + press / 2));
            cold = press <= 0 ? cold + 1 : 0;
            if (up >= height()) {
                turn(TIPPING);
                return;
            }
            switch (kind) {
                case RISING:
                    riseNoMore(most);
                    break;
                case SWINGING:
                    swingOn();
                    break;
                default:
                    if (press > 0 && up < most) {
                        turn(RISING);
                    }
            }
        }

        private void riseNoMore(int most) {
            if (up == most) {
                turn(HANGING);
            } else if (cold >= 50) {
                turn(wetness == 0 && water < settings.at(REACH) ? DRIED : STOPPED);
            }
        }

        private void swingOn() {
            if (since % 3 == 0) {
                swing = swing / 8 * 7;
            }
            if (swing < 10) {
                turn(RISING);
            }
        }

        private void tip() {
            if (since < 5) {
                return;
            }
            nods++;
            drum.add(time);
            if (water >= settings.at(REACH) && water >= 5) {
                water -= 5;
                wetness = Math.min(mostWet(), wetness + 500);
            }
            turn(EMPTYING);
        }

        private void empty() {
            up = Math.max(0, up - up / 4 - 1);
            if (up <= 5 * settings.at(STUFF)) {
                turn(SWINGING);
            }
        }

        private void turn(int newKind) {
            kind = newKind;
            since = 0;
            swing = newKind == SWINGING ? FIRST_SWING : 0;
        }
    }
}
