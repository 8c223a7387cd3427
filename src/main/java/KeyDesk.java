import java.util.Arrays;

/**
 * A key sifting desk: a plan is told as a text, signals are drawn and sifted to keys, the keys are
 * sampled, mended, checked, shortened and used up; what was told aloud stands in a ledger.
 */
public final class KeyDesk {
    /** None. */
    public static final int NONE = -1;

    // What was asked rightly, but is not there: NONE already means that it was asked wrongly.
    private static final int NO_SUCH = -2;

    private static final int TAPE_MOST = 200;
    private static final int FEED = 20;

    // The numbers of a plan, in the order in which the document tells them.
    private static final int SIGNALS = 0;
    private static final int SEED = 1;
    private static final int NOISE = 2;
    private static final int SPY = 3;
    private static final int SAMPLE = 4;
    private static final int BLOCK = 5;
    private static final int PASSES = 6;
    private static final int HASH = 7;
    private static final int SAFE = 8;
    private static final int SETTINGS = 9;
    private static final int[] LEAST = {2, 0, 0, 0, 0, 2, 1, 1, 0};
    private static final int[] MOST = {256, 99999, 500, 100, 128, 64, 6, 30, 50};
    private static final int[] USUAL = {64, 1, 30, 0, 8, 8, 4, 16, 10};

    // How long the rows must be for the greatest plan.
    private static final int PLACES = 256;
    private static final int PASSES_MOST = 6;
    private static final int BLOCKS = 128;
    private static final int WORDS = 4;
    private static final int ROW = 2 * PLACES;

    private static final int BEGUN = 1;
    private static final int SAMPLED = 2;
    private static final int MENDED = 3;
    private static final int CHECKED = 4;
    private static final int SHORTENED = 5;
    private static final int GIVEN_UP = 6;

    // Where a signal's marks stand: bit k is what signal(.., k) tells; the last is not told there.
    private static final int BIT_A = 0;
    private static final int BASE_A = 1;
    private static final int BASE_B = 2;
    private static final int BIT_B = 3;
    private static final int SPIED = 4;
    private static final int SIFTED = 5;
    private static final int KNOWN = 6;

    private static final int WINNOWED = -2;
    private static final int WINNOWS_MOST = 8;
    private static final int EIGHT = 8;
    private static final int UNDO_MOST = 12;
    private static final int IMAGES = 2;
    private static final int TRIES_MOST = 20;

    private final int[] tape = new int[TAPE_MOST];
    private int taped = 0;
    private final Plan plan = new Plan();
    private final PlanReader reader = new PlanReader();
    private final State now = new State();
    private final History history = new History();
    private final State[] images = new State[IMAGES];
    private final int[] imaged = new int[IMAGES];
    private final Mender mender = new Mender();
    private final Acts acts = new Acts();
    private final Span span = new Span();
    private final Trials trials = new Trials();

    /** STAGE 0, the PLAN without LINES. */
    public KeyDesk() {
        for (int k = 0; k < IMAGES; k++) {
            images[k] = new State();
        }
    }

    // ---- the tape and the plan

    /** Twenty bytes come behind the TAPE: how many it has; NONE if it would have too many. */
    public int feed(int a, int b, int c, int d, int e) {
        if (taped > TAPE_MOST - FEED) {
            return NONE;
        }
        tapeFour(a);
        tapeFour(b);
        tapeFour(c);
        tapeFour(d);
        tapeFour(e);
        return taped;
    }

    private void tapeFour(int number) {
        for (int shift = 24; shift >= 0; shift -= 8) {
            if (taped < TAPE_MOST) {
                tape[taped] = (number >>> shift) & 255;
                taped++;
            }
        }
    }

    /** The TAPE has its first n bytes alone: n; NONE if it has not so many. */
    public int end(int n) {
        if (n < 0 || n > taped) {
            return NONE;
        }
        taped = n;
        return n;
    }

    /** The TAPE tells the PLAN: how many LINES; -2 - its FAULT. */
    public int plan() {
        int told = reader.read(tape, taped);
        taped = 0;
        if (told < 0) {
            return told;
        }
        plan.takeFrom(reader.result);
        now.clear();
        history.clear();
        Arrays.fill(imaged, 0);
        return told;
    }

    /** What the PLAN has, 0 to 8; NONE for others. */
    public int setting(int k) {
        return plan.number(k);
    }

    // ---- the acts

    /** BEGIN: n. */
    public int begin() {
        history.keep(now);
        acts.drawSignals(now, plan);
        return now.keys.n;
    }

    /** SAMPLE: ERRORS; NONE but at STAGE 1. */
    public int sample() {
        if (now.stage != BEGUN) {
            return NONE;
        }
        history.keep(now);
        acts.tellSample(now, plan);
        return now.errors;
    }

    /** A PASS: how many BITS are MENDED; NONE but at STAGES 2 and 3, or if passes are done. */
    public int pass() {
        if (!isMending() || now.done >= plan.number(PASSES)) {
            return NONE;
        }
        history.keep(now);
        return mender.runPass(now, plan.number(BLOCK));
    }

    /** WINNOW: how many BITS are MENDED; NONE but at STAGES 2 and 3, or if it was done 8 times. */
    public int winnow() {
        if (!isMending() || now.winnows >= WINNOWS_MOST) {
            return NONE;
        }
        history.keep(now);
        return mender.winnowEights(now);
    }

    /** CHECK: 1 if it is not GIVEN UP, else 0; NONE but at STAGES 2 and 3. */
    public int check() {
        if (!isMending()) {
            return NONE;
        }
        history.keep(now);
        acts.compare(now, plan);
        return now.stage == CHECKED ? 1 : 0;
    }

    /** SHORTEN: LENGTH; 0 if it is GIVEN UP; NONE but at STAGE 4. */
    public int shorten() {
        if (now.stage != CHECKED) {
            return NONE;
        }
        history.keep(now);
        acts.drawFinal(now, plan);
        return now.finals.length;
    }

    /** SEND: the CIPHER; NONE for what is no byte, but at STAGE 5, or without eight BITS left. */
    public int send(int v) {
        if (v < 0 || v > 255 || now.stage != SHORTENED || now.finals.left() < EIGHT) {
            return NONE;
        }
        history.keep(now);
        return now.finals.useByte(v);
    }

    /** SLIP: how many BITS are unlike then; NONE without that PLACE, or but at STAGES 1 to 3. */
    public int slip(int place) {
        if (now.stage < BEGUN || now.stage > MENDED || !now.keys.has(place)) {
            return NONE;
        }
        history.keep(now);
        now.keys.turn(place);
        return now.keys.unlike();
    }

    /** The last ACT is UNDONE: how many more can be; NONE if none can. */
    public int undo() {
        if (history.kept == 0) {
            return NONE;
        }
        history.giveBack(now);
        return history.kept;
    }

    private boolean isMending() {
        return now.stage == SAMPLED || now.stage == MENDED;
    }

    // ---- what stands

    /** What a SIGNAL has; NONE without these, or at STAGE 0. */
    public int signal(int signal, int what) {
        if (signal < 0 || signal >= now.signals || what < BIT_A || what > SIFTED) {
            return NONE;
        }
        return now.mark(signal, what);
    }

    /** The BIT of A's KEY (side 0), of B's (1) at a PLACE; NONE without these. */
    public int key(int side, int place) {
        if (side < 0 || side > 1 || !now.keys.has(place)) {
            return NONE;
        }
        return side == 0 ? now.keys.a[place] : now.keys.b[place];
    }

    /** The k-th PLACE in the ORDER of a PASS that is done; NONE without these. */
    public int order(int pass, int k) {
        if (!now.hasDone(pass) || !now.keys.has(k)) {
            return NONE;
        }
        return now.ordered(pass, k);
    }

    /** What the k-th in the LEDGER is; NONE without these. */
    public int ledger(int k, int what) {
        if (!now.ledger.has(k)) {
            return NONE;
        }
        switch (what) {
            case 0: return now.ledger.parities[k];
            case 1: return now.ledger.places(k);
            case 2: return now.ledger.origins[k];
            case 3: return now.ledger.least(k);
            default: return NONE;
        }
    }

    /** Whether a PLACE is in the set of the k-th in the LEDGER: 1, 0; NONE without these. */
    public int isIn(int k, int place) {
        if (!now.ledger.has(k) || !now.keys.has(place)) {
            return NONE;
        }
        return now.ledger.holds(k, place) ? 1 : 0;
    }

    /** The i-th BIT of the FINAL KEY of A (side 0), of B (1); NONE without these. */
    public int last(int side, int i) {
        if (side < 0 || side > 1 || i < 0 || i >= now.finals.length) {
            return NONE;
        }
        return side == 0 ? now.finals.a[i] : now.finals.b[i];
    }

    /** What the k-th BLOCK of a PASS that is done is; NONE without these. */
    public int block(int pass, int k, int what) {
        if (!now.hasDone(pass)) {
            return NONE;
        }
        int size = plan.number(BLOCK) << pass;
        if (k < 0 || k >= blocksOf(now.keys.n, size)) {
            return NONE;
        }
        int begin = k * size;
        int length = lengthOf(now.keys.n, size, k);
        switch (what) {
            case 0: return begin;
            case 1: return length;
            case 2: return now.unlikeAlong(pass, begin, length);
            default: return NONE;
        }
    }

    /** One of the numbers that tell how things stand; NONE for others. */
    public int count(int what) {
        switch (what) {
            case 0: return now.stage;
            case 1: return now.keys.n;
            case 2: return now.keys.unlike();
            case 3: return now.done;
            case 4: return now.ledger.size;
            case 5: return now.errors;
            case 6: return now.bound;
            case 7: return now.finals.length;
            case 8: return now.mended;
            case 9: return now.spied;
            case 10: return now.x;
            case 11: return history.kept;
            case 12: return taped;
            case 13: return now.signals;
            case 14: return now.finals.used;
            case 15: return now.finals.cipher;
            case 16: return now.finals.read;
            default: return NONE;
        }
    }

    // ---- what is given away

    /** RANK. */
    public int rank() {
        span.clear();
        span.addLedger(now.ledger);
        return span.size;
    }

    /** Whether a PLACE is FIXED: 1, 0; place NONE: how many are; NONE without these. */
    public int fixed(int place) {
        if (place != NONE && !now.keys.has(place)) {
            return NONE;
        }
        span.clear();
        span.addLedger(now.ledger);
        if (place != NONE) {
            return span.holdsPlace(place) ? 1 : 0;
        }
        int many = 0;
        for (int k = 0; k < now.keys.n; k++) {
            many += span.holdsPlace(k) ? 1 : 0;
        }
        return many;
    }

    /** Whether E KNOWS a PLACE: 1, 0; place NONE: how many; NONE without these. */
    public int spied(int place) {
        if (place == NONE) {
            return now.keys.knownPlaces();
        }
        return now.keys.has(place) ? now.keys.known[place] : NONE;
    }

    /** SECRET, or from E; NONE but at STAGE 5. */
    public int secret(boolean fromSpy) {
        if (now.stage != SHORTENED) {
            return NONE;
        }
        span.clear();
        span.addLedger(now.ledger);
        if (fromSpy) {
            span.addKnown(now.keys);
        }
        int without = span.size;
        span.addFinals(now.finals, now.keys.n);
        return span.size - without;
    }

    // ---- what is tried

    /** WOULD; NONE without these, or but at STAGES 2 and 3. */
    public int would(int k, int what) {
        if (k < 0 || k > PASSES_MOST || what < 0 || what > 1 || !isMending()) {
            return NONE;
        }
        trials.runPasses(now, plan, k);
        return what == 0 ? trials.state.keys.unlike() : trials.state.ledger.size;
    }

    /** ROUNDS; -2: not with all passes; NONE for others, or but at STAGES 2 and 3. */
    public int rounds(int what) {
        if (what < 0 || what > 1 || !isMending()) {
            return NONE;
        }
        return trials.roundsTillAlike(now, plan, what);
    }

    /** BEST; -2: there is none; NONE for others, or but at STAGE 2. */
    public int best(int what) {
        if (what < 0 || what > 1 || now.stage != SAMPLED) {
            return NONE;
        }
        return trials.bestBlock(now, plan, what);
    }

    /** SEEDS m (1 to 20); NONE without these. */
    public int seeds(int m, int what) {
        if (m < 1 || m > TRIES_MOST || what < 0 || what > 2) {
            return NONE;
        }
        return trials.overSeeds(plan, m, what);
    }

    /** NOISE m (1 to 20); -2: by none; NONE for another m. */
    public int noise(int m) {
        if (m < 1 || m > TRIES_MOST) {
            return NONE;
        }
        return trials.greatestNoise(plan, m);
    }

    // ---- the images

    /** An IMAGE is made: its STAGE; NONE without that number. */
    public int image(int k) {
        if (k < 0 || k >= IMAGES) {
            return NONE;
        }
        images[k].takeFrom(now);
        imaged[k] = 1;
        return now.stage;
    }

    /** All is as in an IMAGE: its STAGE; NONE without it. */
    public int back(int k) {
        if (k < 0 || k >= IMAGES || imaged[k] == 0) {
            return NONE;
        }
        now.takeFrom(images[k]);
        history.clear();
        return now.stage;
    }

    // ---- blocks

    private static int blocksOf(int n, int size) {
        return size > 0 ? (n + size - 1) / size : 0;
    }

    // The last block is of what is left.
    private static int lengthOf(int n, int size, int block) {
        return Math.min(size, n - block * size);
    }

    /** The numbers of a plan. */
    private static final class Plan {
        private final int[] numbers = USUAL.clone();

        void clear() {
            System.arraycopy(USUAL, 0, numbers, 0, SETTINGS);
        }

        void takeFrom(Plan other) {
            System.arraycopy(other.numbers, 0, numbers, 0, SETTINGS);
        }

        int number(int k) {
            return k >= 0 && k < SETTINGS ? numbers[k] : NONE;
        }

        void put(int k, int number) {
            if (k >= 0 && k < SETTINGS) {
                numbers[k] = number;
            }
        }
    }

    /** Reads a plan from its text, from the first byte to the last, and stops at the first fault. */
    private static final class PlanReader {
        private static final int WRONG_BYTE = 1;
        private static final int WRONG_NUMBER = 2;
        private static final int TOLD_ALREADY = 3;
        private static final int TEN = 10;
        // More than any number may be: further digits change nothing then.
        private static final int TOO_GREAT = 1000000;

        private final Plan result = new Plan();
        private final int[] told = new int[SETTINGS];
        private int[] text = new int[0];
        private int length = 0;
        private int at = 0;

        /** How many lines; -2 - the fault, if there is one. */
        int read(int[] newText, int newLength) {
            text = newText;
            length = Math.min(newLength, newText.length);
            at = 0;
            result.clear();
            Arrays.fill(told, 0);
            // No word is told twice, so a line more than there are words is always a fault.
            for (int lines = 1; lines <= SETTINGS + 1; lines++) {
                int fault = readLine();
                if (fault != 0) {
                    return -2 - fault;
                }
                skipBlanks();
                if (at >= length) {
                    return lines;
                }
                if (text[at] != ';') {
                    return -2 - faultAt(at, WRONG_BYTE);
                }
                at++;
            }
            return -2 - faultAt(at, WRONG_BYTE);
        }

        /** The fault of the line, 0 if it has none. */
        private int readLine() {
            skipBlanks();
            int begin = at;
            skipBetween('a', 'z');
            int word = wordAlong(begin, at);
            if (word == NONE) {
                return faultAt(begin, WRONG_BYTE);
            }
            if (told[word] != 0) {
                return faultAt(begin, TOLD_ALREADY);
            }
            told[word] = 1;
            skipBlanks();
            begin = at;
            skipBetween('0', '9');
            if (at == begin) {
                return faultAt(begin, WRONG_BYTE);
            }
            int number = numberAlong(begin, at);
            if (number < LEAST[word] || number > MOST[word]) {
                return faultAt(begin, WRONG_NUMBER);
            }
            result.put(word, number);
            return 0;
        }

        private static int faultAt(int place, int kind) {
            return 8 * place + kind;
        }

        private void skipBlanks() {
            skipBetween(' ', ' ');
        }

        private void skipBetween(char low, char high) {
            while (at < length && text[at] >= low && text[at] <= high) {
                at++;
            }
        }

        private int wordAlong(int begin, int end) {
            for (int word = 0; word < SETTINGS; word++) {
                if (isAlong(wordOf(word), begin, end)) {
                    return word;
                }
            }
            return NONE;
        }

        private boolean isAlong(String word, int begin, int end) {
            if (word.length() != end - begin) {
                return false;
            }
            for (int k = 0; k < word.length(); k++) {
                if (text[begin + k] != word.charAt(k)) {
                    return false;
                }
            }
            return true;
        }

        private int numberAlong(int begin, int end) {
            int number = 0;
            for (int k = begin; k < end; k++) {
                number = Math.min(TEN * number + text[k] - '0', TOO_GREAT);
            }
            return number;
        }

        private static String wordOf(int k) {
            switch (k) {
                case SIGNALS: return "signals";
                case SEED: return "seed";
                case NOISE: return "noise";
                case SPY: return "spy";
                case SAMPLE: return "sample";
                case BLOCK: return "block";
                case PASSES: return "passes";
                case HASH: return "hash";
                default: return "safe";
            }
        }
    }

    /** The keys of both parties; known marks the places whose bit the spy has for certain. */
    private static final class Keys {
        private int n = 0;
        private final int[] a = new int[PLACES];
        private final int[] b = new int[PLACES];
        private final int[] known = new int[PLACES];

        void takeFrom(Keys other) {
            n = other.n;
            System.arraycopy(other.a, 0, a, 0, n);
            System.arraycopy(other.b, 0, b, 0, n);
            System.arraycopy(other.known, 0, known, 0, n);
        }

        boolean has(int place) {
            return place >= 0 && place < n;
        }

        void add(int bitOfA, int bitOfB, int isKnown) {
            if (n < PLACES) {
                a[n] = bitOfA;
                b[n] = bitOfB;
                known[n] = isKnown;
                n++;
            }
        }

        /** The bits at a place leave, those behind come one on. */
        void drop(int place) {
            if (!has(place)) {
                return;
            }
            n--;
            System.arraycopy(a, place + 1, a, place, n - place);
            System.arraycopy(b, place + 1, b, place, n - place);
            System.arraycopy(known, place + 1, known, place, n - place);
        }

        boolean isUnlike(int place) {
            return has(place) && a[place] != b[place];
        }

        /** B's bit becomes the other one. */
        void turn(int place) {
            if (has(place)) {
                b[place] ^= 1;
            }
        }

        int unlike() {
            int many = 0;
            for (int place = 0; place < n; place++) {
                many += a[place] ^ b[place];
            }
            return many;
        }

        int knownPlaces() {
            int many = 0;
            for (int place = 0; place < n; place++) {
                many += known[place];
            }
            return many;
        }

        /** The parity of a side's key with a row, of which bit i meets the first place. */
        int parity(int[] side, int[] row, int i) {
            int parity = 0;
            for (int place = 0; place < n && i + place < row.length; place++) {
                parity ^= side[place] & row[i + place];
            }
            return parity;
        }
    }

    /** All parities that were told aloud, each with whose order it is of and its set of places. */
    private static final class Ledger {
        private static final int FIRST_ROOM = 64;

        private int size = 0;
        private int[] parities = new int[FIRST_ROOM];
        private int[] origins = new int[FIRST_ROOM];
        private long[] sets = new long[FIRST_ROOM * WORDS];

        void takeFrom(Ledger other) {
            if (parities.length < other.size) {
                parities = new int[other.parities.length];
                origins = new int[other.parities.length];
                sets = new long[other.parities.length * WORDS];
            }
            size = other.size;
            System.arraycopy(other.parities, 0, parities, 0, size);
            System.arraycopy(other.origins, 0, origins, 0, size);
            System.arraycopy(other.sets, 0, sets, 0, size * WORDS);
        }

        void tell(int parity, int origin, long[] set) {
            if (size >= parities.length) {
                parities = Arrays.copyOf(parities, 2 * size);
                origins = Arrays.copyOf(origins, 2 * size);
                sets = Arrays.copyOf(sets, 2 * size * WORDS);
            }
            parities[size] = parity;
            origins[size] = origin;
            System.arraycopy(set, 0, sets, size * WORDS, WORDS);
            size++;
        }

        boolean has(int k) {
            return k >= 0 && k < size;
        }

        boolean holds(int k, int place) {
            return (sets[k * WORDS + (place >> 6)] >>> (place & 63) & 1L) != 0L;
        }

        int places(int k) {
            int many = 0;
            for (int word = 0; word < WORDS; word++) {
                many += Long.bitCount(sets[k * WORDS + word]);
            }
            return many;
        }

        int least(int k) {
            for (int place = 0; place < PLACES; place++) {
                if (holds(k, place)) {
                    return place;
                }
            }
            return NONE;
        }
    }

    /** The final keys, the row by which they were shortened, and how far they are used up. */
    private static final class Finals {
        private int length = 0;
        private final int[] row = new int[ROW];
        private final int[] a = new int[PLACES];
        private final int[] b = new int[PLACES];
        private int used = 0;
        private int cipher = NONE;
        private int read = NONE;

        void clear() {
            length = 0;
            used = 0;
            cipher = NONE;
            read = NONE;
        }

        void takeFrom(Finals other) {
            length = other.length;
            used = other.used;
            cipher = other.cipher;
            read = other.read;
            if (length > 0) {
                System.arraycopy(other.row, 0, row, 0, ROW);
                System.arraycopy(other.a, 0, a, 0, length);
                System.arraycopy(other.b, 0, b, 0, length);
            }
        }

        int left() {
            return length - used;
        }

        int useByte(int v) {
            cipher = v;
            int other = 0;
            for (int k = 0; k < EIGHT && used < length; k++) {
                int bit = EIGHT - 1 - k;
                cipher ^= a[used] << bit;
                other ^= b[used] << bit;
                used++;
            }
            read = cipher ^ other;
            return cipher;
        }

        boolean areUnlike() {
            for (int i = 0; i < length; i++) {
                if (a[i] != b[i]) {
                    return true;
                }
            }
            return false;
        }
    }

    /** All that acts change; what an image or the history keeps. */
    private static final class State {
        private int stage = 0;
        private int x = 0;
        private int signals = 0;
        private int spied = 0;
        private int errors = 0;
        private int bound = NONE;
        private int done = 0;
        private int winnows = 0;
        private int mended = 0;
        private final int[] marks = new int[PLACES];
        private final int[] orders = new int[PASSES_MOST * PLACES];
        private final Keys keys = new Keys();
        private final Ledger ledger = new Ledger();
        private final Finals finals = new Finals();

        void clear() {
            stage = 0;
            x = 0;
            signals = 0;
            spied = 0;
            errors = 0;
            bound = NONE;
            done = 0;
            winnows = 0;
            mended = 0;
            keys.n = 0;
            ledger.size = 0;
            finals.clear();
        }

        void takeFrom(State other) {
            stage = other.stage;
            x = other.x;
            signals = other.signals;
            spied = other.spied;
            errors = other.errors;
            bound = other.bound;
            done = other.done;
            winnows = other.winnows;
            mended = other.mended;
            System.arraycopy(other.marks, 0, marks, 0, signals);
            System.arraycopy(other.orders, 0, orders, 0, done * PLACES);
            keys.takeFrom(other.keys);
            ledger.takeFrom(other.ledger);
            finals.takeFrom(other.finals);
        }

        int draw(int k) {
            // The machine's wrap-around keeps the low 31 bits right, and these alone stay.
            x = (x * 1103515245 + 12345) & 0x7fffffff;
            return k > 0 ? (x >>> 16) % k : 0;
        }

        void addSignal(int signalMarks) {
            if (signals < PLACES) {
                marks[signals] = signalMarks;
                signals++;
            }
        }

        int mark(int signal, int what) {
            return marks[signal] >> what & 1;
        }

        boolean hasDone(int pass) {
            return pass >= 0 && pass < done;
        }

        int ordered(int pass, int k) {
            return orders[pass * PLACES + k];
        }

        /** The order of a pass: as the places stand in the first, shuffled in the others. */
        void layOrder(int pass) {
            int first = pass * PLACES;
            for (int k = 0; k < keys.n; k++) {
                orders[first + k] = k;
            }
            if (pass == 0) {
                return;
            }
            for (int k = keys.n - 1; k >= 1; k--) {
                int other = draw(k + 1);
                int place = orders[first + k];
                orders[first + k] = orders[first + other];
                orders[first + other] = place;
            }
        }

        int unlikeAlong(int pass, int begin, int length) {
            int many = 0;
            for (int k = begin; k < begin + length; k++) {
                many += keys.isUnlike(ordered(pass, k)) ? 1 : 0;
            }
            return many;
        }
    }

    /** The acts of the keys from end to end, but for the mending. */
    private static final class Acts {
        private static final int HUNDRED = 100;
        private static final int THOUSAND = 1000;
        private static final int BOUND_MOST = 500;
        private static final int BOUND_UNTOLD = 250;

        private final int[] row = new int[ROW];
        private final long[] set = new long[WORDS];

        void drawSignals(State s, Plan plan) {
            s.clear();
            s.x = plan.number(SEED);
            for (int k = 0; k < plan.number(SIGNALS); k++) {
                int marks = drawSignal(s, plan.number(SPY), plan.number(NOISE));
                s.addSignal(marks);
                s.spied += marks >> SPIED & 1;
                if ((marks >> SIFTED & 1) == 1) {
                    s.keys.add(marks >> BIT_A & 1, marks >> BIT_B & 1, marks >> KNOWN & 1);
                }
            }
            s.stage = BEGUN;
        }

        private static int drawSignal(State s, int spy, int noise) {
            int bitOfA = s.draw(2);
            int baseOfA = s.draw(2);
            int bit = bitOfA;
            int base = baseOfA;
            int isSpied = s.draw(HUNDRED) < spy ? 1 : 0;
            if (isSpied == 1) {
                base = s.draw(2);
                if (base != baseOfA) {
                    bit = s.draw(2);
                }
            }
            int isKnown = isSpied == 1 && base == baseOfA ? 1 : 0;
            int baseOfB = s.draw(2);
            int bitOfB = baseOfB == base ? bit : s.draw(2);
            if (s.draw(THOUSAND) < noise) {
                bitOfB ^= 1;
            }
            int isSifted = baseOfA == baseOfB ? 1 : 0;
            return bitOfA << BIT_A | baseOfA << BASE_A | baseOfB << BASE_B | bitOfB << BIT_B
                | isSpied << SPIED | isSifted << SIFTED | isKnown << KNOWN;
        }

        void tellSample(State s, Plan plan) {
            int told = 0;
            for (int k = 0; k < plan.number(SAMPLE) && s.keys.n > 1; k++) {
                int place = s.draw(s.keys.n);
                s.errors += s.keys.isUnlike(place) ? 1 : 0;
                s.keys.drop(place);
                told++;
            }
            s.bound = boundOf(s.errors, told);
            s.stage = SAMPLED;
        }

        private static int boundOf(int errors, int told) {
            if (told <= 0) {
                return BOUND_UNTOLD;
            }
            int above = errors + 1 + rootOf(4 * errors + 4);
            return Math.min(BOUND_MOST, THOUSAND * above / told);
        }

        private static int rootOf(int square) {
            int root = 0;
            for (int k = 1; k <= THOUSAND && k * k <= square; k++) {
                root = k;
            }
            return root;
        }

        void compare(State s, Plan plan) {
            int hash = plan.number(HASH);
            drawRow(s, row, s.keys.n + hash - 1);
            boolean alike = true;
            for (int i = 0; i < hash; i++) {
                int parity = s.keys.parity(s.keys.a, row, i);
                alike = alike && parity == s.keys.parity(s.keys.b, row, i);
                setOfRow(row, i, s.keys.n, set);
                s.ledger.tell(parity, NONE, set);
            }
            s.stage = alike ? CHECKED : GIVEN_UP;
        }

        void drawFinal(State s, Plan plan) {
            int n = s.keys.n;
            int doubted = 2 * s.bound * n / THOUSAND;
            int length = n - s.ledger.size - doubted - plan.number(SAFE);
            if (length < 1) {
                s.stage = GIVEN_UP;
                return;
            }
            drawRow(s, s.finals.row, n + length - 1);
            for (int i = 0; i < length; i++) {
                s.finals.a[i] = s.keys.parity(s.keys.a, s.finals.row, i);
                s.finals.b[i] = s.keys.parity(s.keys.b, s.finals.row, i);
            }
            s.finals.length = length;
            s.stage = SHORTENED;
        }

        private static void drawRow(State s, int[] row, int bits) {
            for (int k = 0; k < bits && k < row.length; k++) {
                row[k] = s.draw(2);
            }
        }

        /** The set of the places that meet a 1 of a row, of which bit i meets the first place. */
        private static void setOfRow(int[] row, int i, int n, long[] set) {
            Arrays.fill(set, 0L);
            for (int place = 0; place < n && i + place < row.length; place++) {
                set[place >> 6] |= (long) row[i + place] << (place & 63);
            }
        }
    }

    /** Mends keys: by passes of blocks with steps back, and by eights. */
    private static final class Mender {
        // Of each pass: in which block a place is, and which blocks have parities that are unlike.
        private final int[] blockOf = new int[PASSES_MOST * PLACES];
        private final int[] odd = new int[PASSES_MOST * BLOCKS];
        private final long[] set = new long[WORDS];
        private int size = 0;
        private int pass = 0;
        private int asked = 0;

        /** The next pass: how many bits are mended. */
        int runPass(State s, int block) {
            if (s.done >= PASSES_MOST) {
                return 0;
            }
            int before = s.mended;
            size = block;
            pass = s.done;
            s.layOrder(pass);
            for (int p = 0; p <= pass; p++) {
                mapBlocks(s, p);
            }
            int n = s.keys.n;
            int blocks = blocksOf(n, size << pass);
            for (int k = 0; k < blocks; k++) {
                asked = k + 1;
                int begin = k * (size << pass);
                boolean unlike = ask(s, pass, begin, lengthOf(n, size << pass, k));
                int next = unlike ? pass * BLOCKS + k : NONE;
                // Each that is mended leaves one unlike bit less, so there are no more than places.
                for (int mends = 0; mends < PLACES && next != NONE; mends++) {
                    halve(s, next / BLOCKS, next % BLOCKS);
                    next = shortestOdd(n);
                }
            }
            s.done++;
            s.stage = MENDED;
            return s.mended - before;
        }

        private void mapBlocks(State s, int p) {
            int length = size << p;
            int blocks = Math.min(BLOCKS, blocksOf(s.keys.n, length));
            for (int k = 0; k < blocks; k++) {
                odd[p * BLOCKS + k] = 0;
                int end = k * length + lengthOf(s.keys.n, length, k);
                for (int i = k * length; i < end; i++) {
                    int place = s.ordered(p, i);
                    blockOf[p * PLACES + place] = k;
                    odd[p * BLOCKS + k] ^= s.keys.isUnlike(place) ? 1 : 0;
                }
            }
        }

        /** A tells the parity of a run of an order: whether B's is unlike. */
        private boolean ask(State s, int p, int begin, int length) {
            int a = 0;
            int b = 0;
            Arrays.fill(set, 0L);
            for (int i = begin; i < begin + length; i++) {
                int place = s.ordered(p, i);
                set[place >> 6] |= 1L << (place & 63);
                a ^= s.keys.a[place];
                b ^= s.keys.b[place];
            }
            s.ledger.tell(a, p, set);
            return a != b;
        }

        /** Finds an unlike bit in a block whose parities are unlike, and mends it. */
        private void halve(State s, int p, int block) {
            int length = lengthOf(s.keys.n, size << p, block);
            int begin = block * (size << p);
            for (int step = 0; step < PLACES && length > 1; step++) {
                int half = length / 2;
                if (ask(s, p, begin, half)) {
                    length = half;
                } else {
                    begin += half;
                    length -= half;
                }
            }
            int place = s.ordered(p, begin);
            s.keys.turn(place);
            s.mended++;
            for (int q = 0; q <= pass; q++) {
                odd[q * BLOCKS + blockOf[q * PLACES + place]] ^= 1;
            }
        }

        /** The shortest block asked so far that is unlike, of these the first; NONE if none is. */
        private int shortestOdd(int n) {
            int found = NONE;
            int shortest = PLACES + 1;
            for (int p = 0; p <= pass; p++) {
                int blocks = p < pass ? blocksOf(n, size << p) : asked;
                for (int k = 0; k < blocks; k++) {
                    int length = lengthOf(n, size << p, k);
                    if (odd[p * BLOCKS + k] != 0 && length < shortest) {
                        found = p * BLOCKS + k;
                        shortest = length;
                    }
                }
            }
            return found;
        }

        /** Each whole eight: how many bits are mended. */
        int winnowEights(State s) {
            int before = s.mended;
            for (int first = 0; first + EIGHT <= s.keys.n; first += EIGHT) {
                if (askEight(s, first, 0)) {
                    int number = 0;
                    for (int bit = 1; bit < EIGHT; bit *= 2) {
                        number += askEight(s, first, bit) ? bit : 0;
                    }
                    s.keys.turn(first + number);
                    s.mended++;
                }
            }
            s.winnows++;
            s.stage = MENDED;
            return s.mended - before;
        }

        /** A tells the parity of those of an eight whose number holds a bit (0: of all). */
        private boolean askEight(State s, int first, int bit) {
            int a = 0;
            int b = 0;
            Arrays.fill(set, 0L);
            for (int number = 0; number < EIGHT; number++) {
                int place = first + number;
                if ((number & bit) == bit && s.keys.has(place)) {
                    set[place >> 6] |= 1L << (place & 63);
                    a ^= s.keys.a[place];
                    b ^= s.keys.b[place];
                }
            }
            s.ledger.tell(a, WINNOWED, set);
            return a != b;
        }
    }

    /** Sets of places, none of which is a sum of others; each stands at its least place. */
    private static final class Span {
        private final long[] rows = new long[PLACES * WORDS];
        private final int[] taken = new int[PLACES];
        private final long[] work = new long[WORDS];
        private int size = 0;

        void clear() {
            Arrays.fill(taken, 0);
            size = 0;
        }

        void addLedger(Ledger ledger) {
            for (int k = 0; k < ledger.size; k++) {
                System.arraycopy(ledger.sets, k * WORDS, work, 0, WORDS);
                addWork();
            }
        }

        void addKnown(Keys keys) {
            for (int place = 0; place < keys.n; place++) {
                if (keys.known[place] == 1) {
                    setPlace(place);
                    addWork();
                }
            }
        }

        void addFinals(Finals finals, int n) {
            for (int i = 0; i < finals.length; i++) {
                Acts.setOfRow(finals.row, i, n, work);
                addWork();
            }
        }

        boolean holdsPlace(int place) {
            setPlace(place);
            return reduceWork() == NONE;
        }

        private void setPlace(int place) {
            Arrays.fill(work, 0L);
            work[place >> 6] = 1L << (place & 63);
        }

        private void addWork() {
            int place = reduceWork();
            if (place != NONE) {
                System.arraycopy(work, 0, rows, place * WORDS, WORDS);
                taken[place] = 1;
                size++;
            }
        }

        /** Takes off what is there already: the least place that stays; NONE if nothing stays. */
        private int reduceWork() {
            for (int word = 0; word < WORDS; word++) {
                for (int step = 0; step < 64 && work[word] != 0L; step++) {
                    // The bits below the lowest 1, counted, are its number.
                    int place = 64 * word + Long.bitCount((work[word] & -work[word]) - 1L);
                    if (taken[place] == 0) {
                        return place;
                    }
                    for (int k = word; k < WORDS; k++) {
                        work[k] ^= rows[place * WORDS + k];
                    }
                }
            }
            return NONE;
        }
    }

    /** The states ahead of the last acts, in a ring. */
    private static final class History {
        private final State[] ring = new State[UNDO_MOST];
        private int next = 0;
        private int kept = 0;

        History() {
            for (int k = 0; k < UNDO_MOST; k++) {
                ring[k] = new State();
            }
        }

        void clear() {
            kept = 0;
        }

        void keep(State s) {
            ring[next].takeFrom(s);
            next = (next + 1) % UNDO_MOST;
            kept = Math.min(kept + 1, UNDO_MOST);
        }

        void giveBack(State s) {
            if (kept > 0) {
                next = (next + UNDO_MOST - 1) % UNDO_MOST;
                kept--;
                s.takeFrom(ring[next]);
            }
        }
    }

    /** Tries things out on a state and a plan of its own. */
    private static final class Trials {
        private static final int NOISE_STEP = 10;

        private final State state = new State();
        private final Plan plan = new Plan();
        private final Acts acts = new Acts();
        private final Mender mender = new Mender();

        /** Passes more, as many as the plan lets, from a state on. */
        void runPasses(State from, Plan by, int more) {
            state.takeFrom(from);
            plan.takeFrom(by);
            passOn(more);
        }

        private void passOn(int more) {
            for (int k = 0; k < more && state.done < plan.number(PASSES); k++) {
                mender.runPass(state, plan.number(BLOCK));
            }
        }

        int roundsTillAlike(State from, Plan by, int what) {
            state.takeFrom(from);
            plan.takeFrom(by);
            for (int k = 0; k <= PASSES_MOST; k++) {
                if (state.keys.unlike() == 0) {
                    return what == 0 ? k : state.ledger.size - from.ledger.size;
                }
                if (state.done >= plan.number(PASSES)) {
                    return NO_SUCH;
                }
                passOn(1);
            }
            return NO_SUCH;
        }

        int bestBlock(State from, Plan by, int what) {
            int best = NO_SUCH;
            int fewest = NO_SUCH;
            plan.takeFrom(by);
            for (int block = LEAST[BLOCK]; block <= MOST[BLOCK]; block++) {
                state.takeFrom(from);
                plan.put(BLOCK, block);
                passOn(PASSES_MOST);
                boolean fewer = best == NO_SUCH || state.ledger.size < fewest;
                if (fewer && state.keys.unlike() == 0) {
                    best = block;
                    fewest = state.ledger.size;
                }
            }
            return what == 0 ? best : fewest;
        }

        int overSeeds(Plan by, int m, int what) {
            int ended = 0;
            int unlike = 0;
            int lengths = 0;
            plan.takeFrom(by);
            for (int k = 0; k < m; k++) {
                runWhole(by.number(SEED) + k);
                if (state.stage == SHORTENED) {
                    ended++;
                    unlike += state.finals.areUnlike() ? 1 : 0;
                    lengths += state.finals.length;
                }
            }
            return what == 0 ? ended : what == 1 ? unlike : lengths;
        }

        int greatestNoise(Plan by, int m) {
            plan.takeFrom(by);
            for (int noise = MOST[NOISE]; noise >= LEAST[NOISE]; noise -= NOISE_STEP) {
                plan.put(NOISE, noise);
                int alike = 0;
                // One that fails decides of this noise.
                for (int k = 0; k < m && alike == k; k++) {
                    runWhole(by.number(SEED) + k);
                    alike += state.stage == SHORTENED && !state.finals.areUnlike() ? 1 : 0;
                }
                if (alike == m) {
                    return noise;
                }
            }
            return NO_SUCH;
        }

        private void runWhole(int seed) {
            plan.put(SEED, seed);
            acts.drawSignals(state, plan);
            acts.tellSample(state, plan);
            // Not by passOn: calls may go eight deep only.
            for (int k = 0; k < PASSES_MOST && state.done < plan.number(PASSES); k++) {
                mender.runPass(state, plan.number(BLOCK));
            }
            acts.compare(state, plan);
            if (state.stage == CHECKED) {
                acts.drawFinal(state, plan);
            }
        }
    }
}
