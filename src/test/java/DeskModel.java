import java.util.ArrayDeque;
import java.util.ArrayList;
import java.util.BitSet;
import java.util.Collections;
import java.util.List;
import java.util.TreeSet;
import java.util.regex.Matcher;
import java.util.regex.Pattern;

/**
 * The document once more, told as plainly as it can be and with no regard to cost: lists and sets
 * that are made anew, states copied whole, blocks looked through from the orders each time.
 */
final class DeskModel {
    static final String[] WORDS =
        {"signals", "seed", "noise", "spy", "sample", "block", "passes", "hash", "safe"};
    static final int[][] RANGES = {{2, 256}, {0, 99999}, {0, 500}, {0, 100}, {0, 128}, {2, 64},
        {1, 6}, {1, 30}, {0, 50}};
    static final int[] USUAL = {64, 1, 30, 0, 8, 8, 4, 16, 10};

    static final class Told {
        int parity;
        int origin;
        TreeSet<Integer> places = new TreeSet<>();
    }

    static final class Desk {
        int stage;
        long x;
        int[][] signals = new int[0][];
        List<Integer> a = new ArrayList<>();
        List<Integer> b = new ArrayList<>();
        List<Integer> from = new ArrayList<>();
        int errors;
        int bound = -1;
        int mended;
        int winnows;
        List<List<Integer>> orders = new ArrayList<>();
        List<Told> ledger = new ArrayList<>();
        List<Integer> finalA = new ArrayList<>();
        List<Integer> finalB = new ArrayList<>();
        List<TreeSet<Integer>> finalSets = new ArrayList<>();
        int used;
        int cipher = -1;
        int read = -1;

        Desk copy() {
            Desk d = new Desk();
            d.stage = stage;
            d.x = x;
            d.signals = signals;
            d.a.addAll(a);
            d.b.addAll(b);
            d.from.addAll(from);
            d.errors = errors;
            d.bound = bound;
            d.mended = mended;
            d.winnows = winnows;
            d.orders.addAll(orders);
            d.ledger.addAll(ledger);
            d.finalA.addAll(finalA);
            d.finalB.addAll(finalB);
            d.finalSets.addAll(finalSets);
            d.used = used;
            d.cipher = cipher;
            d.read = read;
            return d;
        }

        int draw(int k) {
            x = (x * 1103515245L + 12345L) % 2147483648L;
            return (int) (x / 65536L % k);
        }

        int unlike() {
            int many = 0;
            for (int p = 0; p < a.size(); p++) {
                if (!a.get(p).equals(b.get(p))) {
                    many++;
                }
            }
            return many;
        }

        static int parity(List<Integer> key, Iterable<Integer> places) {
            int sum = 0;
            for (int p : places) {
                sum += key.get(p);
            }
            return sum % 2;
        }

        boolean unlikeAt(Iterable<Integer> places) {
            return parity(a, places) != parity(b, places);
        }

        boolean ask(Iterable<Integer> places, int origin) {
            Told t = new Told();
            t.parity = parity(a, places);
            t.origin = origin;
            for (int p : places) {
                t.places.add(p);
            }
            ledger.add(t);
            return unlikeAt(places);
        }

        void mend(int place) {
            b.set(place, 1 - b.get(place));
            mended++;
        }
    }

    int[] settings = USUAL.clone();
    final List<Integer> tape = new ArrayList<>();
    Desk now = new Desk();
    final ArrayDeque<Desk> past = new ArrayDeque<>();
    final Desk[] images = new Desk[2];

    // ---- I

    int feed(int... numbers) {
        if (tape.size() + 20 > 200) {
            return -1;
        }
        for (int number : numbers) {
            for (int shift = 24; shift >= 0; shift -= 8) {
                tape.add(number >> shift & 255);
            }
        }
        return tape.size();
    }

    int end(int n) {
        if (n < 0 || n > tape.size()) {
            return -1;
        }
        while (tape.size() > n) {
            tape.remove(tape.size() - 1);
        }
        return n;
    }

    int plan() {
        StringBuilder text = new StringBuilder();
        for (int b : tape) {
            text.append((char) b);
        }
        tape.clear();
        int[] to = USUAL.clone();
        int answer = parse(text.toString(), to);
        if (answer >= 0) {
            settings = to;
            now = new Desk();
            past.clear();
            images[0] = null;
            images[1] = null;
        }
        return answer;
    }

    private static int wrong(int place, int kind) {
        return -2 - (8 * place + kind);
    }

    /** By tokens: what is at hand is a run of small letters, of digits, or one other byte. */
    static int parse(String text, int[] to) {
        Matcher m = Pattern.compile("[a-z]+|[0-9]+|[^ ]", Pattern.DOTALL).matcher(text);
        List<String> tokens = new ArrayList<>();
        List<Integer> begins = new ArrayList<>();
        while (m.find()) {
            tokens.add(m.group());
            begins.add(m.start());
        }
        tokens.add("");
        begins.add(text.length());
        TreeSet<String> seen = new TreeSet<>();
        int lines = 0;
        for (int t = 0; ; t += 3) {
            int word = List.of(WORDS).indexOf(tokens.get(t));
            if (word < 0) {
                return wrong(begins.get(t), 1);
            }
            if (!seen.add(tokens.get(t))) {
                return wrong(begins.get(t), 3);
            }
            String number = tokens.get(t + 1);
            if (!number.matches("[0-9]+")) {
                return wrong(begins.get(t + 1), 1);
            }
            java.math.BigInteger value = new java.math.BigInteger(number);
            if (value.compareTo(java.math.BigInteger.valueOf(RANGES[word][0])) < 0
                || value.compareTo(java.math.BigInteger.valueOf(RANGES[word][1])) > 0) {
                return wrong(begins.get(t + 1), 2);
            }
            to[word] = value.intValue();
            lines++;
            if (tokens.get(t + 2).isEmpty()) {
                return lines;
            }
            if (!tokens.get(t + 2).equals(";")) {
                return wrong(begins.get(t + 2), 1);
            }
        }
    }

    int setting(int k) {
        return k >= 0 && k <= 8 ? settings[k] : -1;
    }

    // ---- II: each works on a desk by settings, so that trials may use them

    static void doBegin(Desk d, int[] s) {
        Desk fresh = new Desk();
        fresh.x = s[1];
        fresh.signals = new int[s[0]][7];
        for (int i = 0; i < s[0]; i++) {
            int bit = fresh.draw(2);
            int base = fresh.draw(2);
            boolean spied = fresh.draw(100) < s[3];
            int comesBit = bit;
            int comesBase = base;
            if (spied) {
                comesBase = fresh.draw(2);
                if (comesBase != base) {
                    comesBit = fresh.draw(2);
                }
            }
            int baseB = fresh.draw(2);
            int bitB = comesBit;
            if (baseB != comesBase) {
                bitB = fresh.draw(2);
            }
            if (fresh.draw(1000) < s[2]) {
                bitB = 1 - bitB;
            }
            fresh.signals[i] = new int[] {bit, base, baseB, bitB, spied ? 1 : 0,
                base == baseB ? 1 : 0, spied && comesBase == base ? 1 : 0};
            if (base == baseB) {
                fresh.a.add(bit);
                fresh.b.add(bitB);
                fresh.from.add(i);
            }
        }
        fresh.stage = 1;
        assign(d, fresh);
    }

    private static void assign(Desk d, Desk other) {
        d.stage = other.stage;
        d.x = other.x;
        d.signals = other.signals;
        d.a = other.a;
        d.b = other.b;
        d.from = other.from;
        d.errors = other.errors;
        d.bound = other.bound;
        d.mended = other.mended;
        d.winnows = other.winnows;
        d.orders = other.orders;
        d.ledger = other.ledger;
        d.finalA = other.finalA;
        d.finalB = other.finalB;
        d.finalSets = other.finalSets;
        d.used = other.used;
        d.cipher = other.cipher;
        d.read = other.read;
    }

    static void doSample(Desk d, int[] s) {
        int m = 0;
        while (m < s[4] && d.a.size() > 1) {
            int place = d.draw(d.a.size());
            int bitA = d.a.remove(place);
            int bitB = d.b.remove(place);
            d.from.remove(place);
            d.errors += bitA == bitB ? 0 : 1;
            m++;
        }
        int root = (int) Math.floor(Math.sqrt(4 * d.errors + 4));
        d.bound = m == 0 ? 250 : Math.min(500, 1000 * (d.errors + 1 + root) / m);
        d.stage = 2;
    }

    static List<List<Integer>> blocks(List<Integer> order, int size) {
        List<List<Integer>> blocks = new ArrayList<>();
        for (int i = 0; i < order.size(); i += size) {
            blocks.add(order.subList(i, Math.min(order.size(), i + size)));
        }
        return blocks;
    }

    static int doPass(Desk d, int[] s) {
        int before = d.mended;
        int pass = d.orders.size();
        List<Integer> order = new ArrayList<>();
        for (int p = 0; p < d.a.size(); p++) {
            order.add(p);
        }
        if (pass > 0) {
            for (int k = d.a.size() - 1; k >= 1; k--) {
                Collections.swap(order, k, d.draw(k + 1));
            }
        }
        d.orders.add(order);
        List<List<Integer>> asked = new ArrayList<>();
        List<Integer> askedIn = new ArrayList<>();
        for (int p = 0; p < pass; p++) {
            for (List<Integer> block : blocks(d.orders.get(p), s[5] << p)) {
                asked.add(block);
                askedIn.add(p);
            }
        }
        for (List<Integer> block : blocks(order, s[5] << pass)) {
            asked.add(block);
            askedIn.add(pass);
            if (d.ask(block, pass)) {
                doHalve(d, block, pass, asked, askedIn);
            }
        }
        d.stage = 3;
        return d.mended - before;
    }

    /** Halves, mends, and behind that looks for the next: as the document nests them. */
    private static void doHalve(Desk d, List<Integer> block, int pass, List<List<Integer>> asked,
        List<Integer> askedIn) {
        List<Integer> run = block;
        while (run.size() > 1) {
            List<Integer> first = run.subList(0, run.size() / 2);
            run = d.ask(first, pass) ? first : run.subList(run.size() / 2, run.size());
        }
        d.mend(run.get(0));
        int best = -1;
        for (int i = 0; i < asked.size(); i++) {
            if (d.unlikeAt(asked.get(i))
                && (best < 0 || asked.get(i).size() < asked.get(best).size())) {
                best = i;
            }
        }
        if (best >= 0) {
            doHalve(d, asked.get(best), askedIn.get(best), asked, askedIn);
        }
    }

    static int doWinnow(Desk d) {
        int before = d.mended;
        for (int k = 0; 8 * k + 7 < d.a.size(); k++) {
            List<List<Integer>> sets = new ArrayList<>();
            for (int j = 0; j <= 3; j++) {
                sets.add(new ArrayList<>());
                for (int i = 0; i < 8; i++) {
                    if (j == 0 || i / (1 << (j - 1)) % 2 == 1) {
                        sets.get(j).add(8 * k + i);
                    }
                }
            }
            if (d.ask(sets.get(0), -2)) {
                int number = 0;
                for (int j = 1; j <= 3; j++) {
                    if (d.ask(sets.get(j), -2)) {
                        number += (int) Math.pow(2, j - 1);
                    }
                }
                d.mend(8 * k + number);
            }
        }
        d.winnows++;
        d.stage = 3;
        return d.mended - before;
    }

    private static List<Integer> drawRow(Desk d, int bits) {
        List<Integer> row = new ArrayList<>();
        for (int i = 0; i < bits; i++) {
            row.add(d.draw(2));
        }
        return row;
    }

    private static TreeSet<Integer> setOf(Desk d, List<Integer> row, int i) {
        TreeSet<Integer> set = new TreeSet<>();
        for (int k = 0; k < d.a.size(); k++) {
            if (row.get(i + k) == 1) {
                set.add(k);
            }
        }
        return set;
    }

    static void doCheck(Desk d, int[] s) {
        List<Integer> row = drawRow(d, d.a.size() + s[7] - 1);
        int unlike = 0;
        for (int i = 0; i < s[7]; i++) {
            unlike += d.ask(setOf(d, row, i), -1) ? 1 : 0;
        }
        d.stage = unlike == 0 ? 4 : 6;
    }

    static int doShorten(Desk d, int[] s) {
        int n = d.a.size();
        int length = n - d.ledger.size() - 2 * d.bound * n / 1000 - s[8];
        if (length < 1) {
            d.stage = 6;
            return 0;
        }
        List<Integer> row = drawRow(d, n + length - 1);
        for (int i = 0; i < length; i++) {
            TreeSet<Integer> set = setOf(d, row, i);
            d.finalSets.add(set);
            d.finalA.add(Desk.parity(d.a, set));
            d.finalB.add(Desk.parity(d.b, set));
        }
        d.stage = 5;
        return length;
    }

    static void doAll(Desk d, int[] s) {
        doBegin(d, s);
        doSample(d, s);
        for (int p = 0; p < s[6]; p++) {
            doPass(d, s);
        }
        doCheck(d, s);
        if (d.stage == 4) {
            doShorten(d, s);
        }
    }

    // ---- the acts

    private void keep() {
        past.addLast(now.copy());
        if (past.size() > 12) {
            past.removeFirst();
        }
    }

    int begin() {
        keep();
        doBegin(now, settings);
        return now.a.size();
    }

    int sample() {
        if (now.stage != 1) {
            return -1;
        }
        keep();
        doSample(now, settings);
        return now.errors;
    }

    private boolean mending() {
        return now.stage == 2 || now.stage == 3;
    }

    int pass() {
        if (!mending() || now.orders.size() >= settings[6]) {
            return -1;
        }
        keep();
        return doPass(now, settings);
    }

    int check() {
        if (!mending()) {
            return -1;
        }
        keep();
        doCheck(now, settings);
        return now.stage == 4 ? 1 : 0;
    }

    int winnow() {
        if (!mending() || now.winnows >= 8) {
            return -1;
        }
        keep();
        return doWinnow(now);
    }

    int shorten() {
        if (now.stage != 4) {
            return -1;
        }
        keep();
        return doShorten(now, settings);
    }

    int send(int v) {
        if (v < 0 || v > 255 || now.stage != 5 || now.used + 8 > now.finalA.size()) {
            return -1;
        }
        keep();
        int bitsA = 0;
        int bitsB = 0;
        for (int k = 0; k < 8; k++) {
            bitsA = 2 * bitsA + now.finalA.get(now.used);
            bitsB = 2 * bitsB + now.finalB.get(now.used);
            now.used++;
        }
        now.cipher = v ^ bitsA;
        now.read = now.cipher ^ bitsB;
        return now.cipher;
    }

    int slip(int place) {
        if (now.stage < 1 || now.stage > 3 || place < 0 || place >= now.a.size()) {
            return -1;
        }
        keep();
        now.b.set(place, 1 - now.b.get(place));
        return now.unlike();
    }

    int undo() {
        if (past.isEmpty()) {
            return -1;
        }
        now = past.removeLast();
        return past.size();
    }

    // ---- what stands

    int signal(int signal, int what) {
        if (now.stage == 0 || signal < 0 || signal >= now.signals.length || what < 0 || what > 5) {
            return -1;
        }
        return now.signals[signal][what];
    }

    int key(int side, int place) {
        if (side < 0 || side > 1 || place < 0 || place >= now.a.size()) {
            return -1;
        }
        return (side == 0 ? now.a : now.b).get(place);
    }

    int order(int pass, int k) {
        if (pass < 0 || pass >= now.orders.size() || k < 0 || k >= now.a.size()) {
            return -1;
        }
        return now.orders.get(pass).get(k);
    }

    int ledger(int k, int what) {
        if (k < 0 || k >= now.ledger.size() || what < 0 || what > 3) {
            return -1;
        }
        Told t = now.ledger.get(k);
        int least = t.places.isEmpty() ? -1 : t.places.first();
        return new int[] {t.parity, t.places.size(), t.origin, least}[what];
    }

    int isIn(int k, int place) {
        if (k < 0 || k >= now.ledger.size() || place < 0 || place >= now.a.size()) {
            return -1;
        }
        return now.ledger.get(k).places.contains(place) ? 1 : 0;
    }

    int last(int side, int i) {
        if (side < 0 || side > 1 || i < 0 || i >= now.finalA.size()) {
            return -1;
        }
        return (side == 0 ? now.finalA : now.finalB).get(i);
    }

    int block(int pass, int k, int what) {
        if (pass < 0 || pass >= now.orders.size() || k < 0 || what < 0 || what > 2) {
            return -1;
        }
        List<List<Integer>> blocks = blocks(now.orders.get(pass), settings[5] << pass);
        if (k >= blocks.size()) {
            return -1;
        }
        int begin = 0;
        for (int i = 0; i < k; i++) {
            begin += blocks.get(i).size();
        }
        int unlike = 0;
        for (int place : blocks.get(k)) {
            unlike += now.a.get(place).equals(now.b.get(place)) ? 0 : 1;
        }
        return new int[] {begin, blocks.get(k).size(), unlike}[what];
    }

    int count(int what) {
        int spied = 0;
        for (int[] signal : now.signals) {
            spied += signal[4];
        }
        int[] all = {now.stage, now.a.size(), now.unlike(), now.orders.size(), now.ledger.size(),
            now.errors, now.bound, now.stage == 5 ? now.finalA.size() : 0, now.mended, spied,
            (int) now.x, past.size(), tape.size(), now.signals.length, now.used, now.cipher,
            now.read};
        return what >= 0 && what < all.length ? all[what] : -1;
    }

    // ---- III

    /** The rows left by elimination from the highest place down, each cleared from all others. */
    private static List<BitSet> reduced(List<TreeSet<Integer>> sets) {
        List<BitSet> rows = new ArrayList<>();
        for (TreeSet<Integer> set : sets) {
            BitSet row = new BitSet();
            set.forEach(row::set);
            for (BitSet other : rows) {
                if (row.get(other.length() - 1)) {
                    row.xor(other);
                }
            }
            if (!row.isEmpty()) {
                for (BitSet other : rows) {
                    if (other.get(row.length() - 1)) {
                        other.xor(row);
                    }
                }
                rows.add(row);
            }
        }
        return rows;
    }

    private List<TreeSet<Integer>> ledgerSets() {
        List<TreeSet<Integer>> sets = new ArrayList<>();
        for (Told t : now.ledger) {
            sets.add(t.places);
        }
        return sets;
    }

    int rank() {
        return reduced(ledgerSets()).size();
    }

    int fixed(int place) {
        if (place < -1 || place >= now.a.size()) {
            return -1;
        }
        int many = 0;
        for (BitSet row : reduced(ledgerSets())) {
            if (row.cardinality() == 1 && (place == -1 || row.get(place))) {
                many++;
            }
        }
        return many;
    }

    int spied(int place) {
        if (place < -1 || place >= now.a.size()) {
            return -1;
        }
        int many = 0;
        for (int p = 0; p < now.a.size(); p++) {
            if (place == -1 || place == p) {
                many += now.signals[now.from.get(p)][6];
            }
        }
        return many;
    }

    int secret(boolean fromSpy) {
        if (now.stage != 5) {
            return -1;
        }
        List<TreeSet<Integer>> sets = ledgerSets();
        for (int p = 0; fromSpy && p < now.a.size(); p++) {
            if (now.signals[now.from.get(p)][6] == 1) {
                TreeSet<Integer> alone = new TreeSet<>();
                alone.add(p);
                sets.add(alone);
            }
        }
        int without = reduced(sets).size();
        sets.addAll(now.finalSets);
        return reduced(sets).size() - without;
    }

    int would(int k, int what) {
        if (!mending() || k < 0 || k > 6 || what < 0 || what > 1) {
            return -1;
        }
        Desk d = now.copy();
        for (int i = 0; i < k && d.orders.size() < settings[6]; i++) {
            doPass(d, settings);
        }
        return what == 0 ? d.unlike() : d.ledger.size();
    }

    int rounds(int what) {
        if (!mending() || what < 0 || what > 1) {
            return -1;
        }
        for (int k = 0; now.orders.size() + k <= settings[6]; k++) {
            if (would(k, 0) == 0) {
                return what == 0 ? k : would(k, 1) - now.ledger.size();
            }
        }
        return -2;
    }

    int best(int what) {
        if (now.stage != 2 || what < 0 || what > 1) {
            return -1;
        }
        int best = -2;
        int told = -2;
        for (int block = 64; block >= 2; block--) {
            int[] s = settings.clone();
            s[5] = block;
            Desk d = now.copy();
            for (int p = 0; p < s[6]; p++) {
                doPass(d, s);
            }
            if (d.unlike() == 0 && (best == -2 || d.ledger.size() <= told)) {
                best = block;
                told = d.ledger.size();
            }
        }
        return what == 0 ? best : told;
    }

    int seeds(int m, int what) {
        if (m < 1 || m > 20 || what < 0 || what > 2) {
            return -1;
        }
        int[] sums = new int[3];
        for (int i = 0; i < m; i++) {
            int[] s = settings.clone();
            s[1] += i;
            Desk d = new Desk();
            doAll(d, s);
            if (d.stage == 5) {
                sums[0]++;
                sums[1] += d.finalA.equals(d.finalB) ? 0 : 1;
                sums[2] += d.finalA.size();
            }
        }
        return sums[what];
    }

    int noise(int m) {
        if (m < 1 || m > 20) {
            return -1;
        }
        int greatest = -2;
        for (int noise = 0; noise <= 500; noise += 10) {
            boolean all = true;
            for (int i = 0; i < m && all; i++) {
                int[] s = settings.clone();
                s[1] += i;
                s[2] = noise;
                Desk d = new Desk();
                doAll(d, s);
                all = d.stage == 5 && d.finalA.equals(d.finalB);
            }
            if (all) {
                greatest = noise;
            }
        }
        return greatest;
    }

    int image(int k) {
        if (k < 0 || k > 1) {
            return -1;
        }
        images[k] = now.copy();
        return now.stage;
    }

    int back(int k) {
        if (k < 0 || k > 1 || images[k] == null) {
            return -1;
        }
        now = images[k].copy();
        past.clear();
        return now.stage;
    }
}
