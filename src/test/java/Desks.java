import java.util.ArrayList;
import java.util.HashMap;
import java.util.List;
import java.util.Map;
import java.util.Objects;

/** What tests share: desks that were told a plan, what can be seen of them, draws of their own. */
class Desks {
    static final int NONE = KeyDesk.NONE;

    private static final Map<Integer, Integer> SEEDS = new HashMap<>();

    static int wrong = 0;

    static void due(String what, Object got, Object due) {
        if (!Objects.equals(got, due)) {
            wrong++;
            System.out.println(what + " answered " + got + ", due is " + due);
        }
    }

    static void feed(KeyDesk d, String text) {
        int had = d.count(12);
        for (int i = 0; i < text.length(); i += 20) {
            int[] n = new int[5];
            for (int k = 0; k < 20; k++) {
                int b = i + k < text.length() ? text.charAt(i + k) : 0;
                n[k / 4] = n[k / 4] << 8 | b;
            }
            d.feed(n[0], n[1], n[2], n[3], n[4]);
        }
        d.end(had + text.length());
    }

    static int planOf(String text) {
        KeyDesk d = new KeyDesk();
        feed(d, text);
        return d.plan();
    }

    /** What plan() answers of a fault. */
    static int fault(int place, int kind) {
        return -2 - (8 * place + kind);
    }

    static KeyDesk desk(String text) {
        KeyDesk d = new KeyDesk();
        feed(d, text);
        if (d.plan() < 1) {
            due("the plan " + text, "a fault", "none");
        }
        return d;
    }

    static KeyDesk begun(String text) {
        KeyDesk d = desk(text);
        d.begin();
        return d;
    }

    static KeyDesk sampled(String text) {
        KeyDesk d = begun(text);
        d.sample();
        return d;
    }

    static KeyDesk shortened(String text) {
        KeyDesk d = sampled(text);
        for (int k = 0; k < 6; k++) {
            d.pass();
        }
        d.check();
        d.shorten();
        return d;
    }

    /** The first seed from one on by which as many places are sifted, of twice as many signals. */
    static int seedWith(int n, int from) {
        KeyDesk d = new KeyDesk();
        for (int seed = from; seed < from + 2000; seed++) {
            feed(d, "signals " + signalsFor(n) + ";noise 0;seed " + seed);
            d.plan();
            if (d.begin() == n) {
                return seed;
            }
        }
        due("a seed for " + n + " places", "none", "some");
        return 0;
    }

    static int signalsFor(int n) {
        return Math.max(2, Math.min(256, 2 * n));
    }

    /** A plan by which n places are sifted, alike as long as no spy is told; no noise. */
    static String planWith(int n, String rest) {
        if (!SEEDS.containsKey(n)) {
            SEEDS.put(n, seedWith(n, 0));
        }
        return planWith(n, SEEDS.get(n), rest);
    }

    static String planWith(int n, int seed, String rest) {
        return "signals " + signalsFor(n) + ";seed " + seed + ";noise 0;" + rest;
    }

    static String counts(KeyDesk d) {
        StringBuilder s = new StringBuilder();
        for (int what = 0; what <= 16; what++) {
            s.append(d.count(what)).append(' ');
        }
        return s.toString().trim();
    }

    static String told(KeyDesk d, int k) {
        return d.ledger(k, 0) + " " + asked(d, k);
    }

    /** Of the k-th in the ledger how many places it is of, the pass, the least place. */
    static String asked(KeyDesk d, int k) {
        return d.ledger(k, 1) + " " + d.ledger(k, 2) + " " + d.ledger(k, 3);
    }

    static String keyOf(KeyDesk d, int side) {
        StringBuilder s = new StringBuilder();
        for (int place = 0; place < d.count(1); place++) {
            s.append(d.key(side, place));
        }
        return s.toString();
    }

    /** What can be seen of a desk but for what undo, back and the tape hold. */
    static String lasting(KeyDesk d) {
        StringBuilder s = new StringBuilder();
        for (int what = 0; what <= 16; what++) {
            s.append(what == 11 || what == 12 ? 0 : d.count(what)).append(' ');
        }
        s.append(keyOf(d, 0)).append(' ').append(keyOf(d, 1)).append(' ');
        for (int place = 0; place < d.count(1); place++) {
            s.append(d.spied(place));
        }
        for (int pass = 0; pass < d.count(3); pass++) {
            for (int k = 0; k < d.count(1); k++) {
                s.append(' ').append(d.order(pass, k));
            }
        }
        for (int k = 0; k < d.count(4); k++) {
            s.append(", ").append(told(d, k));
        }
        for (int i = 0; i < d.count(7); i++) {
            s.append(d.last(0, i)).append(d.last(1, i));
        }
        return s.toString();
    }

    static String seen(KeyDesk d) {
        StringBuilder s = new StringBuilder(lasting(d));
        for (int k = 0; k < 9; k++) {
            s.append(' ').append(d.setting(k));
        }
        return s.append(' ').append(d.count(11)).append(' ').append(d.count(12)).toString();
    }

    static boolean alikeAtLast(KeyDesk d) {
        for (int i = 0; i < d.count(7); i++) {
            if (d.last(0, i) != d.last(1, i)) {
                return false;
            }
        }
        return true;
    }

    /** The generator once more, by long arithmetic. */
    static final class Draws {
        long x;

        Draws(long x) {
            this.x = x;
        }

        int of(int k) {
            x = (x * 1103515245L + 12345L) % 2147483648L;
            return (int) (x / 65536L % k);
        }

        int[] row(int bits) {
            int[] row = new int[bits];
            for (int k = 0; k < bits; k++) {
                row[k] = of(2);
            }
            return row;
        }

        int[] shuffled(int n) {
            int[] places = new int[n];
            for (int k = 0; k < n; k++) {
                places[k] = k;
            }
            for (int k = n - 1; k >= 1; k--) {
                int other = of(k + 1);
                int place = places[k];
                places[k] = places[other];
                places[other] = place;
            }
            return places;
        }

        /** Which of n places leave in a sample, told as they stood ahead of it. */
        List<Integer> leaving(int n, int times) {
            List<Integer> there = new ArrayList<>();
            for (int place = 0; place < n; place++) {
                there.add(place);
            }
            List<Integer> gone = new ArrayList<>();
            for (int k = 0; k < times && there.size() > 1; k++) {
                gone.add(there.remove(of(there.size())));
            }
            return gone;
        }

        /** A signal: what signal(.., 0 to 5) are, and whether E knows its bit. */
        int[] signal(int noise, int spy) {
            int bit = of(2);
            int base = of(2);
            int spied = of(100) < spy ? 1 : 0;
            int comes = bit;
            int in = base;
            if (spied == 1) {
                in = of(2);
                comes = in == base ? bit : of(2);
            }
            int baseOfB = of(2);
            int bitOfB = baseOfB == in ? comes : of(2);
            bitOfB = of(1000) < noise ? 1 - bitOfB : bitOfB;
            int knows = spied == 1 && in == base ? 1 : 0;
            return new int[] {bit, base, baseOfB, bitOfB, spied, base == baseOfB ? 1 : 0, knows};
        }
    }

    static Draws drawsOf(KeyDesk d) {
        return new Draws(d.count(10));
    }
}
