import java.util.ArrayList;
import java.util.List;

/** The sentences of part II and of promises 6 to 9, 11, 13 to 16, 31 and 32: the acts but for the mending. */
public final class ActsEdgesTest extends Desks {
    private static final int LEAST_INT = Integer.MIN_VALUE;
    private static final int MOST_INT = Integer.MAX_VALUE;
    /** 40 places; without a pass 19 final bits, with one 18. */
    private static final String FORTY = "sample 0;block 64;passes 2;hash 1;safe 0";

    /** A desk at a stage, by a plan that comes to 5; to 6 by a key that is given up. */
    private static KeyDesk at(int stage) {
        if (stage == 6) {
            KeyDesk d = sampled(planWith(40, "sample 0;hash 1;safe 50"));
            d.check();
            due("given up", d.shorten(), 0);
            return d;
        }
        KeyDesk d = desk(planWith(40, FORTY));
        if (stage >= 1) {
            d.begin();
        }
        if (stage >= 2) {
            d.sample();
        }
        if (stage == 3) {
            d.pass();
        }
        if (stage >= 4) {
            d.check();
        }
        if (stage >= 5) {
            d.shorten();
        }
        due("stage", d.count(0), stage);
        return d;
    }

    private static int act(KeyDesk d, String name) {
        switch (name) {
            case "begin": return d.begin();
            case "sample": return d.sample();
            case "pass": return d.pass();
            case "check": return d.check();
            case "shorten": return d.shorten();
            case "winnow": return d.winnow();
            case "send": return d.send(77);
            default: return d.slip(3);
        }
    }

    /** An act happens at these stages, and at the others it answers NONE and leaves all as it is. */
    private static void onlyAt(String name, int... stages) {
        for (int stage = 0; stage <= 6; stage++) {
            boolean isOne = false;
            for (int k : stages) {
                isOne = isOne || k == stage;
            }
            KeyDesk d = at(stage);
            d.image(1);
            String before = seen(d);
            int answer = act(d, name);
            due(name + " at stage " + stage + " is refused", answer == NONE, !isOne);
            due(name + " at stage " + stage + " changes nothing", seen(d).equals(before), !isOne);
        }
    }

    // ---- draws and begin: promise 6

    @Sentence(promise = 6, words = "DRAWS: x becomes x * 1103515245 + 12345, of 2147483648 the rest; a DRAW of k is"
        + " x / 65536, of k the rest.")
    static void p06_draws() {
        int[] seeds = {0, 1, 2, 65535, 65536, 99999};
        for (int seed : seeds) {
            KeyDesk d = desk("signals 40;noise 100;spy 30;seed " + seed);
            Draws draws = new Draws(seed);
            d.begin();
            for (int k = 0; k < 40; k++) {
                due("bit of signal " + k + " by seed " + seed, d.signal(k, 0), draws.signal(100, 30)[0]);
            }
            due("x by seed " + seed, d.count(10), (int) draws.x);
            due("x is 0 to 2147483647", d.count(10) >= 0, true);
        }
    }

    @Sentence(promise = 6, words = "STAGE 0: nothing has begun.")
    static void p06_stage0() {
        KeyDesk d = desk("seed 3");
        due("stage", d.count(0), 0);
        due("n", d.count(1), 0);
        due("x", d.count(10), 0);
        due("signals", d.count(13), 0);
    }

    @Sentence(promise = 6, words = "BEGIN: x is the seed; one SIGNAL behind the other:")
    static void p06_xIsTheSeed() {
        KeyDesk d = desk("signals 2;seed 5;noise 0");
        Draws draws = new Draws(5);
        draws.signal(0, 0);
        draws.signal(0, 0);
        d.begin();
        due("behind two signals", d.count(10), (int) draws.x);
        d.begin();
        due("anew, from the seed on", d.count(10), (int) draws.x);
        KeyDesk zero = desk("signals 2;seed 0;noise 0");
        Draws fromZero = new Draws(0);
        int[] first = fromZero.signal(0, 0);
        zero.begin();
        due("by seed 0", zero.signal(0, 0), first[0]);
    }

    @Sentence(promise = 7, words = "a DRAW of 2: the BIT of A; a DRAW of 2: A's BASE;")
    static void p07_bitThenBase() {
        for (int seed = 0; seed < 8; seed++) {
            KeyDesk d = begun("signals 2;seed " + seed);
            Draws draws = new Draws(seed);
            due("the BIT of A, seed " + seed, d.signal(0, 0), draws.of(2));
            due("A's BASE, seed " + seed, d.signal(0, 1), draws.of(2));
        }
    }

    /** The draw of 100 of the first signal by a seed. */
    private static int spyDraw(int seed) {
        Draws draws = new Draws(seed);
        draws.of(2);
        draws.of(2);
        return draws.of(100);
    }

    @Sentence(promise = 7, words = "a DRAW of 100: below spy it is SPIED:")
    static void p07_belowSpy() {
        for (int seed = 0; seed < 12; seed++) {
            int drawn = spyDraw(seed);
            due("as much is not below", begun("signals 2;seed " + seed + ";spy " + drawn).signal(0, 4), 0);
            due("one more", begun("signals 2;seed " + seed + ";spy " + (drawn + 1)).signal(0, 4), 1);
        }
        due("spy 0: none", begun("signals 256;seed 9;spy 0").count(9), 0);
        due("spy 100: all", begun("signals 256;seed 9;spy 100").count(9), 256);
    }

    @Sentence(promise = 7, words = "a DRAW of 2: E's BASE; is it unlike A's, a DRAW of 2: what comes on is this BIT, in"
        + " E's BASE;")
    static void p07_whatComesOn() {
        KeyDesk d = begun("signals 100;seed 4;noise 0;spy 100");
        Draws draws = new Draws(4);
        int[] seen = new int[3];
        for (int k = 0; k < 100; k++) {
            int[] signal = draws.signal(0, 100);
            due("B's BIT of signal " + k, d.signal(k, 3), signal[3]);
            due("B's BASE of signal " + k, d.signal(k, 2), signal[2]);
            if (signal[6] == 1 && signal[5] == 1) {
                seen[0]++;
                due("E and B in A's BASE: as A sent it", d.signal(k, 3), d.signal(k, 0));
            } else if (signal[5] == 1) {
                seen[d.signal(k, 3) == d.signal(k, 0) ? 1 : 2]++;
            }
        }
        due("with E in A's BASE", seen[0] > 10, true);
        due("with E in the other one both come", seen[1] > 3 && seen[2] > 3, true);
        due("x", d.count(10), (int) draws.x);
    }

    @Sentence(promise = 7, words = "then a DRAW of 2: B's BASE; is it unlike the BASE in which the BIT comes, a DRAW of 2:"
        + " B's BIT; else it is the BIT that comes;")
    static void p07_bitOfB() {
        KeyDesk d = begun("signals 100;seed 6;noise 0;spy 0");
        Draws draws = new Draws(6);
        int other = 0;
        for (int k = 0; k < 100; k++) {
            int[] signal = draws.signal(0, 0);
            due("B's BASE", d.signal(k, 2), signal[2]);
            due("B's BIT", d.signal(k, 3), signal[3]);
            if (d.signal(k, 1) == d.signal(k, 2)) {
                due("in the same BASE", d.signal(k, 3), d.signal(k, 0));
            } else {
                other += d.signal(k, 3) != d.signal(k, 0) ? 1 : 0;
            }
        }
        due("in another it is drawn", other > 10 && other < 40, true);
    }

    @Sentence(promise = 7, words = "then a DRAW of 1000: below noise B's BIT is the other one.")
    static void p07_belowNoise() {
        int tried = 0;
        for (int seed = 0; seed < 40; seed++) {
            Draws draws = new Draws(seed);
            int right = draws.signal(0, 0)[3];
            // The last draw of the signal is x as it is now, without a further step.
            int drawn = (int) (draws.x / 65536 % 1000);
            if (drawn < 500) {
                tried++;
                due("as much is not below", begun("signals 2;spy 0;seed " + seed + ";noise " + drawn).signal(0, 3), right);
                due("one more", begun("signals 2;spy 0;seed " + seed + ";noise " + (drawn + 1)).signal(0, 3), 1 - right);
            }
        }
        due("some were tried", tried > 5, true);
        KeyDesk d = begun("signals 256;seed 3;noise 0");
        due("noise 0: none", d.count(2), 0);
        int unlike = begun("signals 256;seed 3;noise 500").count(2);
        due("noise 500: half of them", unlike > 40 && unlike < 90, true);
    }

    @Sentence(promise = 8, words = "SIFTED are SIGNALS with the BASES of A and B alike; their BITS, in their order, are the"
        + " KEYS of A and of B, n PLACES each. (STAGE 1.)")
    static void p08_sifted() {
        KeyDesk d = desk("signals 80;seed 11;noise 200;spy 30");
        int n = d.begin();
        int place = 0;
        for (int k = 0; k < 80; k++) {
            boolean alike = d.signal(k, 1) == d.signal(k, 2);
            due("SIFTED " + k, d.signal(k, 5), alike ? 1 : 0);
            if (alike) {
                due("A's at place " + place, d.key(0, place), d.signal(k, 0));
                due("B's at place " + place, d.key(1, place), d.signal(k, 3));
                place++;
            }
        }
        due("n", n, place);
        due("stage", d.count(0), 1);
    }

    @Sentence(promise = 8, words = "n PLACES each. (STAGE 1.)")
    static void p08_noPlaceAndAll() {
        KeyDesk none = desk(planWith(0, "spy 0"));
        due("no place", none.begin(), 0);
        due("no bit of A", none.key(0, 0), NONE);
        due("no bit of B", none.key(1, 0), NONE);
        due("stage 1 all the same", none.count(0), 1);
        KeyDesk all = desk("signals 2;noise 0;seed " + seedWithBoth());
        due("both", all.begin(), 2);
        due("none behind them", all.key(0, 2), NONE);
    }

    private static int seedWithBoth() {
        for (int seed = 0; seed < 100; seed++) {
            if (begun("signals 2;seed " + seed).count(1) == 2) {
                return seed;
            }
        }
        return 0;
    }

    @Sentence(promise = 6, words = "BEGIN: n.")
    static void p06_answersN() {
        KeyDesk d = desk(planWith(33, FORTY));
        due("n", d.begin(), 33);
        due("count 1", d.count(1), 33);
        d.sample();
        due("the same again", d.begin(), 33);
    }

    @Sentence(promise = 6, words = "ACTS: BEGIN (at whatever STAGE, all anew),")
    static void p06_atWhateverStage() {
        String fresh = lasting(at(1));
        for (int stage = 0; stage <= 5; stage++) {
            KeyDesk d = at(stage);
            if (stage == 5) {
                d.send(8);
            }
            if (stage == 2) {
                d.slip(4);
                d.winnow();
            }
            due("n at stage " + stage, d.begin(), 40);
            due("all anew at stage " + stage, lasting(d), fresh);
        }
        KeyDesk givenUp = at(6);
        due("n at stage 6", givenUp.begin(), 40);
        due("stage", givenUp.count(0), 1);
    }

    // ---- promises 7 and 8

    @Sentence(promise = 7, words = "Of a SIGNAL what 0: A's BIT, 1: A's BASE, 2: B's BASE, 3: B's BIT, 4: 1 if it is SPIED,"
        + " else 0, 5: 1 if it is SIFTED, else 0.")
    static void p07_what() {
        KeyDesk d = begun("signals 60;seed 12;noise 150;spy 50");
        Draws draws = new Draws(12);
        for (int k = 0; k < 60; k++) {
            int[] signal = draws.signal(150, 50);
            for (int what = 0; what <= 5; what++) {
                due("signal " + k + ", what " + what, d.signal(k, what), signal[what]);
            }
        }
    }

    @Sentence(promise = 7, words = "NONE without these, or at STAGE 0.")
    static void p07_noneWithoutThese() {
        int[] none = {-1, 60, 61, 256, LEAST_INT, MOST_INT};
        int[] noWhat = {-1, 6, 7, LEAST_INT, MOST_INT};
        KeyDesk d = begun("signals 60;seed 12");
        due("the last one", d.signal(59, 0) >= 0, true);
        for (int k : none) {
            due("signal " + k, d.signal(k, 0), NONE);
        }
        for (int what : noWhat) {
            due("what " + what, d.signal(0, what), NONE);
        }
    }

    @Sentence(promise = 7, words = "or at STAGE 0.")
    static void p07_atStage0() {
        KeyDesk d = desk("signals 60;seed 12");
        due("not begun", d.signal(0, 0), NONE);
        d.begin();
        due("begun", d.signal(0, 0) >= 0, true);
        d.undo();
        due("undone", d.signal(0, 0), NONE);
        d.begin();
        feed(d, "seed 3");
        d.plan();
        due("another plan", d.signal(0, 0), NONE);
        KeyDesk late = at(6);
        due("at stage 6 there are signals", late.signal(79, 5) >= 0, true);
    }

    @Sentence(promise = 8, words = "The BIT of A's KEY (side 0), of B's (1) at a PLACE;")
    static void p08_sides() {
        KeyDesk d = begun(planWith(10, "spy 0"));
        int was = d.key(0, 9);
        d.slip(9);
        due("A's stays", d.key(0, 9), was);
        due("B's is the other one", d.key(1, 9), 1 - was);
    }

    @Sentence(promise = 8, words = "NONE without these.")
    static void p08_noneWithoutThese() {
        KeyDesk d = begun(planWith(10, "spy 0"));
        int[] places = {-1, 10, 11, 256, LEAST_INT, MOST_INT};
        for (int place : places) {
            due("A's at " + place, d.key(0, place), NONE);
            due("B's at " + place, d.key(1, place), NONE);
        }
        int[] sides = {-1, 2, LEAST_INT, MOST_INT};
        for (int side : sides) {
            due("side " + side, d.key(side, 0), NONE);
        }
        due("at stage 0", desk("seed 1").key(0, 0), NONE);
        d.sample();
        due("what a sample took", d.key(0, d.count(1)), NONE);
    }

    // ---- promise 9

    @Sentence(promise = 9, words = "SAMPLE: ERRORS;")
    static void p09_answersErrors() {
        KeyDesk d = begun("signals 256;seed 8;noise 200;sample 50");
        List<Integer> gone = drawsOf(d).leaving(d.count(1), 50);
        int errors = 0;
        for (int place : gone) {
            errors += d.key(0, place) ^ d.key(1, place);
        }
        due("some are unlike", errors > 2, true);
        due("errors", d.sample(), errors);
        due("count 5", d.count(5), errors);
    }

    @Sentence(promise = 9, words = "SAMPLE: sample times, as long as n is above 1: a DRAW of n:")
    static void p09_sampleTimes() {
        int[][] due = {{10, 3, 7}, {10, 9, 1}, {10, 10, 1}, {10, 128, 1}, {2, 1, 1}, {2, 2, 1}, {10, 0, 10},
            {10, 8, 2}, {129, 128, 1}, {128, 128, 1}, {130, 128, 2}};
        for (int[] one : due) {
            KeyDesk d = begun(planWith(one[0], "sample " + one[1]));
            Draws draws = drawsOf(d);
            draws.leaving(one[0], one[1]);
            d.sample();
            due("n of " + one[0] + " behind " + one[1], d.count(1), one[2]);
            due("x of " + one[0] + " behind " + one[1], d.count(10), (int) draws.x);
        }
    }

    @Sentence(promise = 9, words = "as long as n is above 1:")
    static void p09_notAboveOne() {
        for (int n = 0; n <= 1; n++) {
            KeyDesk d = begun(planWith(n, "sample 5"));
            int x = d.count(10);
            due("errors of " + n, d.sample(), 0);
            due("n of " + n, d.count(1), n);
            due("nothing is drawn of " + n, d.count(10), x);
            due("nothing is told of " + n, d.count(6), 250);
            due("stage of " + n, d.count(0), 2);
        }
    }

    @Sentence(promise = 9, words = "the BITS at that PLACE are told aloud, and leave the KEYS (those behind come one on).")
    static void p09_thoseBehindComeOneOn() {
        KeyDesk d = begun(planWith(30, "sample 12"));
        d.slip(2);
        d.slip(28);
        StringBuilder a = new StringBuilder(keyOf(d, 0));
        StringBuilder b = new StringBuilder(keyOf(d, 1));
        Draws draws = drawsOf(d);
        for (int k = 0; k < 12; k++) {
            int place = draws.of(30 - k);
            a.deleteCharAt(place);
            b.deleteCharAt(place);
        }
        d.sample();
        due("A's", keyOf(d, 0), a.toString());
        due("B's", keyOf(d, 1), b.toString());
        due("no parity is told", d.count(4), 0);
    }

    /** A desk with sample places drawn, of which the first are unlike. */
    private static KeyDesk withErrors(int sample, int errors) {
        KeyDesk d = begun(planWith(120, "sample " + sample));
        List<Integer> gone = drawsOf(d).leaving(120, sample);
        for (int k = 0; k < errors; k++) {
            d.slip(gone.get(k));
        }
        due("errors", d.sample(), errors);
        return d;
    }

    @Sentence(promise = 9, words = "ERRORS: how often they were unlike.")
    static void p09_errors() {
        due("none", withErrors(20, 0).count(5), 0);
        due("one", withErrors(20, 1).count(5), 1);
        due("all", withErrors(20, 20).count(5), 20);
        due("those that stay are no errors", withErrors(20, 20).count(2), 0);
        KeyDesk d = begun(planWith(120, "sample 20"));
        List<Integer> gone = drawsOf(d).leaving(120, 20);
        for (int place = 0; place < 10; place++) {
            if (!gone.contains(place)) {
                d.slip(place);
            }
        }
        due("unlike ones that are not told", d.sample(), 0);
    }

    @Sentence(promise = 9, words = "BOUND: of m that were told 1000 * (ERRORS + 1 + ROOT of (4 * ERRORS + 4)) / m,"
        + " downwards,")
    static void p09_bound() {
        int[][] due = {{7, 0, 428}, {8, 0, 375}, {9, 0, 333}, {100, 0, 30}, {100, 3, 80}, {120, 0, 25}, {119, 0, 25},
            {11, 1, 363}, {40, 2, 150}};
        for (int[] one : due) {
            due("m " + one[0] + ", errors " + one[1], withErrors(one[0], one[1]).count(6), one[2]);
        }
    }

    @Sentence(promise = 9, words = "of m that were told")
    static void p09_ofThoseThatWereTold() {
        // Of 11 places ten are told, whatever sample is: 3000 / 10.
        due("ten of twelve", sampled(planWith(11, "sample 12")).count(6), 300);
        due("ten of 128", sampled(planWith(11, "sample 128")).count(6), 300);
        due("ten of ten", sampled(planWith(11, "sample 10")).count(6), 300);
    }

    @Sentence(promise = 9, words = "500 at most (ROOT: the square root, downwards);")
    static void p09_boundAtMost500() {
        due("600", withErrors(5, 0).count(6), 500);
        due("just 500", withErrors(6, 0).count(6), 500);
        due("3000", withErrors(1, 0).count(6), 500);
        due("490", withErrors(100, 36).count(6), 490);
        due("500 of 100", withErrors(100, 37).count(6), 500);
        due("510", withErrors(100, 38).count(6), 500);
        due("all unlike", withErrors(100, 100).count(6), 500);
    }

    @Sentence(promise = 9, words = "(ROOT: the square root, downwards);")
    static void p09_rootDownwards() {
        // Roots of 4, 8, 12, 16, 20, 24, 28, 32, 36, .. 64: by m 100 a bound of ten times each sum.
        int[] roots = {2, 2, 3, 4, 4, 4, 5, 5, 6, 6, 6, 6, 7, 7, 7, 8};
        for (int errors = 0; errors < roots.length; errors++) {
            due("errors " + errors, withErrors(100, errors).count(6), 10 * (errors + 1 + roots[errors]));
        }
    }

    @Sentence(promise = 9, words = "250, if m is 0. (STAGE 2.)")
    static void p09_noneTold() {
        due("sample 0", sampled(planWith(40, "sample 0")).count(6), 250);
        due("one place", sampled(planWith(1, "sample 9")).count(6), 250);
        due("no place", sampled(planWith(0, "sample 9")).count(6), 250);
        due("stage", sampled(planWith(0, "sample 9")).count(0), 2);
        due("stage", sampled(planWith(40, "sample 0")).count(0), 2);
    }

    @Sentence(promise = 9, words = "NONE, and nothing happens, but at STAGE 1.")
    static void p09_onlyAtStage1() {
        onlyAt("sample", 1);
    }

    @Sentence(promise = 9, words = "SAMPLE (at STAGE 1),")
    static void p09_notTwice() {
        KeyDesk d = begun(planWith(40, "sample 4"));
        d.sample();
        due("again", d.sample(), NONE);
        due("n", d.count(1), 36);
        d.undo();
        due("undone it can be done again", d.sample(), 0);
    }

    // ---- promise 11

    @Sentence(promise = 11, words = "CHECK: 1 if it is not GIVEN UP, else 0;")
    static void p11_answers() {
        KeyDesk d = sampled(planWith(40, "sample 0;hash 30"));
        due("alike", d.check(), 1);
        d.undo();
        d.slip(7);
        due("unlike", d.check(), 0);
    }

    @Sentence(promise = 11, words = "CHECK: a ROW of n + hash - 1 BITS is DRAWN (each a DRAW of 2);")
    static void p11_row() {
        int[][] due = {{40, 1}, {40, 30}, {1, 1}, {1, 2}, {0, 1}, {0, 2}, {0, 30}};
        for (int[] one : due) {
            KeyDesk d = sampled(planWith(one[0], "sample 0;hash " + one[1]));
            Draws draws = drawsOf(d);
            draws.row(one[0] + one[1] - 1);
            d.check();
            due("x of n " + one[0] + ", hash " + one[1], d.count(10), (int) draws.x);
        }
    }

    @Sentence(promise = 11, words = "for i from 0 to hash - 1 the PARITY of KEY and ROW (PLACE k of the KEY with BIT i + k of"
        + " the ROW: of PLACES where both are 1) is told aloud;")
    static void p11_parities() {
        int[] places = {20, 65, 130};
        for (int n : places) {
            KeyDesk d = sampled(planWith(n, "sample 0;hash 3"));
            int[] row = drawsOf(d).row(n + 2);
            d.check();
            due("as many as hash", d.count(4), 3);
            for (int i = 0; i < 3; i++) {
                int parity = 0;
                for (int k = 0; k < n; k++) {
                    parity ^= row[i + k] & d.key(0, k);
                    due("place " + k + " in parity " + i, d.isIn(i, k), row[i + k]);
                }
                due("parity " + i, d.ledger(i, 0), parity);
            }
        }
    }

    @Sentence(promise = 11, words = "for i from 0 to hash - 1 the PARITY")
    static void p11_asManyAsHash() {
        KeyDesk one = sampled(planWith(20, "sample 0;hash 1"));
        one.check();
        due("hash 1", one.count(4), 1);
        KeyDesk most = sampled(planWith(20, "sample 0;hash 30"));
        most.check();
        due("hash 30", most.count(4), 30);
        KeyDesk none = sampled(planWith(0, "sample 0;hash 3"));
        due("of no place", none.check(), 1);
        due("are told all the same", told(none, 2), "0 0 -1 -1");
    }

    @Sentence(promise = 11, words = "are any unlike, all is GIVEN UP. (STAGE 4, or 6.)")
    static void p11_anyUnlike() {
        KeyDesk d = sampled(planWith(60, "sample 0;hash 2"));
        int[] row = drawsOf(d).row(61);
        int[] met = new int[4];
        for (int place = 0; place < 60; place++) {
            int kind = 2 * row[place] + row[place + 1];
            if (met[kind]++ > 0) {
                continue;
            }
            d.slip(place);
            // Not seen by either, by the last alone, by the first alone, by both.
            due("unlike of two: " + kind, d.check(), kind == 0 ? 1 : 0);
            due("stage by " + kind, d.count(0), kind == 0 ? 4 : 6);
            due("all are told by " + kind, d.count(4), 2);
            d.undo();
            d.undo();
        }
        due("all four were met", met[0] * met[1] * met[2] * met[3] > 0, true);
    }

    @Sentence(promise = 11, words = "NONE, and nothing happens, but at STAGES 2 and 3.")
    static void p11_onlyAtStages2And3() {
        onlyAt("check", 2, 3);
    }

    @Sentence(promise = 11, words = "CHECK (2 or 3),")
    static void p11_behindAWinnow() {
        KeyDesk d = sampled(planWith(7, "sample 0"));
        d.winnow();
        due("stage 3 by a winnow", d.check(), 1);
        due("stage 4", d.check(), NONE);
    }

    // ---- promise 14

    @Sentence(promise = 14, words = "SHORTEN: LENGTH; 0: it is GIVEN UP;")
    static void p14_answers() {
        KeyDesk d = at(4);
        due("length", d.shorten(), 19);
        due("count 7", d.count(7), 19);
        KeyDesk none = sampled(planWith(40, "sample 0;hash 1;safe 50"));
        none.check();
        due("given up", none.shorten(), 0);
        due("count 7", none.count(7), 0);
    }

    /** What shorten answers with 40 places, one parity told, a bound of 250: 19 less safe. */
    private static KeyDesk safe(int safe) {
        KeyDesk d = sampled(planWith(40, "sample 0;hash 1;safe " + safe));
        d.check();
        return d;
    }

    @Sentence(promise = 14, words = "SHORTEN: its LENGTH is n less how many PARITIES were told aloud,")
    static void p14_lessParities() {
        KeyDesk d = sampled(planWith(40, "sample 0;block 32;passes 2;hash 3;safe 0"));
        d.pass();
        due("two blocks", d.count(4), 2);
        d.winnow();
        due("five eights", d.count(4), 7);
        d.pass();
        due("one block", d.count(4), 8);
        d.check();
        due("three of the check", d.count(4), 11);
        due("40 - 11 - 20", d.shorten(), 9);
    }

    @Sentence(promise = 14, words = "less 2 * BOUND * n / 1000 (downwards),")
    static void p14_lessTwiceTheBound() {
        int[][] due = {{40, 0, 20}, {41, 0, 20}, {42, 0, 21}, {43, 0, 21}};
        for (int[] one : due) {
            KeyDesk d = sampled(planWith(one[0], "sample 0;hash 1;safe 0"));
            d.check();
            due("bound 250 of " + one[0], d.shorten(), one[0] - 1 - one[2]);
        }
        // Of 124 places 100 are told: a bound of 30, 24 places stay, 1.44 of them are doubted.
        KeyDesk d = sampled(planWith(124, "sample 100;hash 1;safe 0"));
        d.check();
        due("bound 30 of 24", d.shorten(), 24 - 1 - 1);
        KeyDesk most = sampled(planWith(44, "sample 4;hash 1;safe 0"));
        most.check();
        due("bound 500: all are doubted", most.shorten(), 0);
    }

    @Sentence(promise = 14, words = "less safe;")
    static void p14_lessSafe() {
        due("safe 0", safe(0).shorten(), 19);
        due("safe 1", safe(1).shorten(), 18);
        due("safe 11", safe(11).shorten(), 8);
    }

    @Sentence(promise = 14, words = "below 1 all is GIVEN UP (STAGE 6).")
    static void p14_below1() {
        KeyDesk one = safe(18);
        due("1 is enough", one.shorten(), 1);
        due("stage", one.count(0), 5);
        for (int safe = 19; safe <= 21; safe++) {
            KeyDesk d = safe(safe);
            int x = d.count(10);
            due("0 and below", d.shorten(), 0);
            due("stage", d.count(0), 6);
            due("no row is drawn", d.count(10), x);
            due("no final key", d.last(0, 0), NONE);
            due("keys and ledger stay", d.count(1) + " " + d.count(4), "40 1");
        }
        KeyDesk none = sampled(planWith(0, "sample 0;hash 1;safe 0"));
        none.check();
        due("no place", none.shorten(), 0);
    }

    @Sentence(promise = 14, words = "Else a ROW of n + LENGTH - 1 BITS is DRAWN, and the i-th BIT of the FINAL KEYS is a"
        + " PARITY as in CHECK (not told). (STAGE 5.)")
    static void p14_finalKeys() {
        int[] safes = {0, 18};
        for (int safe : safes) {
            KeyDesk d = safe(safe);
            Draws draws = drawsOf(d);
            int[] row = draws.row(40 + 19 - safe - 1);
            d.shorten();
            due("x by safe " + safe, d.count(10), (int) draws.x);
            for (int i = 0; i < 19 - safe; i++) {
                int parity = 0;
                for (int k = 0; k < 40; k++) {
                    parity ^= row[i + k] & d.key(0, k);
                }
                due("A's " + i, d.last(0, i), parity);
                due("B's " + i, d.last(1, i), parity);
            }
            due("not told", d.count(4), 1);
            due("stage", d.count(0), 5);
        }
    }

    @Sentence(promise = 14, words = "NONE, and nothing happens, but at STAGE 4.")
    static void p14_onlyAtStage4() {
        onlyAt("shorten", 4);
    }

    @Sentence(promise = 14, words = "SHORTEN (4),")
    static void p14_notTwice() {
        KeyDesk d = at(5);
        due("again", d.shorten(), NONE);
        d.undo();
        due("undone it can be done again", d.shorten(), 19);
    }

    // ---- promise 13

    @Sentence(promise = 13, words = "SEND of a byte: with the next eight BITS of A's FINAL KEY, the first the highest, joined"
        + " bit by bit (1 where unlike) it is the CIPHER;")
    static void p13_cipher() {
        KeyDesk d = at(5);
        for (int k = 0; k < 2; k++) {
            int eight = 0;
            for (int i = 0; i < 8; i++) {
                eight += d.last(0, 8 * k + i) << 7 - i;
            }
            due("cipher of 201", d.send(201), 201 ^ eight);
            due("count 15", d.count(15), 201 ^ eight);
            due("used", d.count(14), 8 * k + 8);
            due("read", d.count(16), 201);
        }
    }

    @Sentence(promise = 13, words = "B joins that with theirs: what they READ.")
    static void p13_whatTheyRead() {
        // A check of one bit lets by a key whose final bits are unlike where the row meets the slip.
        int met = 0;
        for (int place = 0; place < 40; place++) {
            KeyDesk d = sampled(planWith(40, FORTY));
            d.slip(place);
            if (d.check() == 0) {
                continue;
            }
            d.shorten();
            int unlike = 0;
            for (int i = 0; i < 8; i++) {
                unlike = 2 * unlike + (d.last(0, i) ^ d.last(1, i));
            }
            met += unlike > 0 ? 1 : 0;
            d.send(77);
            due("what is read with a slip at " + place, d.count(16), 77 ^ unlike);
        }
        due("some were unlike", met > 0, true);
    }

    @Sentence(promise = 13, words = "SEND (0 to 255): the CIPHER; NONE, and nothing happens, without these.")
    static void p13_bytes() {
        int[] no = {-1, 256, 257, LEAST_INT, MOST_INT};
        for (int v : no) {
            KeyDesk d = at(5);
            String before = seen(d);
            due("send " + v, d.send(v), NONE);
            due("nothing happened by " + v, seen(d), before);
        }
        int zero = at(5).send(0);
        due("0", zero >= 0 && zero <= 255, true);
        due("255", at(5).send(255), 255 - zero);
        due("128", at(5).send(128), 128 ^ zero);
    }

    @Sentence(promise = 13, words = "SEND (5, as long as eight BITS are left),")
    static void p13_eightBitsLeft() {
        int[][] due = {{11, 1}, {12, 0}, {4, 1}, {3, 2}, {18, 0}};
        for (int[] one : due) {
            KeyDesk d = safe(one[0]);
            int length = d.shorten();
            due("length", length, 19 - one[0]);
            for (int k = 0; k < one[1]; k++) {
                due("send " + k + " of " + length, d.send(5) != NONE, true);
            }
            String before = seen(d);
            due("too few are left of " + length, d.send(5), NONE);
            due("nothing happened", seen(d), before);
            due("used of " + length, d.count(14), 8 * one[1]);
        }
    }

    @Sentence(promise = 13, words = "NONE, and nothing happens, without these.")
    static void p13_onlyAtStage5() {
        onlyAt("send", 5);
    }

    // ---- promise 15

    @Sentence(promise = 15, words = "SLIP: how many BITS are unlike then;")
    static void p15_answers() {
        KeyDesk d = begun(planWith(20, "sample 0"));
        due("one", d.slip(0), 1);
        due("two", d.slip(19), 2);
        due("one again", d.slip(0), 1);
        due("none", d.slip(19), 0);
    }

    @Sentence(promise = 15, words = "SLIP (B's BIT at a PLACE is the other one; at 1 to 3).")
    static void p15_onlyAtStages1To3() {
        onlyAt("slip", 1, 2, 3);
        for (int stage = 1; stage <= 3; stage++) {
            KeyDesk d = at(stage);
            int was = d.key(1, 5);
            d.slip(5);
            due("B's BIT", d.key(1, 5), 1 - was);
            due("stage stays", d.count(0), stage);
            due("x stays", d.count(10), at(stage).count(10));
            due("the SIGNALS stay", d.signal(0, 3), at(stage).signal(0, 3));
        }
    }

    @Sentence(promise = 15, words = "NONE, and nothing happens, without that PLACE, or but at STAGES 1 to 3.")
    static void p15_withoutThatPlace() {
        int[] places = {-1, 20, 21, 256, LEAST_INT, MOST_INT};
        for (int place : places) {
            KeyDesk d = begun(planWith(20, "sample 0"));
            String before = seen(d);
            due("slip " + place, d.slip(place), NONE);
            due("nothing happened by " + place, seen(d), before);
        }
        due("of no place", begun(planWith(0, "sample 0")).slip(0), NONE);
        KeyDesk d = sampled(planWith(20, "sample 19"));
        due("the one that is left", d.slip(0), 1);
        due("one that has left", d.slip(1), NONE);
    }

    // ---- promise 16

    @Sentence(promise = 16, words = "The last ACT is UNDONE: how many more can be;")
    static void p16_howManyMore() {
        KeyDesk d = at(5);
        due("four acts", d.count(11), 4);
        for (int more = 3; more >= 0; more--) {
            due("undo", d.undo(), more);
            due("count 11", d.count(11), more);
        }
    }

    @Sentence(promise = 16, words = "NONE, and nothing happens, if none can.")
    static void p16_noneCan() {
        due("a new object", new KeyDesk().undo(), NONE);
        KeyDesk d = begun(planWith(20, "sample 0"));
        d.image(0);
        due("back to a new plan", d.undo(), 0);
        String before = seen(d);
        due("none more", d.undo(), NONE);
        due("nothing happened", seen(d), before);
        d.back(0);
        before = seen(d);
        due("none behind back", d.undo(), NONE);
        due("nothing happened", seen(d), before);
    }

    @Sentence(promise = 16, words = "The last 12 can be UNDONE, the last first:")
    static void p16_theLast12() {
        int[] many = {11, 12, 13, 14, 23, 24, 25, 36, 37};
        for (int acts : many) {
            KeyDesk d = begun(planWith(20, "sample 0"));
            List<String> ahead = new ArrayList<>();
            ahead.add("");
            for (int k = 1; k < acts; k++) {
                ahead.add(keyOf(d, 1));
                d.slip(k * 7 % 20);
            }
            due("as many can be", d.count(11), Math.min(acts, 12));
            int undone = 0;
            while (undone < 20 && d.undo() != NONE) {
                undone++;
                due("the last first, of " + acts, keyOf(d, 1), ahead.get(acts - undone));
            }
            due("undone of " + acts, undone, Math.min(acts, 12));
            due("stage behind " + acts, d.count(0), acts <= 12 ? 0 : 1);
        }
    }

    @Sentence(promise = 16, words = "The last 12 can be UNDONE,")
    static void p16_othersInTheirPlace() {
        KeyDesk d = begun(planWith(20, "sample 0"));
        for (int k = 0; k < 14; k++) {
            d.slip(k);
        }
        due("undo", d.undo(), 11);
        due("undo", d.undo(), 10);
        d.slip(19);
        due("another act", d.count(11), 11);
        d.slip(18);
        d.slip(17);
        due("no more than twelve", d.count(11), 12);
        for (int more = 11; more >= 0; more--) {
            due("undo", d.undo(), more);
        }
        due("none more", d.undo(), NONE);
        due("three slips stay", d.count(2), 3);
    }

    @Sentence(promise = 16, words = "all is as ahead of it (x, too).")
    static void p16_allIsAsAheadOfIt() {
        String[] acts = {"begin", "sample", "slip", "pass", "winnow", "begin", "sample", "winnow", "pass", "pass", "check",
            "shorten"};
        KeyDesk d = desk(planWith(40, FORTY));
        List<String> ahead = new ArrayList<>();
        List<Integer> x = new ArrayList<>();
        for (String act : acts) {
            ahead.add(seen(d));
            x.add(d.count(10));
            due(act + " is done", act(d, act) != NONE, true);
        }
        for (int k = acts.length - 1; k >= 0; k--) {
            due("undo of " + acts[k], d.undo(), k);
            due("all as ahead of " + acts[k], seen(d), ahead.get(k));
            due("x as ahead of " + acts[k], d.count(10), x.get(k));
        }
    }

    @Sentence(promise = 16, words = "all is as ahead of it (x, too).")
    static void p16_whatCannotBeSeenIsAsAheadOfIt() {
        KeyDesk d = at(5);
        int first = d.send(9);
        d.undo();
        due("bits used", d.count(14), 0);
        due("no cipher", d.count(15), NONE);
        due("nothing read", d.count(16), NONE);
        due("the same bits are next", d.send(9), first);
        int second = d.send(9);
        d.undo();
        due("the last cipher", d.count(15), first);
        due("the second bits are next", d.send(9), second);
        KeyDesk e = sampled(planWith(9, "sample 0"));
        for (int k = 0; k < 8; k++) {
            e.winnow();
        }
        e.undo();
        due("the eighth winnow can be done again", e.winnow(), 0);
        due("but no ninth", e.winnow(), NONE);
        KeyDesk f = at(6);
        f.undo();
        due("not given up any more", f.count(0), 4);
        KeyDesk g = at(5);
        g.begin();
        g.undo();
        due("the final keys are there again", seen(g), seen(at(5)));
    }

    @Sentence(promise = 16, words = "all is as ahead of it (x, too).")
    static void p16_whatASampleTookIsThereAgain() {
        KeyDesk d = begun("signals 80;seed 9;noise 100;spy 50;sample 30");
        String at = lasting(d);
        d.image(0);
        d.sample();
        due("it took some", lasting(d).equals(at), false);
        d.undo();
        due("undone", lasting(d), at);
        d.sample();
        d.back(0);
        due("back", lasting(d), at);
    }

    private static String secrets(KeyDesk d) {
        return lasting(d) + d.secret(false) + " " + d.secret(true);
    }

    private static void actAll(KeyDesk d, String[] acts) {
        for (String act : acts) {
            act(d, act);
        }
    }

    @Sentence(promise = 16, words = "all is as ahead of it (x, too).")
    static void p16_whatWasWrittenOverIsAsAheadOfIt() {
        // Two passes more, and other rows are drawn for the check and for the final keys.
        String[] acts = {"begin", "sample", "pass", "pass", "check", "shorten"};
        int less = 0;
        for (int seed = 0; seed < 40; seed++) {
            KeyDesk d = sampled("signals 256;noise 0;sample 105;block 64;passes 2;hash 1;safe 0;seed " + seed);
            if (d.check() == 0 || d.shorten() == 0) {
                continue;
            }
            String at = secrets(d);
            less += d.secret(true) < d.count(7) ? 1 : 0;
            d.image(0);
            int before = d.count(11);
            actAll(d, acts);
            for (int k = d.count(11); k > before; k--) {
                d.undo();
            }
            due("undone, seed " + seed, secrets(d), at);
            actAll(d, acts);
            d.back(0);
            due("back, seed " + seed, secrets(d), at);
        }
        due("some had less secret than their length", less > 0, true);
    }

    @Sentence(promise = 16, words = "NONE, and nothing happens, if none can.")
    static void p16_whatWasRefusedIsNoAct() {
        KeyDesk d = begun(planWith(20, "sample 0"));
        d.pass();
        d.check();
        d.shorten();
        d.winnow();
        d.send(1);
        d.slip(20);
        d.image(0);
        feed(d, "seed 3");
        d.end(2);
        feed(d, "x");
        d.plan();
        due("begin alone is one", d.count(11), 1);
        due("undo", d.undo(), 0);
        due("stage", d.count(0), 0);
    }

    // ---- promises 31 and 32

    @Sentence(promise = 31, words = "An IMAGE is made: its STAGE;")
    static void p31_answersStage() {
        for (int stage = 0; stage <= 6; stage++) {
            due("image at stage " + stage, at(stage).image(0), stage);
            due("image at stage " + stage, at(stage).image(1), stage);
        }
    }

    @Sentence(promise = 31, words = "NONE without that number.")
    static void p31_numbers() {
        int[] none = {-1, 2, 3, LEAST_INT, MOST_INT};
        for (int k : none) {
            due("image " + k, at(1).image(k), NONE);
        }
    }

    @Sentence(promise = 31, words = "IMAGES 0 and 1: all but the PLAN, the TAPE.")
    static void p31_allButThePlanAndTheTape() {
        KeyDesk d = at(5);
        d.send(3);
        String at = lasting(d);
        feed(d, "seed 8");
        d.image(0);
        due("an image is no act", d.count(11), 5);
        d.begin();
        d.slip(4);
        d.image(1);
        String other = lasting(d);
        d.sample();
        d.winnow();
        d.pass();
        d.end(4);
        due("back 0", d.back(0), 5);
        due("all as in it", lasting(d), at);
        due("the TAPE as it was left", d.count(12), 4);
        due("back 1", d.back(1), 1);
        due("all as in that", lasting(d), other);
    }

    @Sentence(promise = 31, words = "An IMAGE is made:")
    static void p31_inPlaceOfTheOneThereWas() {
        KeyDesk d = at(1);
        d.image(0);
        d.sample();
        due("another", d.image(0), 2);
        d.check();
        due("back", d.back(0), 2);
        d.slip(1);
        due("what is done behind it is not in it", d.back(0), 2);
        due("no slip", d.count(2), 0);
    }

    @Sentence(promise = 32, words = "All is as in an IMAGE (nothing can be UNDONE then): its STAGE;")
    static void p32_nothingCanBeUndone() {
        for (int stage = 0; stage <= 6; stage++) {
            KeyDesk d = at(stage);
            String at = lasting(d);
            d.image(1);
            d.begin();
            due("stage", d.back(1), stage);
            due("all as in it", lasting(d), at);
            due("count 11", d.count(11), 0);
            due("undo", d.undo(), NONE);
            due("the same image again", d.back(1), stage);
        }
    }

    @Sentence(promise = 32, words = "All is as in an IMAGE")
    static void p32_whatCannotBeSeenIsAsInIt() {
        KeyDesk d = sampled(planWith(9, "sample 0"));
        for (int k = 0; k < 7; k++) {
            d.winnow();
        }
        d.image(0);
        d.winnow();
        due("a ninth winnow", d.winnow(), NONE);
        d.back(0);
        due("the eighth, from the image on", d.winnow(), 0);
        due("no ninth", d.winnow(), NONE);
        KeyDesk e = sampled(planWith(20, "sample 0;block 4;passes 3"));
        e.pass();
        e.image(0);
        e.pass();
        String once = lasting(e);
        e.back(0);
        e.pass();
        due("goes on as it did", lasting(e), once);
    }

    @Sentence(promise = 32, words = "NONE, and nothing happens, without it.")
    static void p32_withoutIt() {
        int[] none = {0, 1, -1, 2, LEAST_INT, MOST_INT};
        for (int k : none) {
            KeyDesk d = at(3);
            String before = seen(d);
            due("back " + k, d.back(k), NONE);
            due("nothing happened by " + k, seen(d), before);
        }
        KeyDesk d = at(1);
        d.image(0);
        due("one is not the other", d.back(1), NONE);
        due("undo stays", d.count(11), 1);
    }

    public static void main(String[] args) {
        Edges.run(ActsEdgesTest.class);
    }
}
