import java.math.BigInteger;
import java.util.ArrayList;
import java.util.HashSet;
import java.util.List;
import java.util.Set;

/** The sentences of part III and of promises 17 to 30 and 33: what is asked. */
public final class AskedEdgesTest extends Desks {
    private static final int LEAST_INT = Integer.MIN_VALUE;
    private static final int MOST_INT = Integer.MAX_VALUE;
    private static final int[] FAR = {LEAST_INT, MOST_INT, 256, 65536, -2};

    private static String alikeFrom(int n, String rest) {
        return planWith(n, "sample 0;" + rest);
    }

    /** A desk at a stage, by a plan that comes to 5; to 6 by a key that is given up. */
    private static KeyDesk at(int stage) {
        KeyDesk d = desk(alikeFrom(40, "block 64;passes 2;hash 1;safe " + (stage == 6 ? 50 : 0)));
        if (stage >= 1) {
            d.begin();
        }
        if (stage >= 2) {
            d.sample();
        }
        if (stage == 3) {
            d.pass();
        }
        if (stage >= 4) {
            d.check();
        }
        if (stage >= 5) {
            d.shorten();
        }
        due("stage", d.count(0), stage);
        return d;
    }

    // ---- nothing changes

    private static int ask(KeyDesk d, int kind) {
        switch (kind) {
            case 0: return d.signal(0, 0);
            case 1: return d.key(1, 0);
            case 2: return d.order(0, 1);
            case 3: return d.ledger(0, 3);
            case 4: return d.isIn(0, 1);
            case 5: return d.rank();
            case 6: return d.fixed(NONE) + d.fixed(2);
            case 7: return d.last(1, 0);
            case 8: return d.spied(NONE) + d.spied(1);
            case 9: return d.block(0, 0, 2);
            case 10: return d.secret(false);
            case 11: return d.secret(true);
            case 12: return d.would(6, 0) + d.would(1, 1);
            case 13: return d.best(0) + d.best(1);
            case 14: return d.seeds(3, 0) + d.seeds(2, 2);
            case 15: return d.noise(2);
            case 16: return d.rounds(0) + d.rounds(1);
            case 17: return d.setting(2);
            default: return d.count(10);
        }
    }

    @Sentence(promise = 33, words = "(By what is asked nothing changes.)")
    static void p33_nothingChanges() {
        for (int stage = 0; stage <= 6; stage++) {
            KeyDesk d = at(stage);
            d.image(1);
            if (stage >= 1 && stage <= 3) {
                d.slip(2);
            }
            feed(d, "seed");
            String before = seen(d);
            for (int kind = 0; kind <= 18; kind++) {
                int once = ask(d, kind);
                due("asked again, " + kind, ask(d, kind), once);
                due("as it was behind " + kind + " at stage " + stage, seen(d), before);
            }
            due("the image is as it was", d.back(1), stage);
            due("it has no slip", d.count(2), 0);
        }
    }

    @Sentence(promise = 33, words = "(By what is asked nothing changes.)")
    static void p33_asIfItHadNotBeenAsked() {
        KeyDesk asked = desk("signals 256;seed 5;noise 40;spy 20;sample 30;block 16;passes 4;hash 4;safe 0");
        KeyDesk other = desk("signals 256;seed 5;noise 40;spy 20;sample 30;block 16;passes 4;hash 4;safe 0");
        int[] acts = {0, 1, 2, 2, 3, 2, 4, 5};
        for (int act : acts) {
            for (int kind = 0; kind <= 18; kind++) {
                ask(asked, kind);
            }
            due("act " + act, act(asked, act), act(other, act));
            due("all behind act " + act, seen(asked), seen(other));
        }
    }

    private static int act(KeyDesk d, int act) {
        switch (act) {
            case 0: return d.begin();
            case 1: return d.sample();
            case 2: return d.pass();
            case 3: return d.winnow();
            case 4: return d.check();
            default: return d.shorten();
        }
    }

    // ---- promise 17

    @Sentence(promise = 17, words = "The k-th PLACE (0 the first) in the ORDER of a PASS that is done;")
    static void p17_order() {
        KeyDesk d = sampled(alikeFrom(12, "block 4;passes 3"));
        Draws draws = drawsOf(d);
        d.pass();
        due("not done yet", d.order(1, 0), NONE);
        d.pass();
        int[] order = draws.shuffled(12);
        due("the first", d.order(1, 0), order[0]);
        due("the last", d.order(1, 11), order[11]);
        d.pass();
        due("it stays", d.order(1, 5), order[5]);
        d.check();
        due("at stage 4, too", d.order(0, 11), 11);
    }

    @Sentence(promise = 17, words = "NONE without these.")
    static void p17_noneWithoutThese() {
        KeyDesk d = sampled(alikeFrom(12, "block 4;passes 6"));
        due("none is done", d.order(0, 0), NONE);
        d.pass();
        d.pass();
        int[][] none = {{-1, 0}, {2, 0}, {3, 0}, {5, 0}, {6, 0}, {0, -1}, {0, 12}, {1, 12}, {0, 13}, {-1, -1}};
        for (int[] one : none) {
            due("order " + one[0] + ", " + one[1], d.order(one[0], one[1]), NONE);
        }
        for (int far : FAR) {
            due("pass " + far, d.order(far, 0), NONE);
            due("k " + far, d.order(0, far), NONE);
        }
        d.undo();
        due("undone", d.order(1, 0), NONE);
        KeyDesk empty = sampled(alikeFrom(0, "block 4"));
        empty.pass();
        due("of no place", empty.order(0, 0), NONE);
    }

    // ---- promises 18 and 19

    @Sentence(promise = 18, words = "THE LEDGER: all PARITIES that were told aloud, from 0 on, as they were told; each is of a"
        + " set of PLACES.")
    static void p18_asTheyWereTold() {
        KeyDesk d = sampled(alikeFrom(16, "block 8;hash 2;passes 2"));
        due("nothing is told", d.count(4), 0);
        d.slip(9);
        d.pass();
        d.winnow();
        d.check();
        String[] due = {"8 0 0", "8 0 8", "4 0 8", "2 0 8", "1 0 8", "8 -2 0", "8 -2 8"};
        for (int k = 0; k < due.length; k++) {
            due("entry " + k, asked(d, k), due[k]);
        }
        due("two of the check", d.count(4), 9);
        due("of no pass", d.ledger(7, 2) + d.ledger(8, 2), -2);
        d.undo();
        due("undone", d.ledger(7, 0), NONE);
        due("the others stay", asked(d, 6), "8 -2 8");
    }

    @Sentence(promise = 18, words = "Of the k-th in the LEDGER what 0: the PARITY that A told,")
    static void p18_parityThatATold() {
        KeyDesk d = sampled(alikeFrom(16, "block 8"));
        d.slip(0);
        d.pass();
        for (int k = 0; k < d.count(4); k++) {
            int parity = 0;
            for (int place = 0; place < 16; place++) {
                parity ^= d.isIn(k, place) & d.key(0, place);
            }
            due("parity " + k, d.ledger(k, 0), parity);
        }
        int first = d.ledger(0, 0);
        d.slip(1);
        due("whatever B has", d.ledger(0, 0), first);
    }

    @Sentence(promise = 18, words = "1: how many PLACES it is of,")
    static void p18_howManyPlaces() {
        KeyDesk d = sampled(alikeFrom(30, "block 7;hash 30;passes 2"));
        d.slip(8);
        d.pass();
        d.pass();
        d.winnow();
        d.check();
        for (int k = 0; k < d.count(4); k++) {
            int many = 0;
            for (int place = 0; place < 30; place++) {
                many += d.isIn(k, place);
            }
            due("places of " + k, d.ledger(k, 1), many);
        }
    }

    @Sentence(promise = 18, words = "2: the PASS of whose ORDER it is (that of the BLOCK that is ASKED, or HALVED; NONE of"
        + " CHECK, -2 of WINNOW),")
    static void p18_passOfWhoseOrder() {
        KeyDesk d = sampled(alikeFrom(16, "block 8;hash 1;passes 3"));
        d.pass();
        d.pass();
        d.pass();
        d.winnow();
        d.check();
        int[] due = {0, 0, 1, 2, -2, -2, NONE};
        for (int k = 0; k < due.length; k++) {
            due("pass of " + k, d.ledger(k, 2), due[k]);
        }
        // A slip ahead of pass 1 unveils the two that pass 0 did not see: a step back is of pass 0.
        KeyDesk e = sampled(alikeFrom(24, "block 4;passes 2"));
        int[] order = drawsOf(e).shuffled(24);
        e.pass();
        int other = 8;
        while (order[other] / 4 == order[0] / 4) {
            other++;
        }
        e.slip(order[0]);
        e.slip(order[other]);
        due("both", e.pass(), 2);
        due("asked", e.ledger(6, 2), 1);
        due("halved", e.ledger(7, 2), 1);
        due("a step back", e.ledger(10, 2), 0);
        due("its place", e.ledger(10, 3), order[other] / 4 * 4);
    }

    @Sentence(promise = 18, words = "3: the least PLACE (NONE: it is of none).")
    static void p18_leastPlace() {
        KeyDesk d = sampled(alikeFrom(3, "hash 30"));
        int[] row = drawsOf(d).row(32);
        d.check();
        int none = 0;
        for (int i = 0; i < 30; i++) {
            int least = row[i] == 1 ? 0 : row[i + 1] == 1 ? 1 : row[i + 2] == 1 ? 2 : NONE;
            none += least == NONE ? 1 : 0;
            due("least of " + i, d.ledger(i, 3), least);
            due("places of " + i, d.ledger(i, 1), row[i] + row[i + 1] + row[i + 2]);
        }
        due("some are of none", none > 0, true);
    }

    @Sentence(promise = 18, words = "NONE without these.")
    static void p18_noneWithoutThese() {
        KeyDesk d = sampled(alikeFrom(16, "block 4"));
        due("an empty one", d.ledger(0, 0), NONE);
        d.pass();
        due("the last", d.ledger(3, 1), 4);
        int[][] none = {{-1, 0}, {-1, 1}, {4, 0}, {4, 1}, {5, 1}, {0, -1}, {0, 4}, {0, 5}};
        for (int[] one : none) {
            due("ledger " + one[0] + ", " + one[1], d.ledger(one[0], one[1]), NONE);
        }
        for (int far : FAR) {
            due("k " + far, d.ledger(far, 1), NONE);
            due("what " + far, d.ledger(0, far), NONE);
        }
        due("at stage 0", desk("seed 1").ledger(0, 1), NONE);
    }

    @Sentence(promise = 19, words = "Whether a PLACE is in the set of the k-th in the LEDGER: 1, 0;")
    static void p19_isIn() {
        KeyDesk d = sampled(alikeFrom(130, "block 64"));
        d.pass();
        for (int place = 0; place < 130; place++) {
            for (int k = 0; k < 3; k++) {
                due("place " + place + " in block " + k, d.isIn(k, place), place / 64 == k ? 1 : 0);
            }
        }
    }

    @Sentence(promise = 19, words = "NONE without these.")
    static void p19_noneWithoutThese() {
        KeyDesk d = sampled(alikeFrom(16, "block 4"));
        due("an empty ledger", d.isIn(0, 0), NONE);
        d.pass();
        due("the last of both", d.isIn(3, 15), 1);
        int[][] none = {{-1, 0}, {4, 0}, {0, -1}, {0, 16}, {3, 17}, {4, 16}};
        for (int[] one : none) {
            due("isIn " + one[0] + ", " + one[1], d.isIn(one[0], one[1]), NONE);
        }
        for (int far : FAR) {
            due("k " + far, d.isIn(far, 0), NONE);
            due("place " + far, d.isIn(0, far), NONE);
        }
        KeyDesk empty = sampled(alikeFrom(0, "hash 2"));
        empty.check();
        due("of no place", empty.isIn(0, 0), NONE);
    }

    // ---- promises 20 and 21

    /** All sums of the sets of the ledger, each set a number: as many as 2 to the rank. */
    private static Set<Integer> sums(KeyDesk d) {
        Set<Integer> sums = new HashSet<>();
        sums.add(0);
        for (int k = 0; k < d.count(4); k++) {
            int set = 0;
            for (int place = 0; place < d.count(1); place++) {
                set |= d.isIn(k, place) << place;
            }
            addSums(sums, set);
        }
        return sums;
    }

    private static void addSums(Set<Integer> sums, int set) {
        for (int sum : new ArrayList<>(sums)) {
            sums.add(sum ^ set);
        }
    }

    private static int logOf(int power) {
        return 31 - Integer.numberOfLeadingZeros(power);
    }

    @Sentence(promise = 20, words = "RANK: how many PARITIES of the LEDGER there are at most, none of which comes of others (as"
        + " their sums, 1 and 1 being 0).")
    static void p20_rank() {
        for (int seed = 0; seed < 12; seed++) {
            KeyDesk d = sampled("signals 24;noise 200;sample 0;block 3;passes 3;hash 2;seed " + seed);
            for (int k = 0; k < 3; k++) {
                d.pass();
                due("rank of seed " + seed, d.rank(), logOf(sums(d).size()));
            }
            d.winnow();
            d.check();
            due("rank of seed " + seed, d.rank(), logOf(sums(d).size()));
        }
    }

    @Sentence(promise = 20, words = "RANK.")
    static void p20_noneTwiceAndAll() {
        due("at stage 0", new KeyDesk().rank(), 0);
        KeyDesk d = sampled(alikeFrom(16, "block 4;hash 30"));
        due("nothing is told", d.rank(), 0);
        d.winnow();
        due("two eights", d.rank(), 2);
        d.winnow();
        due("told twice", d.rank(), 2);
        due("four are told", d.count(4), 4);
        d.pass();
        due("fours, of which the eights come", d.rank(), 4);
        d.check();
        due("all places at most", d.rank(), 16);
        KeyDesk none = sampled(alikeFrom(0, "hash 5"));
        none.check();
        due("of no place", none.rank(), 0);
    }

    /** By elimination, each set a number of n bits: for sets of too many sums to be counted. */
    private static int rankOf(KeyDesk d) {
        List<BigInteger> rows = new ArrayList<>();
        for (int k = 0; k < d.count(4); k++) {
            BigInteger set = BigInteger.ZERO;
            for (int place = 0; place < d.count(1); place++) {
                set = d.isIn(k, place) == 1 ? set.setBit(place) : set;
            }
            for (BigInteger row : rows) {
                set = set.min(set.xor(row));
            }
            if (set.signum() != 0) {
                rows.add(set);
            }
        }
        return rows.size();
    }

    @Sentence(promise = 20, words = "RANK.")
    static void p20_manyPlaces() {
        int[] blocks = {2, 5, 64};
        for (int block : blocks) {
            KeyDesk d = sampled("signals 256;seed 12;noise 300;sample 0;hash 30;passes 6;block " + block);
            due("more than 128 places", d.count(1) > 128, true);
            for (int pass = 0; pass < 6; pass++) {
                d.pass();
                due("rank by blocks of " + block, d.rank(), rankOf(d));
            }
            d.check();
            int rank = d.rank();
            due("behind a check by " + block, rank, rankOf(d));
            due("no more than places", rank <= d.count(1), true);
            for (int k = 0; k < 6; k++) {
                d.undo();
                due("undone", d.rank(), rankOf(d));
            }
        }
    }

    @Sentence(promise = 21, words = "FIXED is a PLACE, if its BIT alone comes of PARITIES of the LEDGER.")
    static void p21_comesOfParities() {
        for (int seed = 0; seed < 12; seed++) {
            KeyDesk d = sampled("signals 24;noise 250;sample 0;block 3;passes 3;hash 1;seed " + seed);
            d.pass();
            d.pass();
            d.check();
            Set<Integer> sums = sums(d);
            int fixed = 0;
            for (int place = 0; place < d.count(1); place++) {
                int due = sums.contains(1 << place) ? 1 : 0;
                fixed += due;
                due("place " + place + " of seed " + seed, d.fixed(place), due);
            }
            due("how many of seed " + seed, d.fixed(NONE), fixed);
        }
    }

    @Sentence(promise = 21, words = "Whether a PLACE is FIXED: 1, 0; place NONE: how many are.")
    static void p21_noneAndAll() {
        KeyDesk d = sampled(alikeFrom(5, "block 2"));
        due("nothing is told", d.fixed(NONE), 0);
        due("nor of place 0", d.fixed(0), 0);
        d.slip(1);
        d.pass();
        // 0 and 1 together, 0 alone; 2 and 3 together; 4 alone.
        due("0", d.fixed(0), 1);
        due("1 comes of both", d.fixed(1), 1);
        due("2", d.fixed(2), 0);
        due("3", d.fixed(3), 0);
        due("4, the last", d.fixed(4), 1);
        due("how many", d.fixed(NONE), 3);
        d.undo();
        due("undone, none", d.fixed(NONE), 0);
        due("undone, not 0", d.fixed(0), 0);
        KeyDesk all = sampled(alikeFrom(5, "hash 30"));
        all.check();
        due("all", all.fixed(NONE), 5);
        KeyDesk many = sampled(alikeFrom(130, "block 2"));
        int[] slips = {0, 63, 64, 65, 128};
        for (int place : slips) {
            many.slip(place);
        }
        many.pass();
        // 64 and 65 in one block are both unlike: it is not halved.
        for (int place = 0; place < 130; place++) {
            boolean halved = place / 2 == 0 || place / 2 == 31 || place / 2 == 64;
            due("place " + place + " of many", many.fixed(place), halved ? 1 : 0);
        }
        due("how many of many", many.fixed(NONE), 6);
    }

    @Sentence(promise = 21, words = "NONE without these.")
    static void p21_noneWithoutThese() {
        KeyDesk d = sampled(alikeFrom(5, "block 2"));
        int[] none = {-2, 5, 6, 256, LEAST_INT, MOST_INT};
        for (int place : none) {
            due("fixed " + place, d.fixed(place), NONE);
        }
        due("a place at stage 0", new KeyDesk().fixed(0), NONE);
        due("how many at stage 0", new KeyDesk().fixed(NONE), 0);
        KeyDesk empty = sampled(alikeFrom(0, "hash 2"));
        due("a place of none", empty.fixed(0), NONE);
        due("how many of none", empty.fixed(NONE), 0);
    }

    // ---- promise 22

    @Sentence(promise = 22, words = "The i-th BIT of the FINAL KEY of A (side 0), of B (1);")
    static void p22_last() {
        for (int place = 0; place < 12; place++) {
            KeyDesk d = sampled(alikeFrom(40, "hash 1;safe 0"));
            d.slip(place);
            if (d.check() == 0) {
                continue;
            }
            int[] row = drawsOf(d).row(58);
            due("length", d.shorten(), 19);
            for (int i = 0; i < 19; i++) {
                int a = 0;
                int b = 0;
                for (int k = 0; k < 40; k++) {
                    a ^= row[i + k] & d.key(0, k);
                    b ^= row[i + k] & d.key(1, k);
                }
                due("of A " + i, d.last(0, i), a);
                due("of B " + i, d.last(1, i), b);
            }
        }
        KeyDesk d = at(5);
        int first = d.last(0, 0);
        d.send(1);
        due("those that are used are there", d.last(0, 0), first);
    }

    @Sentence(promise = 22, words = "NONE without these.")
    static void p22_noneWithoutThese() {
        KeyDesk d = at(5);
        due("the last one", d.last(0, 18) >= 0, true);
        int[][] none = {{0, 19}, {1, 19}, {0, 20}, {0, -1}, {1, -1}, {-1, 0}, {2, 0}};
        for (int[] one : none) {
            due("last " + one[0] + ", " + one[1], d.last(one[0], one[1]), NONE);
        }
        for (int far : FAR) {
            due("side " + far, d.last(far, 0), NONE);
            due("i " + far, d.last(0, far), NONE);
        }
        for (int stage = 0; stage <= 6; stage++) {
            due("at stage " + stage, at(stage).last(0, 0) != NONE, stage == 5);
        }
        d.begin();
        due("behind a begin", d.last(0, 0), NONE);
    }

    // ---- promise 23

    @Sentence(promise = 23, words = "E KNOWS a PLACE, if its SIGNAL is SPIED in A's BASE.")
    static void p23_knows() {
        KeyDesk d = desk("signals 120;seed 9;noise 60;spy 50;sample 20");
        Draws draws = new Draws(9);
        int n = d.begin();
        List<Integer> known = new ArrayList<>();
        int[] kinds = new int[3];
        for (int k = 0; k < 120; k++) {
            int[] signal = draws.signal(60, 50);
            if (signal[5] == 1) {
                known.add(signal[6]);
                kinds[signal[4] + signal[6]]++;
            }
        }
        due("not SPIED, SPIED in the other BASE, in A's", kinds[0] * kinds[1] * kinds[2] > 0, true);
        for (int place = 0; place < n; place++) {
            due("place " + place, d.spied(place), known.get(place));
        }
        due("how many", d.spied(NONE), kinds[2]);
        for (int k = 0; k < 20; k++) {
            known.remove(draws.of(known.size()));
        }
        d.sample();
        int many = 0;
        for (int place = 0; place < n - 20; place++) {
            due("place " + place + " behind a sample", d.spied(place), known.get(place));
            many += known.get(place);
        }
        due("how many behind a sample", d.spied(NONE), many);
    }

    @Sentence(promise = 23, words = "Whether E KNOWS a PLACE: 1, 0; place NONE: how many.")
    static void p23_noneAndAll() {
        due("spy 0", begun("signals 100;seed 3;spy 0").spied(NONE), 0);
        due("spy 0, a place", begun("signals 100;seed 3;spy 0").spied(0), 0);
        for (int seed = 0; seed < 40; seed++) {
            KeyDesk d = begun("signals 2;seed " + seed + ";spy 100");
            Draws draws = new Draws(seed);
            int[] first = draws.signal(30, 100);
            int[] second = draws.signal(30, 100);
            if (first[5] == 1) {
                due("place 0", d.spied(0), first[6]);
            }
            due("how many of two", d.spied(NONE), (first[5] & first[6]) + (second[5] & second[6]));
        }
        KeyDesk d = at(6);
        due("at stage 6, too", d.spied(0), 0);
    }

    @Sentence(promise = 23, words = "NONE without these.")
    static void p23_noneWithoutThese() {
        KeyDesk d = begun(planWith(10, "sample 9"));
        int[] none = {-2, 10, 11, 256, LEAST_INT, MOST_INT};
        for (int place : none) {
            due("spied " + place, d.spied(place), NONE);
        }
        d.sample();
        due("what a sample took", d.spied(1), NONE);
        due("a place at stage 0", new KeyDesk().spied(0), NONE);
        due("how many at stage 0", new KeyDesk().spied(NONE), 0);
        due("how many of no place", begun(planWith(0, "sample 0")).spied(NONE), 0);
    }

    // ---- promise 24

    @Sentence(promise = 24, words = "Of the k-th BLOCK (0 the first) of a PASS that is done what 0: where it begins in the"
        + " ORDER, 1: how many PLACES, 2: how many of them are unlike now.")
    static void p24_block() {
        KeyDesk d = sampled(alikeFrom(20, "block 4;passes 3"));
        d.pass();
        d.pass();
        int[][] due = {{0, 0, 0, 4}, {0, 4, 16, 4}, {1, 0, 0, 8}, {1, 1, 8, 8}, {1, 2, 16, 4}};
        for (int[] one : due) {
            due("begin", d.block(one[0], one[1], 0), one[2]);
            due("places", d.block(one[0], one[1], 1), one[3]);
            due("unlike", d.block(one[0], one[1], 2), 0);
        }
        due("not done yet", d.block(2, 0, 0), NONE);
        d.pass();
        due("of pass 2", d.block(2, 1, 0), 16);
        due("of pass 2", d.block(2, 1, 1), 4);
    }

    @Sentence(promise = 24, words = "2: how many of them are unlike now.")
    static void p24_unlikeNow() {
        KeyDesk d = sampled(alikeFrom(20, "block 4;passes 2"));
        d.pass();
        d.pass();
        d.slip(d.order(1, 16));
        d.slip(d.order(1, 19));
        d.slip(d.order(1, 15));
        due("in the last block", d.block(1, 2, 2), 2);
        due("in the one ahead of it", d.block(1, 1, 2), 1);
        due("in the first", d.block(1, 0, 2), 0);
        for (int k = 0; k < 5; k++) {
            int unlike = 0;
            for (int place = 4 * k; place < 4 * k + 4; place++) {
                unlike += d.key(0, place) ^ d.key(1, place);
            }
            due("in block " + k + " of pass 0", d.block(0, k, 2), unlike);
        }
        d.slip(d.order(1, 16));
        due("one is right again", d.block(1, 2, 2), 1);
    }

    @Sentence(promise = 24, words = "NONE without these.")
    static void p24_noneWithoutThese() {
        KeyDesk d = sampled(alikeFrom(20, "block 4;passes 6"));
        due("none is done", d.block(0, 0, 0), NONE);
        d.pass();
        d.pass();
        int[][] none = {{-1, 0, 0}, {2, 0, 0}, {6, 0, 0}, {0, -1, 0}, {0, 5, 0}, {1, 3, 0}, {1, 4, 1}, {0, 0, -1}, {0, 0, 3}};
        for (int[] one : none) {
            due("block " + one[0] + ", " + one[1] + ", " + one[2], d.block(one[0], one[1], one[2]), NONE);
        }
        for (int far : FAR) {
            due("pass " + far, d.block(far, 0, 0), NONE);
            due("k " + far, d.block(0, far, 0), NONE);
            due("what " + far, d.block(0, 0, far), NONE);
        }
        KeyDesk even = sampled(alikeFrom(8, "block 4"));
        even.pass();
        due("the last", even.block(0, 1, 1), 4);
        due("no empty one behind it", even.block(0, 2, 1), NONE);
        KeyDesk empty = sampled(alikeFrom(0, "block 4"));
        empty.pass();
        due("of no place", empty.block(0, 0, 0), NONE);
    }

    // ---- promise 25

    @Sentence(promise = 25, words = "SECRET: by how much RANK would be more, were the PARITIES of the FINAL KEY in the LEDGER,"
        + " too; from E: with each PLACE that E KNOWS, alone, in the LEDGER in both.")
    static void p25_secret() {
        int less = 0;
        int lessFromE = 0;
        int tried = 0;
        for (int seed = 0; seed < 1000 && (tried < 40 || less == 0 || lessFromE == 0); seed++) {
            KeyDesk d = sampled("signals 30;noise 0;spy 40;sample 0;block 64;passes 1;hash 1;safe 0;seed " + seed);
            int n = d.count(1);
            if (n > 18) {
                continue;
            }
            for (int place = 0; place < n; place++) {
                if (d.key(0, place) != d.key(1, place)) {
                    d.slip(place);
                }
            }
            d.check();
            int[] row = drawsOf(d).row(2 * n);
            int length = d.shorten();
            if (length < 3) {
                continue;
            }
            tried++;
            int secret = gained(d, row, length, false);
            int fromE = gained(d, row, length, true);
            due("secret of seed " + seed, d.secret(false), secret);
            due("from E of seed " + seed, d.secret(true), fromE);
            less += secret < length ? 1 : 0;
            lessFromE += fromE < secret ? 1 : 0;
        }
        due("tried", tried >= 40, true);
        due("some are less than the length", less > 0, true);
        due("some are less from E", lessFromE > 0, true);
    }

    /** By counting sums: by how much the rank is more with the sets of the final key. */
    private static int gained(KeyDesk d, int[] row, int length, boolean fromE) {
        Set<Integer> sums = sums(d);
        for (int place = 0; fromE && place < d.count(1); place++) {
            if (d.spied(place) == 1) {
                addSums(sums, 1 << place);
            }
        }
        int without = logOf(sums.size());
        for (int i = 0; i < length; i++) {
            int set = 0;
            for (int place = 0; place < d.count(1); place++) {
                set |= row[i + place] << place;
            }
            addSums(sums, set);
        }
        return logOf(sums.size()) - without;
    }

    @Sentence(promise = 25, words = "SECRET, or from E; NONE but at STAGE 5.")
    static void p25_onlyAtStage5() {
        for (int stage = 0; stage <= 6; stage++) {
            due("secret at stage " + stage, at(stage).secret(false) != NONE, stage == 5);
            due("from E at stage " + stage, at(stage).secret(true) != NONE, stage == 5);
        }
        KeyDesk d = at(5);
        due("without a spy both are one", d.secret(true), d.secret(false));
        int secret = d.secret(false);
        d.send(1);
        due("what is used counts on", d.secret(false), secret);
    }

    // ---- promise 26

    /** A desk at stage 2 with some bits unlike, of which passes in eights mend some each. */
    private static KeyDesk unlike(int passes) {
        return sampled("signals 256;seed 5;noise 30;spy 20;sample 20;block 8;hash 8;safe 2;passes " + passes);
    }

    @Sentence(promise = 26, words = "WOULD: what comes of k PASSES more (as many as passes lets): how many BITS are unlike then,"
        + " how many PARITIES the LEDGER has then.")
    static void p26_asManyAsPassesLets() {
        for (int done = 0; done <= 3; done++) {
            KeyDesk d = unlike(3);
            for (int k = 0; k < done; k++) {
                d.pass();
            }
            int[] unlike = new int[7];
            int[] told = new int[7];
            for (int k = 0; k <= 6; k++) {
                unlike[k] = d.would(k, 0);
                told[k] = d.would(k, 1);
            }
            for (int k = 0; k <= 6; k++) {
                due("unlike behind " + k + " more of " + done, unlike[k], d.count(2));
                due("told behind " + k + " more of " + done, told[k], d.count(4));
                d.pass();
            }
            due("no more than three", d.count(3), 3);
        }
    }

    @Sentence(promise = 26, words = "WOULD (k 0 to 6) what 0: how many BITS are unlike, 1: how many PARITIES are told.")
    static void p26_noneMore() {
        KeyDesk d = unlike(6);
        due("0 more: as it is", d.would(0, 0), d.count(2));
        due("0 more: nothing told", d.would(0, 1), 0);
        d.slip(3);
        due("with a slip", d.would(0, 0), d.count(2));
        due("6 more", d.would(6, 0), 0);
        d.winnow();
        due("behind a winnow all that the ledger has", d.would(0, 1), d.count(4));
        due("and more", d.would(1, 1) > d.count(4), true);
    }

    @Sentence(promise = 26, words = "NONE without these, or but at STAGES 2 and 3.")
    static void p26_noneWithoutThese() {
        KeyDesk d = unlike(4);
        int[] none = {-1, 7, 8, LEAST_INT, MOST_INT};
        for (int k : none) {
            due("would " + k, d.would(k, 0), NONE);
            due("would " + k, d.would(k, 1), NONE);
        }
        int[] noWhat = {-1, 2, 3, LEAST_INT, MOST_INT};
        for (int what : noWhat) {
            due("what " + what, d.would(0, what), NONE);
        }
    }

    @Sentence(promise = 26, words = "or but at STAGES 2 and 3.")
    static void p26_onlyAtStages2And3() {
        for (int stage = 0; stage <= 6; stage++) {
            boolean may = stage == 2 || stage == 3;
            due("what 0 at stage " + stage, at(stage).would(0, 0) != NONE, may);
            due("what 1 at stage " + stage, at(stage).would(6, 1) != NONE, may);
        }
    }

    // ---- promise 27

    @Sentence(promise = 27, words = "BEST: of the blocks 2 to 64 that by which, from STAGE 2 on, the KEYS as they are now with"
        + " all passes (x as it is now) come to be alike with the fewest PARITIES told;")
    static void p27_best() {
        for (int passes = 1; passes <= 3; passes++) {
            int best = -2;
            int fewest = -2;
            for (int block = 64; block >= 2; block--) {
                KeyDesk d = sampled("signals 150;seed 8;noise 30;sample 10;block " + block + ";passes " + passes);
                d.slip(4);
                for (int k = 0; k < passes; k++) {
                    d.pass();
                }
                if (d.count(2) == 0 && (best == -2 || d.count(4) <= fewest)) {
                    best = block;
                    fewest = d.count(4);
                }
            }
            KeyDesk d = sampled("signals 150;seed 8;noise 30;sample 10;passes " + passes);
            d.slip(4);
            due("block of " + passes, d.best(0), best);
            due("told of " + passes, d.best(1), fewest);
        }
    }

    @Sentence(promise = 27, words = "of the blocks 2 to 64")
    static void p27_blocks2To64() {
        // Nothing is unlike, so what counts is into how few blocks all places go.
        int[][] due = {{2, 2, 1}, {1, 2, 1}, {3, 3, 1}, {63, 63, 1}, {64, 64, 1}, {65, 33, 2}, {128, 64, 2}, {129, 43, 3}};
        for (int[] one : due) {
            KeyDesk d = sampled(alikeFrom(one[0], "passes 1;block 5"));
            due("block of " + one[0], d.best(0), one[1]);
            due("told of " + one[0], d.best(1), one[2]);
        }
        // By blocks of 1 all three would be mended; by 2 or more they are not.
        KeyDesk d = sampled(alikeFrom(3, "passes 1"));
        d.slip(0);
        d.slip(1);
        d.slip(2);
        due("1 is no block", d.best(0), -2);
    }

    @Sentence(promise = 27, words = "of several the least.")
    static void p27_ofSeveralTheLeast() {
        KeyDesk d = sampled(alikeFrom(20, "passes 1"));
        due("20 to 64 ask once", d.best(0), 20);
        due("told", d.best(1), 1);
        KeyDesk none = sampled(alikeFrom(0, "passes 6"));
        due("of no place all are alike", none.best(0), 2);
        due("with none told", none.best(1), 0);
    }

    @Sentence(promise = 27, words = "BEST what 0: the block, 1: how many PARITIES are told; -2: there is none.")
    static void p27_thereIsNone() {
        KeyDesk d = sampled(alikeFrom(2, "passes 6"));
        d.slip(0);
        d.slip(1);
        due("two in one block always", d.best(0), -2);
        due("none told", d.best(1), -2);
        d.slip(0);
        due("one", d.best(0), 2);
        due("its block, the first of two, five blocks more", d.best(1), 7);
    }

    @Sentence(promise = 27, words = "NONE for others, or but at STAGE 2.")
    static void p27_noneForOthers() {
        KeyDesk d = at(2);
        int[] others = {-1, 2, 3, LEAST_INT, MOST_INT};
        for (int what : others) {
            due("best " + what, d.best(what), NONE);
        }
        due("others ahead of -2", sampledNever().best(2), NONE);
    }

    private static KeyDesk sampledNever() {
        KeyDesk d = sampled(alikeFrom(2, "passes 1"));
        d.slip(0);
        d.slip(1);
        return d;
    }

    @Sentence(promise = 27, words = "or but at STAGE 2.")
    static void p27_onlyAtStage2() {
        for (int stage = 0; stage <= 6; stage++) {
            due("block at stage " + stage, at(stage).best(0) != NONE, stage == 2);
            due("told at stage " + stage, at(stage).best(1) != NONE, stage == 2);
        }
    }

    // ---- promise 28

    private static final String TO_THE_END = "signals 256;noise 30;spy 0;sample 60;block 32;passes 2;hash 2;safe 0;seed ";

    @Sentence(promise = 28, words = "SEEDS m: of the PLANS with seed, seed + 1, .. (m of them), each done by itself from BEGIN to"
        + " the end (SAMPLE, all passes, CHECK, SHORTEN): how many come to STAGE 5, how many to FINAL KEYS that are unlike, the"
        + " LENGTHS of those that come to STAGE 5, together.")
    static void p28_eachByItself() {
        KeyDesk d = desk(TO_THE_END + 300);
        int ended = 0;
        int unlike = 0;
        int lengths = 0;
        for (int m = 1; m <= 20; m++) {
            KeyDesk one = shortened(TO_THE_END + (299 + m));
            if (one.count(0) == 5) {
                ended++;
                unlike += alikeAtLast(one) ? 0 : 1;
                lengths += one.count(7);
            }
            due("ended of " + m, d.seeds(m, 0), ended);
            due("unlike of " + m, d.seeds(m, 1), unlike);
            due("lengths of " + m, d.seeds(m, 2), lengths);
        }
        due("some end, some do not, some are unlike", ended > unlike && ended < 20 && unlike > 0, true);
    }

    @Sentence(promise = 28, words = "of the PLANS with seed, seed + 1, .. (m of them),")
    static void p28_seedsAboveTheGreatest() {
        KeyDesk d = desk(TO_THE_END + 99999);
        int ended = 0;
        int lengths = 0;
        for (int k = 0; k < 20; k++) {
            DeskModel.Desk one = new DeskModel.Desk();
            DeskModel.doAll(one, new int[] {256, 99999 + k, 30, 0, 60, 32, 2, 2, 0});
            ended += one.stage == 5 ? 1 : 0;
            lengths += one.finalA.size();
        }
        due("ended", d.seeds(20, 0), ended);
        due("lengths", d.seeds(20, 2), lengths);
        due("the first one is that of the plan", d.seeds(1, 2), shortened(TO_THE_END + 99999).count(7));
    }

    @Sentence(promise = 28, words = "SEEDS m (1 to 20) what 0: how many come to STAGE 5, 1: how many of these are unlike, 2:"
        + " LENGTHS. NONE without these.")
    static void p28_noneWithoutThese() {
        KeyDesk d = desk("signals 2;seed 4");
        int[] none = {0, -1, 21, 22, LEAST_INT, MOST_INT};
        for (int m : none) {
            due("seeds " + m, d.seeds(m, 0), NONE);
        }
        int[] noWhat = {-1, 3, 4, LEAST_INT, MOST_INT};
        for (int what : noWhat) {
            due("what " + what, d.seeds(1, what), NONE);
        }
        for (int what = 0; what <= 2; what++) {
            due("none ends, what " + what, d.seeds(1, what), 0);
            due("none of twenty ends, what " + what, d.seeds(20, what), 0);
        }
    }

    @Sentence(promise = 28, words = "each done by itself from BEGIN to the end (SAMPLE, all passes, CHECK, SHORTEN):")
    static void p28_atWhateverStage() {
        for (int stage = 0; stage <= 6; stage++) {
            KeyDesk d = at(stage);
            int length = stage == 6 ? 0 : 17;
            if (stage >= 1 && stage <= 3) {
                d.slip(0);
            }
            due("lengths at stage " + stage, d.seeds(1, 2), length);
            due("unlike at stage " + stage, d.seeds(1, 1), 0);
        }
    }

    // ---- promise 29

    /** Whether a plan's seeds come to the end alike by a noise, each tried on a desk of its own. */
    private static boolean allAlike(String rest, int seed, int m, int noise) {
        for (int k = 0; k < m; k++) {
            KeyDesk d = shortened(rest + ";seed " + (seed + k) + ";noise " + noise);
            if (d.count(0) != 5 || !alikeAtLast(d)) {
                return false;
            }
        }
        return true;
    }

    private static int greatest(String rest, int seed, int m) {
        int greatest = -2;
        for (int noise = 0; noise <= 500; noise += 10) {
            greatest = allAlike(rest, seed, m, noise) ? noise : greatest;
        }
        return greatest;
    }

    @Sentence(promise = 29, words = "NOISE m: the greatest noise of 0, 10, .. 500 by which all m of these come to STAGE 5, with"
        + " FINAL KEYS that are alike.")
    static void p29_greatest() {
        String rest = "signals 256;spy 0;sample 80;block 16;passes 3;hash 3;safe 0";
        int[][] tries = {{200, 1}, {200, 2}, {200, 3}, {200, 9}, {3, 7}};
        for (int[] one : tries) {
            KeyDesk d = desk(rest + ";noise 77;seed " + one[0]);
            due("seed " + one[0] + ", m " + one[1], d.noise(one[1]), greatest(rest, one[0], one[1]));
        }
    }

    @Sentence(promise = 29, words = "of 0, 10, .. 500")
    static void p29_from0To500() {
        // Few places, one final bit: even with half of the bits wrong some seeds come to the end.
        String rest = "signals 14;spy 0;sample 0;block 64;passes 1;hash 1;safe 0";
        int[] met = new int[3];
        for (int seed = 0; seed < 40; seed++) {
            int due = greatest(rest, seed, 1);
            int kind = due == 500 ? 0 : due == -2 ? 1 : 2;
            met[kind]++;
            due("seed " + seed, desk(rest + ";noise 9;seed " + seed).noise(1), due);
        }
        due("500, none and others were met", met[0] > 0 && met[1] > 0 && met[2] > 0, true);
        String by0 = "signals 256;spy 0;sample 90;block 32;passes 3;hash 2;safe 0";
        due("by 0 alone", desk(by0 + ";noise 50;seed 3").noise(5), 0);
        due("by 0", allAlike(by0, 3, 5, 0), true);
        due("not by 10", allAlike(by0, 3, 5, 10), false);
    }

    @Sentence(promise = 29, words = "all m of these come to STAGE 5,")
    static void p29_allOfThese() {
        String rest = "signals 256;spy 0;sample 80;block 16;passes 3;hash 3;safe 0";
        int less = 0;
        int last = 501;
        for (int m = 1; m <= 20; m++) {
            int noise = desk(rest + ";seed 200").noise(m);
            due("no more by one more", noise <= last, true);
            less += noise < last ? 1 : 0;
            last = noise;
        }
        due("less and less", less > 2, true);
    }

    @Sentence(promise = 29, words = "NOISE m (1 to 20); -2: by none.")
    static void p29_byNone() {
        KeyDesk d = desk("signals 2;seed 4;noise 0");
        due("one", d.noise(1), -2);
        due("twenty", d.noise(20), -2);
        due("the PLAN's noise stays", d.setting(2), 0);
    }

    @Sentence(promise = 29, words = "NONE for another m.")
    static void p29_noneForAnotherM() {
        int[] none = {0, -1, 21, 22, LEAST_INT, MOST_INT};
        for (int m : none) {
            due("noise " + m, desk("signals 2;seed 4").noise(m), NONE);
        }
    }

    // ---- promise 30

    @Sentence(promise = 30, words = "ROUNDS: the PASSES more till no BIT is unlike.")
    static void p30_tillNoneIsUnlike() {
        for (int seed = 0; seed < 10; seed++) {
            String text = "signals 200;noise 60;spy 0;sample 10;block 12;passes 6;seed " + seed;
            KeyDesk d = sampled(text);
            KeyDesk other = sampled(text);
            int more = 0;
            while (more < 6 && other.count(2) > 0) {
                other.pass();
                more++;
            }
            boolean alike = other.count(2) == 0;
            due("how many of seed " + seed, d.rounds(0), alike ? more : -2);
            due("told of seed " + seed, d.rounds(1), alike ? other.count(4) : -2);
        }
    }

    @Sentence(promise = 30, words = "ROUNDS what 0: how many, 1: how many PARITIES are told in these;")
    static void p30_toldInThese() {
        KeyDesk d = sampled(alikeFrom(20, "block 4;passes 3"));
        due("alike already", d.rounds(0), 0);
        due("none are told", d.rounds(1), 0);
        d.slip(0);
        due("one more", d.rounds(0), 1);
        due("five blocks and two halves", d.rounds(1), 7);
        d.winnow();
        d.slip(1);
        due("what the ledger had is not in these", d.rounds(1), 7);
        due("but it is there", d.count(4) > 0, true);
        d.pass();
        d.slip(2);
        due("in pass 1", d.rounds(0), 1);
        due("three blocks, three halves", d.rounds(1), d.would(1, 1) - d.count(4));
    }

    @Sentence(promise = 30, words = "-2: not with all passes.")
    static void p30_notWithAllPasses() {
        KeyDesk d = sampled(alikeFrom(2, "block 2;passes 6"));
        d.slip(0);
        d.slip(1);
        due("never", d.rounds(0), -2);
        due("nor told", d.rounds(1), -2);
        KeyDesk e = sampled(alikeFrom(9, "block 4;passes 2"));
        e.pass();
        e.slip(3);
        due("with the last one", e.rounds(0), 1);
        e.pass();
        due("all are done, none is unlike", e.rounds(0), 0);
        e.slip(3);
        due("all are done", e.rounds(0), -2);
        due("all are done", e.rounds(1), -2);
    }

    @Sentence(promise = 30, words = "NONE for others, or but at STAGES 2 and 3.")
    static void p30_noneForOthers() {
        int[] others = {-1, 2, 3, LEAST_INT, MOST_INT};
        for (int what : others) {
            due("rounds " + what, at(2).rounds(what), NONE);
        }
    }

    @Sentence(promise = 30, words = "or but at STAGES 2 and 3.")
    static void p30_onlyAtStages2And3() {
        for (int stage = 0; stage <= 6; stage++) {
            boolean may = stage == 2 || stage == 3;
            due("what 0 at stage " + stage, at(stage).rounds(0) != NONE, may);
            due("what 1 at stage " + stage, at(stage).rounds(1) != NONE, may);
        }
    }

    // ---- promise 33

    @Sentence(promise = 33, words = "What 0: STAGE, 1: n, 2: how many BITS are unlike (of the KEYS), 3: PASSES that are done, 4:"
        + " how many PARITIES are in the LEDGER,")
    static void p33_keysAndPasses() {
        KeyDesk d = desk(alikeFrom(20, "block 4;passes 2"));
        due("at stage 0", d.count(0) + " " + d.count(1) + " " + d.count(2) + " " + d.count(3) + " " + d.count(4), "0 0 0 0 0");
        d.begin();
        d.slip(3);
        due("at stage 1", d.count(0) + " " + d.count(1) + " " + d.count(2) + " " + d.count(3) + " " + d.count(4), "1 20 1 0 0");
        d.sample();
        d.pass();
        due("at stage 3", d.count(0) + " " + d.count(1) + " " + d.count(2) + " " + d.count(3) + " " + d.count(4), "3 20 0 1 7");
        d.pass();
        due("behind two", d.count(0) + " " + d.count(1) + " " + d.count(2) + " " + d.count(3) + " " + d.count(4), "3 20 0 2 10");
    }

    @Sentence(promise = 33, words = "5: ERRORS, 6: BOUND (NONE ahead of SAMPLE),")
    static void p33_errorsAndBound() {
        KeyDesk d = desk(planWith(20, "sample 10"));
        due("errors at stage 0", d.count(5), 0);
        due("bound at stage 0", d.count(6), NONE);
        d.begin();
        due("bound at stage 1", d.count(6), NONE);
        List<Integer> gone = drawsOf(d).leaving(20, 10);
        d.slip(gone.get(0));
        d.sample();
        due("errors", d.count(5), 1);
        due("bound", d.count(6), 400);
        d.begin();
        due("errors behind another begin", d.count(5), 0);
        due("bound behind another begin", d.count(6), NONE);
    }

    @Sentence(promise = 33, words = "7: LENGTH (0 but at STAGE 5),")
    static void p33_length() {
        for (int stage = 0; stage <= 6; stage++) {
            due("length at stage " + stage, at(stage).count(7), stage == 5 ? 19 : 0);
        }
        KeyDesk d = at(5);
        d.send(1);
        due("what is used counts on", d.count(7), 19);
        d.begin();
        due("behind a begin", d.count(7), 0);
    }

    @Sentence(promise = 33, words = "8: BITS that were MENDED, 9: SIGNALS that are SPIED, 10: x,")
    static void p33_mendedSpiedAndX() {
        KeyDesk d = sampled(alikeFrom(20, "block 4;passes 2"));
        d.slip(3);
        d.pass();
        d.slip(9);
        due("what slips make right is not MENDED", d.slip(9), 0);
        d.slip(4);
        d.winnow();
        due("by passes and winnows", d.count(8), 2);
        d.begin();
        due("anew", d.count(8), 0);
        KeyDesk spied = begun("signals 90;seed 2;spy 45");
        int many = 0;
        for (int k = 0; k < 90; k++) {
            many += spied.signal(k, 4);
        }
        due("SPIED, sifted or not", spied.count(9), many);
        due("at stage 0", desk("spy 100").count(9), 0);
        Draws draws = new Draws(2);
        for (int k = 0; k < 90; k++) {
            draws.signal(30, 45);
        }
        due("x", spied.count(10), (int) draws.x);
    }

    @Sentence(promise = 33, words = "11: ACTS that can be UNDONE, 12: bytes of the TAPE, 13: SIGNALS (0 at STAGE 0),")
    static void p33_actsTapeAndSignals() {
        KeyDesk d = desk("signals 77");
        due("signals at stage 0", d.count(13), 0);
        due("acts", d.count(11), 0);
        d.begin();
        due("signals", d.count(13), 77);
        due("acts", d.count(11), 1);
        for (int k = 0; k < 15; k++) {
            d.slip(0);
        }
        due("twelve at most", d.count(11), 12);
        due("no bytes", d.count(12), 0);
        d.feed(0, 0, 0, 0, 0);
        due("twenty", d.count(12), 20);
        d.end(3);
        due("three", d.count(12), 3);
        d.plan();
        due("none", d.count(12), 0);
    }

    @Sentence(promise = 33, words = "14: BITS of the FINAL KEY that are used, 15: the last CIPHER, 16: what was READ of it (NONE"
        + " of both without).")
    static void p33_usedCipherAndRead() {
        for (int stage = 0; stage <= 6; stage++) {
            KeyDesk d = at(stage);
            due("used at stage " + stage, d.count(14), 0);
            due("cipher at stage " + stage, d.count(15), NONE);
            due("read at stage " + stage, d.count(16), NONE);
        }
        KeyDesk d = at(5);
        d.send(0);
        due("used", d.count(14), 8);
        due("read of 0", d.count(16), 0);
        int second = d.send(255);
        due("used", d.count(14), 16);
        due("the last cipher", d.count(15), second);
        due("read of 255", d.count(16), 255);
        d.send(3);
        due("one that was refused", d.count(15), second);
        d.begin();
        due("behind a begin", d.count(14) + " " + d.count(15) + " " + d.count(16), "0 -1 -1");
    }

    @Sentence(promise = 33, words = "NONE for others.")
    static void p33_noneForOthers() {
        int[] others = {-1, 17, 18, -2, 256, LEAST_INT, MOST_INT};
        KeyDesk d = at(5);
        for (int what : others) {
            due("count " + what, d.count(what), NONE);
        }
    }

    public static void main(String[] args) {
        Edges.run(AskedEdgesTest.class);
    }
}
