import java.util.ArrayList;
import java.util.List;

/** The sentences of part II and of promises 10 and 12 on passes, halving, steps back and winnowing. */
public final class MendingEdgesTest extends Desks {
    /** Tries of seeds till one lays the orders as a test needs them. */
    private static final int TRIES = 300;

    private static String alikeFrom(int n, String rest) {
        return planWith(n, "sample 0;" + rest);
    }

    private static int at(int[] order, int place) {
        for (int k = 0; k < order.length; k++) {
            if (order[k] == place) {
                return k;
            }
        }
        return -1;
    }

    /** The passes of the ledger's entries from one on. */
    private static String origins(KeyDesk d, int from) {
        StringBuilder s = new StringBuilder();
        for (int k = from; k < d.count(4); k++) {
            s.append(d.ledger(k, 2)).append(' ');
        }
        return s.toString().trim();
    }

    private static void dueLedger(String what, KeyDesk d, int from, String... asked) {
        due(what + ": told", d.count(4), from + asked.length);
        for (int k = 0; k < asked.length; k++) {
            due(what + ": " + (from + k), asked(d, from + k), asked[k]);
        }
    }

    private static String setOf(KeyDesk d, int k) {
        StringBuilder s = new StringBuilder();
        for (int place = 0; place < d.count(1); place++) {
            s.append(d.isIn(k, place));
        }
        return s.toString();
    }

    // ---- the order

    @Sentence(promise = 10, words = "A PASS (the first is 0): its ORDER of the PLACES: as they stand in PASS 0,")
    static void p10_firstOrder() {
        KeyDesk d = sampled(alikeFrom(20, "block 4"));
        int x = d.count(10);
        d.pass();
        for (int k = 0; k < 20; k++) {
            due("order " + k, d.order(0, k), k);
        }
        due("nothing is drawn", d.count(10), x);
    }

    @Sentence(promise = 10, words = "else SHUFFLED: they as they stand, then for k from n - 1 down to 1: the k-th and that of"
        + " a DRAW of k + 1 change.")
    static void p10_shuffled() {
        KeyDesk d = sampled(alikeFrom(20, "block 4;passes 6"));
        Draws draws = drawsOf(d);
        d.pass();
        for (int pass = 1; pass < 6; pass++) {
            d.pass();
            int[] order = draws.shuffled(20);
            for (int k = 0; k < 20; k++) {
                due("order of pass " + pass + " at " + k, d.order(pass, k), order[k]);
            }
            due("x behind pass " + pass, d.count(10), (int) draws.x);
        }
    }

    @Sentence(promise = 10, words = "then for k from n - 1 down to 1:")
    static void p10_fewPlaces() {
        for (int n = 0; n <= 3; n++) {
            KeyDesk d = sampled(alikeFrom(n, "block 4;passes 2"));
            Draws draws = drawsOf(d);
            int[] order = draws.shuffled(n);
            d.pass();
            d.pass();
            for (int k = 0; k < n; k++) {
                due("order of " + n + " at " + k, d.order(1, k), order[k]);
            }
            due("x of " + n, d.count(10), (int) draws.x);
        }
    }

    // ---- the blocks

    @Sentence(promise = 10, words = "BLOCKS of this ORDER, from its begin on, of block * 2 to the PASS PLACES each")
    static void p10_blocksTwiceAsLong() {
        KeyDesk d = sampled(alikeFrom(64, "block 2;passes 6"));
        int told = 0;
        for (int pass = 0; pass < 6; pass++) {
            d.pass();
            int length = 2 << pass;
            due("blocks of pass " + pass, d.count(4) - told, 64 / length);
            for (int k = 0; k < 64 / length; k++) {
                due("places", d.ledger(told + k, 1), length);
                due("from the begin on", d.isIn(told + k, d.order(pass, k * length)), 1);
                due("to the end", d.isIn(told + k, d.order(pass, k * length + length - 1)), 1);
            }
            told = d.count(4);
        }
    }

    @Sentence(promise = 10, words = "(the last one of what is left).")
    static void p10_whatIsLeft() {
        KeyDesk even = sampled(alikeFrom(8, "block 4"));
        even.pass();
        dueLedger("nothing is left", even, 0, "4 0 0", "4 0 4");
        KeyDesk one = sampled(alikeFrom(9, "block 4"));
        one.pass();
        dueLedger("one is left", one, 0, "4 0 0", "4 0 4", "1 0 8");
        KeyDesk three = sampled(alikeFrom(11, "block 4"));
        three.pass();
        dueLedger("three are left", three, 0, "4 0 0", "4 0 4", "3 0 8");
        KeyDesk few = sampled(alikeFrom(3, "block 64;passes 6"));
        for (int pass = 0; pass < 6; pass++) {
            few.pass();
        }
        dueLedger("fewer than a block", few, 0, "3 0 0", "3 1 0", "3 2 0", "3 3 0", "3 4 0", "3 5 0");
        KeyDesk just = sampled(alikeFrom(4, "block 4"));
        just.pass();
        dueLedger("just a block", just, 0, "4 0 0");
    }

    @Sentence(promise = 10, words = "(the last one of what is left).")
    static void p10_noPlace() {
        KeyDesk none = sampled(alikeFrom(0, "block 2;passes 2"));
        due("mended", none.pass(), 0);
        due("nothing is told", none.count(4), 0);
        due("stage", none.count(0), 3);
        due("done", none.count(3), 1);
        due("again", none.pass(), 0);
        due("no more", none.pass(), NONE);
        KeyDesk one = sampled(alikeFrom(1, "block 2;passes 2"));
        one.slip(0);
        due("the only one", one.pass(), 1);
        dueLedger("is told by its block", one, 0, "1 0 0");
        due("alike", one.count(2), 0);
    }

    @Sentence(promise = 10, words = "One behind the other each is ASKED: A tells aloud the PARITY (of how many 1s) of their KEY"
        + " there.")
    static void p10_parityOfA() {
        KeyDesk d = sampled(alikeFrom(40, "block 5"));
        d.slip(0);
        d.slip(1);
        d.pass();
        due("eight blocks", d.count(4), 8);
        int ones = 0;
        for (int k = 0; k < 8; k++) {
            int sum = 0;
            for (int place = 5 * k; place < 5 * k + 5; place++) {
                sum += d.key(0, place);
            }
            due("parity " + k, d.ledger(k, 0), sum % 2);
            ones += sum % 2;
        }
        due("some are 1, some are 0", ones > 0 && ones < 8, true);
    }

    // ---- halving

    @Sentence(promise = 10, words = "Is B's unlike, it is HALVED:")
    static void p10_isItUnlike() {
        for (int slips = 0; slips <= 4; slips++) {
            KeyDesk d = sampled(alikeFrom(4, "block 4"));
            for (int k = 0; k < slips; k++) {
                d.slip(k);
            }
            due("mended of " + slips, d.pass(), slips % 2);
            due("told of " + slips, d.count(4), 1 + 2 * (slips % 2));
            due("unlike of " + slips, d.count(2), slips - slips % 2);
        }
    }

    @Sentence(promise = 10, words = "of a run of r PLACES, as long as r is above 1: the first r / 2 (downwards) are ASKED;")
    static void p10_halvesDownwards() {
        String[][] due = {{"5 0 0", "2 0 0", "1 0 0"}, {"5 0 0", "2 0 0", "1 0 0"}, {"5 0 0", "2 0 0", "1 0 2"},
            {"5 0 0", "2 0 0", "1 0 2", "1 0 3"}, {"5 0 0", "2 0 0", "1 0 2", "1 0 3"}};
        for (int place = 0; place < 5; place++) {
            KeyDesk d = sampled(alikeFrom(5, "block 5"));
            d.slip(place);
            due("mended", d.pass(), 1);
            dueLedger("slip at " + place, d, 0, due[place]);
            due("the right one", d.count(2), 0);
        }
    }

    @Sentence(promise = 10, words = "as long as r is above 1:")
    static void p10_runOfOne() {
        KeyDesk d = sampled(alikeFrom(9, "block 4"));
        d.slip(8);
        due("mended", d.pass(), 1);
        dueLedger("a run of one is not ASKED again", d, 0, "4 0 0", "4 0 4", "1 0 8");
        KeyDesk two = sampled(alikeFrom(2, "block 2"));
        two.slip(1);
        due("mended", two.pass(), 1);
        dueLedger("of two the first", two, 0, "2 0 0", "1 0 0");
    }

    @Sentence(promise = 10, words = "are the PARITIES unlike, the run is these, else it is the others;")
    static void p10_theseOrTheOthers() {
        for (int place = 0; place < 8; place++) {
            KeyDesk d = sampled(alikeFrom(8, "block 8"));
            d.slip(place);
            due("mended", d.pass(), 1);
            int four = place / 4 * 4;
            int two = place / 2 * 2;
            dueLedger("slip at " + place, d, 0, "8 0 0", "4 0 0", "2 0 " + four, "1 0 " + two);
            due("alike", d.count(2), 0);
        }
        // Of three unlike the half with one is the run; the two in the other half stay.
        KeyDesk d = sampled(alikeFrom(8, "block 8"));
        d.slip(0);
        d.slip(1);
        d.slip(6);
        due("one of three", d.pass(), 1);
        due("two stay", d.count(2), 2);
        due("it is 6", d.key(0, 6), d.key(1, 6));
    }

    @Sentence(promise = 10, words = "B's BIT at the one that is left is MENDED (the other one).")
    static void p10_bitOfBIsMended() {
        KeyDesk d = sampled(alikeFrom(8, "block 8"));
        String a = keyOf(d, 0);
        d.slip(5);
        due("unlike", keyOf(d, 1).equals(a), false);
        due("mended", d.pass(), 1);
        due("A's stays", keyOf(d, 0), a);
        due("B's is as A's", keyOf(d, 1), a);
        due("count 8", d.count(8), 1);
    }

    // ---- steps back

    @Sentence(promise = 10, words = "Behind each that is MENDED, as long as there are BLOCKS")
    static void p10_notAheadOfOneThatIsMended() {
        // Two slips behind pass 0, in other blocks of it, but in one of pass 1: none is found.
        KeyDesk d = sampled(alikeFrom(16, "block 4;passes 2"));
        Draws draws = drawsOf(d);
        d.pass();
        int[] order = draws.shuffled(16);
        int other = 1;
        while (order[other] / 4 == order[0] / 4) {
            other++;
        }
        d.slip(order[0]);
        d.slip(order[other]);
        due("blocks of pass 0 are unlike", d.block(0, order[0] / 4, 2), 1);
        due("nothing is mended", d.pass(), 0);
        dueLedger("two blocks alone", d, 4, asked(d, 4), asked(d, 5));
        due("both stay", d.count(2), 2);
    }

    @Sentence(promise = 10, words = "that were ASKED (of all PASSES so far, whole ones) with PARITIES that are unlike now:")
    static void p10_askedOnesAlone() {
        KeyDesk d = sampled(alikeFrom(8, "block 4"));
        d.slip(0);
        d.slip(4);
        due("both", d.pass(), 2);
        dueLedger("the second is ASKED ahead of its halves", d, 0, "4 0 0", "2 0 0", "1 0 0", "4 0 4", "2 0 4", "1 0 4");
    }

    @Sentence(promise = 10, words = "whole ones)")
    static void p10_wholeOnes() {
        // Pass 0 asks 0 to 3 as a half, with 0 and 1 unlike in it; pass 1 mends one of these.
        int met = 0;
        for (int seed = seedWith(24, 0), k = 0; k < TRIES && met < 2; k++, seed = seedWith(24, seed + 1)) {
            KeyDesk d = sampled(planWith(24, seed, "sample 0;block 8;passes 2"));
            int[] order = drawsOf(d).shuffled(24);
            if (at(order, 0) < 16 == at(order, 1) < 16) {
                continue;
            }
            met++;
            d.slip(0);
            d.slip(1);
            d.slip(4);
            due("4 in pass 0", d.pass(), 1);
            dueLedger("pass 0", d, 0, "8 0 0", "4 0 0", "2 0 4", "1 0 4", "8 0 8", "8 0 16");
            due("0 and 1 in pass 1", d.pass(), 2);
            due("the whole block is halved", asked(d, 11), "4 0 0");
            due("told", origins(d, 6), "1 1 1 1 1 0 0 0 1");
        }
        due("met", met, 2);
    }

    @Sentence(promise = 10, words = "as long as there are BLOCKS that were ASKED (of all PASSES so far, whole ones)")
    static void p10_allPassesSoFar() {
        // In pass 2 a block of pass 1 is the shortest that is unlike; those of pass 0 are alike.
        int met = 0;
        for (int seed = seedWith(20, 0), k = 0; k < TRIES && met < 2; k++, seed = seedWith(20, seed + 1)) {
            KeyDesk d = sampled(planWith(20, seed, "sample 0;block 4;passes 3"));
            Draws draws = drawsOf(d);
            int[] first = draws.shuffled(20);
            int[] second = draws.shuffled(20);
            int[] two = pairApart(first, second);
            int trigger = two == null ? -1 : triggerIn(first, second, two);
            if (trigger < 0) {
                continue;
            }
            met++;
            d.pass();
            d.pass();
            d.slip(two[0]);
            d.slip(two[1]);
            d.slip(trigger);
            due("all three", d.pass(), 3);
            due("the last block of pass 1 first", asked(d, 13).substring(0, 3), "2 1");
            due("its first two", d.isIn(13, first[16]) + d.isIn(13, first[17]), 2);
        }
        due("met", met, 2);
    }

    @Sentence(promise = 10, words = "(of all PASSES so far,")
    static void p10_lateInAllPassesSoFar() {
        // In pass 3 one of pass 2 alone is unlike: two places share their blocks in passes 0, 1 and 3.
        int met = 0;
        for (int seed = seedWith(20, 0), k = 0; k < TRIES && met < 2; k++, seed = seedWith(20, seed + 1)) {
            KeyDesk d = sampled(planWith(20, seed, "sample 0;block 2;passes 4"));
            Draws draws = drawsOf(d);
            int[][] orders = {draws.shuffled(20), draws.shuffled(20), draws.shuffled(20)};
            int pair = pairApartInPass2(orders);
            if (pair == NONE) {
                continue;
            }
            met++;
            d.pass();
            d.pass();
            d.pass();
            due("ten, five and three blocks", d.count(4), 18);
            d.slip(pair);
            d.slip(pair + 1);
            d.slip(orders[2][0]);
            due("all three", d.pass(), 3);
            due("asked, four halves, then of pass 2", origins(d, 18).substring(0, 11), "3 3 3 3 3 2");
        }
        due("met", met, 2);
    }

    /** The first of two, in one block of passes 0 and 1, not of 2, both in the last block of 3; or NONE. */
    private static int pairApartInPass2(int[][] orders) {
        for (int pair = 0; pair < 20; pair += 2) {
            boolean first = at(orders[0], pair) / 4 == at(orders[0], pair + 1) / 4;
            boolean second = at(orders[1], pair) / 8 != at(orders[1], pair + 1) / 8;
            boolean third = at(orders[2], pair) >= 16 && at(orders[2], pair + 1) >= 16;
            if (first && second && third) {
                return pair;
            }
        }
        return NONE;
    }

    /** Two of a block of pass 0, one in the last block of pass 1, one not, both last in pass 2. */
    private static int[] pairApart(int[] first, int[] second) {
        for (int k = 16; k < 20; k++) {
            for (int j = 16; j < 20; j++) {
                boolean apart = at(first, second[k]) >= 16 && at(first, second[j]) < 16;
                if (apart && second[k] / 4 == second[j] / 4) {
                    return new int[] {second[k], second[j]};
                }
            }
        }
        return null;
    }

    /** One in the first block of pass 2 whose mending leaves both blocks of pass 1 unlike. */
    private static int triggerIn(int[] first, int[] second, int[] two) {
        for (int k = 0; k < 16; k++) {
            if (second[k] / 4 != two[0] / 4 && at(first, second[k]) < 16) {
                return second[k];
            }
        }
        return -1;
    }

    /** Of a plan with 18 places in fours: places that lie behind the first 8 of pass 1, and one among these. */
    private static KeyDesk stepsBack(int seed, int[] behind, int[] slipped) {
        KeyDesk d = sampled(planWith(18, seed, "sample 0;block 4;passes 2"));
        int[] order = drawsOf(d).shuffled(18);
        for (int place : behind) {
            if (at(order, place) < 8) {
                return null;
            }
        }
        for (int k = 0; k < 8; k++) {
            boolean apart = order[k] < 16;
            for (int place : behind) {
                apart = apart && place / 4 != order[k] / 4;
            }
            if (apart) {
                slipped[0] = order[k];
                d.pass();
                for (int place : behind) {
                    d.slip(place);
                }
                d.slip(order[k]);
                return d;
            }
        }
        return null;
    }

    @Sentence(promise = 10, words = "the shortest one,")
    static void p10_theShortest() {
        int met = 0;
        for (int seed = seedWith(18, 0), k = 0; k < TRIES && met < 2; k++, seed = seedWith(18, seed + 1)) {
            KeyDesk d = stepsBack(seed, new int[] {1, 17}, new int[1]);
            if (d != null) {
                met++;
                due("all three", d.pass(), 3);
                due("its halves", origins(d, 5).substring(0, 15), "1 1 1 1 0 0 0 1");
                due("16 and 17 first", asked(d, 9), "1 0 16");
                due("then 0 to 3", asked(d, 10), "2 0 0");
            }
        }
        due("met", met, 2);
    }

    @Sentence(promise = 10, words = "then the first one, is HALVED.")
    static void p10_thenTheFirstOne() {
        int met = 0;
        for (int seed = seedWith(18, 0), k = 0; k < TRIES && met < 2; k++, seed = seedWith(18, seed + 1)) {
            KeyDesk d = stepsBack(seed, new int[] {13, 2}, new int[1]);
            if (d != null) {
                met++;
                due("all three", d.pass(), 3);
                due("0 to 3 first", asked(d, 9), "2 0 0");
                due("one of these", asked(d, 10), "1 0 2");
                due("then 12 to 15", asked(d, 11), "2 0 12");
            }
        }
        due("met", met, 2);
    }

    @Sentence(promise = 10, words = "of several that of the first PASS,")
    static void p10_thatOfTheFirstPass() {
        // The last block of pass 1 is of four, as are those of pass 0; a slip in it is in both.
        int met = 0;
        for (int seed = seedWith(20, 0), k = 0; k < TRIES && met < 3; k++, seed = seedWith(20, seed + 1)) {
            KeyDesk d = sampled(planWith(20, seed, "sample 0;block 4;passes 3"));
            Draws draws = drawsOf(d);
            int[] first = draws.shuffled(20);
            int[] second = draws.shuffled(20);
            int slip = -1;
            for (int j = 16; j < 20; j++) {
                slip = at(first, second[j]) >= 16 ? second[j] : slip;
            }
            int trigger = slip < 0 ? -1 : triggerIn(first, second, new int[] {slip});
            if (trigger < 0) {
                continue;
            }
            met++;
            d.pass();
            d.pass();
            d.slip(slip);
            d.slip(trigger);
            due("both", d.pass(), 2);
            due("of pass 0, not of pass 1", asked(d, 13), "2 0 " + slip / 4 * 4);
            due("told", origins(d, 8), "2 2 2 2 2 0 0 2");
        }
        due("met", met, 3);
    }

    @Sentence(promise = 10, words = "Behind each that is MENDED,")
    static void p10_alsoBlocksOfThisPass() {
        // In pass 1 block 0 is passed with two unlike in it; a step back mends one, so it is halved then.
        int met = 0;
        for (int seed = seedWith(24, 0), k = 0; k < TRIES && met < 2; k++, seed = seedWith(24, seed + 1)) {
            KeyDesk d = sampled(planWith(24, seed, "sample 0;block 4;passes 2"));
            int[] order = drawsOf(d).shuffled(24);
            List<Integer> slips = fourThatHang(order);
            if (slips.isEmpty()) {
                continue;
            }
            met++;
            d.pass();
            for (int place : slips) {
                d.slip(place);
            }
            due("all four", d.pass(), 4);
            due("told", origins(d, 6), "1 1 1 1 1 0 0 1 1 1 0 0 1");
            due("the first half of block 0", d.isIn(13, order[0]) + d.isIn(13, order[3]) + d.ledger(13, 1), 6);
        }
        due("met", met, 2);
    }

    /** a and b in block 0 of pass 1, c in 1, f in 2; b and f in one block of pass 0, a and c in others. */
    private static List<Integer> fourThatHang(int[] order) {
        for (int i = 0; i < 8; i++) {
            for (int j = 0; j < 8; j++) {
                for (int f = 16; f < 24; f++) {
                    for (int c = 8; c < 16; c++) {
                        boolean hang = order[j] / 4 == order[f] / 4 && order[i] / 4 != order[j] / 4
                            && order[c] / 4 != order[i] / 4 && order[c] / 4 != order[j] / 4;
                        if (hang) {
                            return List.of(order[i], order[j], order[c], order[f]);
                        }
                    }
                }
            }
        }
        return new ArrayList<>();
    }

    // ---- promise 10

    @Sentence(promise = 10, words = "A PASS: how many BITS are MENDED;")
    static void p10_answers() {
        KeyDesk d = sampled(alikeFrom(16, "block 4;passes 6"));
        due("none", d.pass(), 0);
        KeyDesk e = sampled(alikeFrom(16, "block 4"));
        for (int k = 0; k < 4; k++) {
            e.slip(4 * k + k);
        }
        due("four blocks", e.pass(), 4);
        due("together", e.count(8), 4);
        due("in this pass alone", e.pass(), 0);
        due("together", e.count(8), 4);
    }

    @Sentence(promise = 10, words = "(STAGE 3 as soon as a PASS is done; passes at most.)")
    static void p10_passesAtMost() {
        for (int passes = 1; passes <= 6; passes++) {
            KeyDesk d = sampled(alikeFrom(9, "block 2;passes " + passes));
            for (int k = 1; k <= passes; k++) {
                due("pass " + k, d.pass(), 0);
                due("stage", d.count(0), 3);
                due("done", d.count(3), k);
            }
            String before = seen(d);
            due("one more than " + passes, d.pass(), NONE);
            due("nothing happened", seen(d), before);
            d.undo();
            due("undone it can be done again", d.pass(), 0);
        }
    }

    @Sentence(promise = 10, words = "or if passes are done.")
    static void p10_winnowIsNoPass() {
        KeyDesk d = sampled(alikeFrom(9, "block 2;passes 1"));
        d.winnow();
        due("stage", d.count(0), 3);
        due("none is done", d.count(3), 0);
        due("pass", d.pass(), 0);
        due("it is pass 0", d.order(0, 8), 8);
        due("done", d.pass(), NONE);
    }

    @Sentence(promise = 10, words = "NONE, and nothing happens, but at STAGES 2 and 3,")
    static void p10_onlyAtStages2And3() {
        notAtOtherStages(true);
    }

    @Sentence(promise = 10, words = "a PASS (2 or 3),")
    static void p10_atStages2And3() {
        KeyDesk d = sampled(alikeFrom(9, "block 2;passes 2"));
        due("stage 2", d.pass(), 0);
        due("stage 3", d.pass(), 0);
    }

    /** Pass, or winnow, at stages 0, 1, 4, 5 and 6. */
    private static void notAtOtherStages(boolean isPass) {
        for (int stage = 0; stage <= 6; stage++) {
            KeyDesk d = desk(planWith(40, "sample 0;hash 1;passes 6;safe " + (stage == 6 ? 50 : 0)));
            if (stage > 0) {
                d.begin();
            }
            if (stage > 1) {
                d.sample();
            }
            if (stage == 3) {
                d.winnow();
            }
            if (stage > 3) {
                d.check();
            }
            if (stage > 4) {
                d.shorten();
            }
            due("stage", d.count(0), stage);
            String before = seen(d);
            boolean refused = (isPass ? d.pass() : d.winnow()) == NONE;
            due("refused at stage " + stage, refused, stage != 2 && stage != 3);
            due("nothing happens at stage " + stage, seen(d).equals(before), refused);
        }
    }

    // ---- promise 12

    @Sentence(promise = 12, words = "WINNOW: of each eight PLACES, 8 * k to 8 * k + 7, that are all there, the PARITY is"
        + " ASKED;")
    static void p12_thatAreAllThere() {
        int[] places = {0, 1, 7, 8, 9, 15, 16, 17, 23, 24};
        for (int n : places) {
            KeyDesk d = sampled(alikeFrom(n, "block 2"));
            due("mended of " + n, d.winnow(), 0);
            due("told of " + n, d.count(4), n / 8);
            for (int k = 0; k < n / 8; k++) {
                due("eight " + k + " of " + n, asked(d, k), "8 -2 " + 8 * k);
                due("its last", d.isIn(k, 8 * k + 7), 1);
                int parity = 0;
                for (int place = 8 * k; place < 8 * k + 8; place++) {
                    parity ^= d.key(0, place);
                }
                due("parity of A", d.ledger(k, 0), parity);
            }
        }
        KeyDesk d = sampled(alikeFrom(15, "block 2"));
        d.slip(8);
        due("behind the last eight", d.winnow(), 0);
        due("it stays", d.count(2), 1);
    }

    @Sentence(promise = 12, words = "is it unlike, for j from 1 to 3 that of those of the eight (numbered 0 to 7) whose number"
        + " holds bit j - 1:")
    static void p12_thoseWhoseNumberHoldsABit() {
        KeyDesk d = sampled(alikeFrom(16, "block 2"));
        d.slip(8);
        d.winnow();
        dueLedger("first the eights, the three behind the unlike one", d, 0, "8 -2 0", "8 -2 8", "4 -2 9", "4 -2 10",
            "4 -2 12");
        due("bit 0", setOf(d, 2), "0000000001010101");
        due("bit 1", setOf(d, 3), "0000000000110011");
        due("bit 2", setOf(d, 4), "0000000000001111");
        KeyDesk far = sampled(alikeFrom(130, "block 2"));
        far.slip(121);
        due("in the last eight of 130", far.winnow(), 1);
        dueLedger("behind those ahead of it", far, 15, "8 -2 120", "4 -2 121", "4 -2 122", "4 -2 124");
        due("bit 2", setOf(far, 18), "0".repeat(124) + "111100");
        KeyDesk two = sampled(alikeFrom(16, "block 2"));
        two.slip(0);
        two.slip(1);
        due("two unlike are not seen", two.winnow(), 0);
        dueLedger("so no more is told", two, 0, "8 -2 0", "8 -2 8");
        KeyDesk both = sampled(alikeFrom(16, "block 2"));
        both.slip(1);
        both.slip(15);
        due("one of each", both.winnow(), 2);
        dueLedger("one eight behind the other", both, 0, "8 -2 0", "4 -2 1", "4 -2 2", "4 -2 4", "8 -2 8", "4 -2 9",
            "4 -2 10", "4 -2 12");
    }

    @Sentence(promise = 12, words = "of the j with unlike PARITIES 2 to the j - 1, together, is the number of that whose BIT"
        + " of B's is MENDED. (STAGE 3.)")
    static void p12_theNumber() {
        for (int place = 0; place < 16; place++) {
            KeyDesk d = sampled(alikeFrom(17, "block 2"));
            d.slip(place);
            due("mended", d.winnow(), 1);
            due("the right one, " + place, d.count(2), 0);
            due("count 8", d.count(8), 1);
            due("stage", d.count(0), 3);
        }
        // 1, 2 and 4 have all three bits together: 7, which was alike.
        KeyDesk d = sampled(alikeFrom(8, "block 2"));
        d.slip(1);
        d.slip(2);
        d.slip(4);
        due("mended", d.winnow(), 1);
        due("four are unlike", d.count(2), 4);
        due("7 is", d.key(0, 7) ^ d.key(1, 7), 1);
        // 1, 2 and 3 have none together: 0, which was alike.
        KeyDesk e = sampled(alikeFrom(8, "block 2"));
        e.slip(1);
        e.slip(2);
        e.slip(3);
        due("mended", e.winnow(), 1);
        due("0 is", e.key(0, 0) ^ e.key(1, 0), 1);
    }

    @Sentence(promise = 12, words = "(STAGE 3.)")
    static void p12_stage3() {
        KeyDesk d = sampled(alikeFrom(7, "block 2"));
        due("no eight", d.winnow(), 0);
        due("stage", d.count(0), 3);
        due("nothing told", d.count(4), 0);
        int x = d.count(10);
        d.winnow();
        due("nothing is drawn", d.count(10), x);
    }

    @Sentence(promise = 12, words = "WINNOW: how many BITS are MENDED;")
    static void p12_answers() {
        KeyDesk d = sampled(alikeFrom(24, "block 2"));
        d.slip(3);
        d.slip(12);
        d.slip(23);
        due("three eights", d.winnow(), 3);
        due("in this one alone", d.winnow(), 0);
        due("together", d.count(8), 3);
    }

    @Sentence(promise = 12, words = "WINNOW: how many BITS are MENDED;")
    static void p12_noStepsBack() {
        KeyDesk d = sampled(alikeFrom(16, "block 4;passes 2"));
        d.pass();
        d.slip(0);
        d.slip(9);
        d.slip(10);
        due("one is mended", d.winnow(), 1);
        due("blocks of pass 0 are not told again", origins(d, 4), "-2 -2 -2 -2 -2");
        due("two stay", d.count(2), 2);
    }

    @Sentence(promise = 12, words = "WINNOW (2 or 3; 8 times at most behind a BEGIN),")
    static void p12_eightTimesBehindABegin() {
        KeyDesk d = sampled(alikeFrom(8, "block 2;passes 2"));
        for (int k = 0; k < 8; k++) {
            if (k == 4) {
                d.pass();
            }
            due("winnow " + k, d.winnow(), 0);
        }
        String before = seen(d);
        due("a ninth", d.winnow(), NONE);
        due("nothing happened", seen(d), before);
        d.pass();
        due("nor behind a pass", d.winnow(), NONE);
        d.begin();
        d.sample();
        due("behind another begin", d.winnow(), 0);
        d.undo();
        d.undo();
        d.undo();
        due("undone, the begin of before counts", d.winnow(), NONE);
    }

    @Sentence(promise = 12, words = "or if it was done 8 times.")
    static void p12_eightTimes() {
        KeyDesk d = sampled(alikeFrom(3, "block 2"));
        for (int k = 0; k < 8; k++) {
            due("of no eight, winnow " + k, d.winnow(), 0);
        }
        due("counts all the same", d.winnow(), NONE);
    }

    @Sentence(promise = 12, words = "NONE, and nothing happens, but at STAGES 2 and 3,")
    static void p12_onlyAtStages2And3() {
        notAtOtherStages(false);
    }

    public static void main(String[] args) {
        Edges.run(MendingEdgesTest.class);
    }
}
