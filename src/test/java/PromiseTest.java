/** Each promise by itself: ordinary inputs, the edges that the document names, wrong inputs. */
public final class PromiseTest extends Desks {
    /** 21 places, no noise, nothing sampled, pass 0 in fours. */
    private static final String QUIET =
        "signals 40;seed 7;noise 0;sample 0;block 4;passes 3;hash 1;safe 0";
    /** Comes to stage 5 with 14 bits left; five of the sifted bits are unlike behind the sample. */
    private static final String WHOLE =
        "signals 256;seed 5;noise 30;spy 20;sample 20;block 8;passes 4;hash 8;safe 2";
    /** Comes to no place at all. */
    private static final String EMPTY = "signals 2;seed 0;noise 0;sample 0;block 2;passes 1;hash 1;safe 0";

    private static void promise1() {
        KeyDesk d = new KeyDesk();
        due("NONE", KeyDesk.NONE, -1);
        due("1: counts", counts(d), "0 0 0 0 0 0 -1 0 0 0 0 0 0 0 0 -1 -1");
        int[] usual = {64, 1, 30, 0, 8, 8, 4, 16, 10};
        for (int k = 0; k < 9; k++) {
            due("1: setting " + k, d.setting(k), usual[k]);
        }
        due("1: undo", d.undo(), NONE);
        due("1: back", d.back(0), NONE);
        due("1: rank", d.rank(), 0);
        due("1: fixed(NONE)", d.fixed(NONE), 0);
        due("1: spied(NONE)", d.spied(NONE), 0);
    }

    private static void promise2and3() {
        KeyDesk d = new KeyDesk();
        for (int k = 1; k <= 10; k++) {
            due("2: feed", d.feed(1, 2, 3, 4, 5), 20 * k);
        }
        due("2: feed of more than 200", d.feed(1, 2, 3, 4, 5), NONE);
        due("2: none of it came", d.count(12), 200);
        due("3: end 201", d.end(201), NONE);
        due("3: end -1", d.end(-1), NONE);
        due("3: nothing happened", d.count(12), 200);
        due("3: end 181", d.end(181), 181);
        due("2: feed of 201", d.feed(0, 0, 0, 0, 0), NONE);
        due("3: end 180", d.end(180), 180);
        due("2: feed up to 200", d.feed(0, 0, 0, 0, 0), 200);
        due("3: end 200", d.end(200), 200);
        due("3: end 0", d.end(0), 0);
        due("3: end 1 of none", d.end(1), NONE);
        // Of each number the highest byte first, and numbers below 0 as any other.
        due("2: feed", d.feed(0x73656564, 0x20343200 | 0x3b, 0x73616665, 0x20370000, 0xffffffff), 20);
        due("3: end", d.end(14), 14);
        due("2: read", d.plan(), 2);
        due("2: seed", d.setting(1), 42);
        due("2: safe", d.setting(8), 7);
        due("2: a byte above 127 is one byte", planOf("seed 1" + (char) 200), -2 - (8 * 6 + 1));
    }

    private static void promise4() {
        due("4: no text", planOf(""), -3);
        due("4: blanks alone", planOf("   "), -2 - (8 * 3 + 1));
        due("4: one line", planOf("seed 1"), 1);
        due("4: blanks", planOf("  seed  1  ;  block  9  "), 2);
        due("4: no blanks", planOf("seed1;block9"), 2);
        due("4: all", planOf("signals 2;seed 0;noise 0;spy 0;sample 0;block 2;passes 1;hash 1;safe 0"), 9);
        due("4: no WORD", planOf("speed 1"), -3);
        due("4: a part of a WORD", planOf("see"), -3);
        due("4: a longer WORD", planOf("seeds 1"), -3);
        due("4: no small letter", planOf("Seed 1"), -3);
        due("4: a NUL", planOf("\u0000seed 1"), -3);
        due("4: another blank", planOf("seed\t1"), -2 - (8 * 4 + 1));
        due("4: the text ends behind the WORD", planOf("seed"), -2 - (8 * 4 + 1));
        due("4: the text ends behind a ;", planOf("seed 1;"), -2 - (8 * 7 + 1));
        due("4: the text ends behind blanks", planOf("seed 1; "), -2 - (8 * 8 + 1));
        due("4: no NUMBER", planOf("seed x"), -2 - (8 * 5 + 1));
        due("4: below 0", planOf("seed -1"), -2 - (8 * 5 + 1));
        due("4: behind a NUMBER", planOf("seed 1 x"), -2 - (8 * 7 + 1));
        due("4: two NUMBERS", planOf("seed 1 2"), -2 - (8 * 7 + 1));
        due("4: two ;", planOf("seed 1;;block 2"), -2 - (8 * 7 + 1));
        due("4: told already", planOf("seed 1;seed 2"), -2 - (8 * 7 + 3));
        due("4: told already, the number wrong, too", planOf("seed 1;seed 200000"), -2 - (8 * 7 + 3));
        due("4: the first place counts", planOf("seed 100000;seed 1 x"), -2 - (8 * 5 + 2));
        due("4: leading noughts", planOf("seed 0000000000000099999"), 1);
        due("4: very many digits", planOf("seed 99999999999999999999999"), -2 - (8 * 5 + 2));
        due("4: many digits that wrap around", planOf("seed 4294967297"), -2 - (8 * 5 + 2));
        String[] words = {"signals", "seed", "noise", "spy", "sample", "block", "passes", "hash", "safe"};
        int[] least = {2, 0, 0, 0, 0, 2, 1, 1, 0};
        int[] most = {256, 99999, 500, 100, 128, 64, 6, 30, 50};
        for (int k = 0; k < 9; k++) {
            int at = words[k].length() + 1;
            due("4: the least", planOf(words[k] + " " + least[k]), 1);
            due("4: the most", planOf(words[k] + " " + most[k]), 1);
            due("4: above", planOf(words[k] + " " + (most[k] + 1)), -2 - (8 * at + 2));
            if (least[k] > 0) {
                due("4: below", planOf(words[k] + " " + (least[k] - 1)), -2 - (8 * at + 2));
            }
        }
        KeyDesk d = shortened(WHOLE);
        d.image(0);
        String before = counts(d);
        feed(d, "seed 1;block 100");
        due("4: a fault", d.plan(), -2 - (8 * 13 + 2));
        due("4: but for the TAPE nothing happened", counts(d), before);
        due("4: the PLAN stays", d.setting(1), 5);
        due("4: images stay", d.back(0), 5);
        d.begin();
        feed(d, "block 9");
        due("4: a plan", d.plan(), 1);
        due("4: anew", counts(d), "0 0 0 0 0 0 -1 0 0 0 0 0 0 0 0 -1 -1");
        due("4: in place of the one there was", d.setting(1), 1);
        due("4: block", d.setting(5), 9);
        due("4: no images", d.back(0), NONE);
        due("4: nothing to undo", d.undo(), NONE);
    }

    private static void promise5() {
        KeyDesk d = desk("safe 9;hash 8;passes 6;block 7;sample 5;spy 4;noise 3;seed 2;signals 10");
        int[] told = {10, 2, 3, 4, 5, 7, 6, 8, 9};
        for (int k = 0; k < 9; k++) {
            due("5: setting " + k, d.setting(k), told[k]);
        }
        due("5: -1", d.setting(-1), NONE);
        due("5: 9", d.setting(9), NONE);
        due("5: least", d.setting(Integer.MIN_VALUE), NONE);
    }

    /** The signals once more, by a generator of this test's own. */
    private static void promise6and7(String text, int signals, int seed, int noise, int spy) {
        KeyDesk d = desk(text);
        due("7: at stage 0", d.signal(0, 0), NONE);
        int n = d.begin();
        long x = seed;
        int sifted = 0;
        int spied = 0;
        for (int i = 0; i < signals; i++) {
            int[] limits = {2, 2, 100};
            int[] drawn = new int[3];
            for (int k = 0; k < 3; k++) {
                x = next(x);
                drawn[k] = of(x, limits[k]);
            }
            int bit = drawn[0];
            int base = drawn[1];
            int isSpied = drawn[2] < spy ? 1 : 0;
            spied += isSpied;
            if (isSpied == 1) {
                x = next(x);
                if (of(x, 2) != base) {
                    base = 1 - base;
                    x = next(x);
                    bit = of(x, 2);
                }
            }
            x = next(x);
            int baseB = of(x, 2);
            if (baseB != base) {
                x = next(x);
                bit = of(x, 2);
            }
            x = next(x);
            bit ^= of(x, 1000) < noise ? 1 : 0;
            int isSifted = drawn[1] == baseB ? 1 : 0;
            int[] all = {drawn[0], drawn[1], baseB, bit, isSpied, isSifted};
            for (int what = 0; what < 6; what++) {
                due("7: signal " + i + ", " + what, d.signal(i, what), all[what]);
            }
            if (isSifted == 1) {
                due("8: of A", d.key(0, sifted), drawn[0]);
                due("8: of B", d.key(1, sifted), bit);
                sifted++;
            }
        }
        due("6: n", n, sifted);
        due("6: x", d.count(10), (int) x);
        due("6: spied", d.count(9), spied);
        due("6: stage", d.count(0), 1);
        due("6: signals", d.count(13), signals);
        due("6: bound ahead of sample", d.count(6), NONE);
        int[][] none = {{-1, 0}, {signals, 0}, {0, -1}, {0, 6}, {Integer.MAX_VALUE, 0}};
        for (int[] pair : none) {
            due("7: none", d.signal(pair[0], pair[1]), NONE);
        }
    }

    private static long next(long x) {
        return (x * 1103515245L + 12345L) % 2147483648L;
    }

    private static int of(long x, int k) {
        return (int) (x / 65536 % k);
    }

    private static void promise6() {
        promise6and7("seed 1", 64, 1, 30, 0);
        promise6and7("signals 256;seed 99999;noise 500;spy 100", 256, 99999, 500, 100);
        promise6and7("signals 200;seed 0;noise 200;spy 50", 200, 0, 200, 50);
        KeyDesk d = shortened(WHOLE);
        d.send(9);
        due("6: at stage 5, anew", d.begin(), 134);
        due("6: all anew", counts(d), "1 134 6 0 0 0 -1 0 0 43 437169294 10 0 256 0 -1 -1");
        KeyDesk e = desk(EMPTY);
        due("6: no place", e.begin(), 0);
        due("6: stage 1 all the same", e.count(0), 1);
    }

    private static void promise8() {
        KeyDesk d = desk(QUIET);
        due("8: at stage 0", d.key(0, 0), NONE);
        d.begin();
        due("8: the last", d.key(0, 20), d.key(1, 20));
        int[][] none = {{0, -1}, {0, 21}, {1, 21}, {-1, 0}, {2, 0}, {1, Integer.MAX_VALUE}};
        for (int[] pair : none) {
            due("8: none", d.key(pair[0], pair[1]), NONE);
        }
        due("8: the first of A", d.key(0, 0), d.signal(0, 0));
        int was = d.key(1, 3);
        d.slip(3);
        due("8: a slip is B's", d.key(1, 3), 1 - was);
        due("8: not A's", d.key(0, 3), was);
    }

    private static void promise9() {
        KeyDesk d = desk("seed 1");
        due("9: at stage 0", d.sample(), NONE);
        d.begin();
        long x = d.count(10);
        StringBuilder a = new StringBuilder();
        for (int k = 0; k < 37; k++) {
            a.append(d.key(0, k));
        }
        for (int k = 0; k < 8; k++) {
            x = next(x);
            a.deleteCharAt(of(x, 37 - k));
        }
        due("9: errors", d.sample(), 0);
        StringBuilder left = new StringBuilder();
        for (int k = 0; k < d.count(1); k++) {
            left.append(d.key(0, k));
        }
        due("9: they leave, those behind come one on", left.toString(), a.toString());
        due("9: x", d.count(10), (int) x);
        due("9: stage", d.count(0), 2);
        due("9: bound 1000 * 3 / 8", d.count(6), 375);
        due("9: again", d.sample(), NONE);
        due("9: one unlike of 20", sampled(WHOLE).count(5), 1);
        due("9: 1000 * (2 + 2) / 20", sampled(WHOLE).count(6), 200);
        due("9: none told", sampled(QUIET).count(6), 250);
        KeyDesk few = sampled("signals 30;seed 3;noise 0;sample 128");
        due("9: one is left", few.count(1), 1);
        due("9: of those that were told", few.count(6), Math.min(500, 3000 / (desk("signals 30;seed 3;noise 0").begin() - 1)));
        due("9: no place", sampled(EMPTY).count(6), 250);
        due("9: the most", sampled("signals 256;noise 500;sample 10").count(6), 500);
        KeyDesk all = desk("signals 256;seed 5;noise 0;sample 128;block 2");
        int n = all.begin();
        for (int k = 0; k < n; k++) {
            all.slip(k);
        }
        due("9: all unlike", all.sample(), 128);
        KeyDesk some = desk("signals 256;seed 8;noise 60;sample 100");
        some.begin();
        int errors = some.sample();
        int root = (int) Math.sqrt(4 * errors + 4);
        due("9: bound", some.count(6), Math.min(500, 1000 * (errors + 1 + root) / 100));
    }

    private static void promise10() {
        KeyDesk d = desk(QUIET);
        due("10: stage 0", d.pass(), NONE);
        d.begin();
        due("10: stage 1", d.pass(), NONE);
        d.sample();
        d.slip(5);
        due("10: one", d.pass(), 1);
        // Blocks 0-3, 4-7 (unlike: 4 and 5 are asked, then 4, so it is 5), 8-11, 12-15, 16-19, 20.
        due("10: told", d.count(4), 8);
        String[] sets = {"4 0 0", "4 0 4", "2 0 4", "1 0 4", "4 0 8", "4 0 12", "4 0 16", "1 0 20"};
        for (int k = 0; k < 8; k++) {
            due("10: ledger " + k, told(d, k).substring(2), sets[k]);
        }
        due("10: alike", d.count(2), 0);
        due("10: mended", d.count(8), 1);
        due("10: stage", d.count(0), 3);
        due("10: done", d.count(3), 1);
        due("10: none to mend", d.pass(), 0);
        due("10: three blocks more", d.count(4), 11);
        due("10: the third", d.pass(), 0);
        due("10: two blocks more", d.count(4), 13);
        due("10: passes are done", d.pass(), NONE);
        due("10: nothing happened", d.count(3), 3);
        d.check();
        due("10: stage 4", d.pass(), NONE);
        KeyDesk e = sampled(EMPTY);
        due("10: no place", e.pass(), 0);
        due("10: stage 3 all the same", e.count(0), 3);
        due("10: nothing told", e.count(4), 0);
        odd();
        stepBack();
    }

    /** Of three places the first one is asked alone; of an unlike last block what is left. */
    private static void odd() {
        KeyDesk d = sampled("signals 40;seed 7;noise 0;sample 0;block 9");
        d.slip(20);
        due("10: of 18 to 20", d.pass(), 1);
        String[] sets = {"9 0 0", "9 0 9", "3 0 18", "1 0 18", "1 0 19"};
        for (int k = 0; k < 5; k++) {
            due("10: ledger " + k, told(d, k).substring(2), sets[k]);
        }
        due("10: no more", d.count(4), 5);
    }

    /** Two unlike in one block of pass 0: found in pass 1, when one is mended the other is, too. */
    private static void stepBack() {
        for (int second = 1; second < 4; second++) {
            KeyDesk d = sampled(QUIET);
            d.slip(0);
            d.slip(second);
            due("10: an even number is not seen", d.pass(), 0);
            due("10: six blocks", d.count(4), 6);
            int would = d.would(1, 1);
            int mended = d.pass();
            int at = -1;
            int other = -1;
            for (int k = 0; k < 21; k++) {
                at = d.order(1, k) == 0 ? k / 8 : at;
                other = d.order(1, k) == second ? k / 8 : other;
            }
            due("10: both, if they are apart", mended, at == other ? 0 : 2);
            int back = 0;
            for (int k = 6; k < d.count(4); k++) {
                if (d.ledger(k, 2) == 0) {
                    due("10: a half of the block ahead", d.ledger(k, 1), 2 - back);
                    back++;
                }
            }
            due("10: two halves of four", back, at == other ? 0 : 2);
            due("26: told then", would, d.count(4));
        }
    }

    private static void promise11() {
        KeyDesk d = desk(QUIET);
        due("11: stage 0", d.check(), NONE);
        d.begin();
        due("11: stage 1", d.check(), NONE);
        d.sample();
        due("11: stage 2", d.check(), 1);
        due("11: stage 4", d.count(0), 4);
        due("11: again", d.check(), NONE);
        KeyDesk e = sampled("signals 40;seed 7;noise 0;sample 0;block 4;hash 30");
        e.pass();
        for (int k = 0; k < 21; k++) {
            e.slip(k);
        }
        long x = e.count(10);
        int told = e.count(4);
        due("11: unlike", e.check(), 0);
        due("11: given up", e.count(0), 6);
        due("11: all are told all the same", e.count(4), told + 30);
        int[] row = new int[50];
        for (int k = 0; k < 50; k++) {
            x = next(x);
            row[k] = of(x, 2);
        }
        due("11: x", e.count(10), (int) x);
        for (int i = 0; i < 30; i++) {
            int parity = 0;
            int places = 0;
            for (int k = 0; k < 21; k++) {
                due("19: row", e.isIn(told + i, k), row[i + k]);
                parity ^= row[i + k] & e.key(0, k);
                places += row[i + k];
            }
            due("11: parity", e.ledger(told + i, 0), parity);
            due("18: places", e.ledger(told + i, 1), places);
            due("18: of no pass", e.ledger(told + i, 2), NONE);
        }
        due("11: stage 6", e.check(), NONE);
        KeyDesk none = sampled(EMPTY);
        due("11: no place", none.check(), 1);
        due("18: of no place", told(none, 0), "0 0 -1 -1");
    }

    private static void promise12() {
        KeyDesk d = desk("signals 50;seed 3;noise 0;sample 0");
        due("12: stage 0", d.winnow(), NONE);
        int n = d.begin();
        due("12: stage 1", d.winnow(), NONE);
        d.sample();
        for (int place = 0; place < 8; place++) {
            d.slip(place);
            due("12: one unlike is mended", d.winnow(), 1);
            due("12: the right one", d.count(2), 0);
        }
        due("12: stage", d.count(0), 3);
        due("12: mended", d.count(8), 8);
        due("12: eight times at most", d.winnow(), NONE);
        due("12: told: of each eight one, of the first three more each time", d.count(4), 8 * (n / 8 + 3));
        due("12: the eight", told(d, 0).substring(2), "8 -2 0");
        due("12: bit 0", told(d, 1).substring(2), "4 -2 1");
        due("12: bit 1", told(d, 2).substring(2), "4 -2 2");
        due("12: bit 2", told(d, 3).substring(2), "4 -2 4");
        due("12: the next eight", told(d, 4).substring(2), "8 -2 8");
        due("12: whole eights alone", d.count(1) % 8 != 0, true);
        d.slip(n - 1);
        d.begin();
        d.sample();
        d.slip(n - 1);
        due("12: what is left is not asked", d.winnow(), 0);
        due("12: anew behind a begin", d.count(4), n / 8);
        d.slip(1);
        d.slip(2);
        d.slip(4);
        due("12: three unlike", d.winnow(), 1);
        // 1, 2 and 4 are unlike: each bit's parity is, too, so 7 is mended, that was right.
        due("12: 7 is the other one now", d.key(0, 7) ^ d.key(1, 7), 1);
        due("12: so four are, and the last", d.count(2), 5);
        due("12: passes go on", d.pass() >= 0, true);
        due("12: and it behind passes", d.winnow() >= 0, true);
        d.check();
        due("12: stage 4 or 6", d.winnow(), NONE);
        KeyDesk few = sampled(EMPTY);
        due("12: no eight", few.winnow(), 0);
        due("12: stage 3 all the same", few.count(0), 3);
    }

    private static void promise13() {
        KeyDesk d = shortened(WHOLE);
        due("7: length", d.count(7), 14);
        due("13: below", d.send(-1), NONE);
        due("13: above", d.send(256), NONE);
        due("13: nothing happened", d.count(14), 0);
        due("13: no cipher yet", d.count(15), NONE);
        due("13: nothing read yet", d.count(16), NONE);
        int eight = 0;
        for (int k = 0; k < 8; k++) {
            eight = 2 * eight + d.last(0, k);
        }
        due("13: the cipher", d.send(200), 200 ^ eight);
        due("13: used", d.count(14), 8);
        due("13: cipher", d.count(15), 200 ^ eight);
        due("13: read", d.count(16), 200);
        due("13: six are left", d.send(0), NONE);
        d.undo();
        due("13: undone", d.count(14) + " " + d.count(15) + " " + d.count(16), "0 -1 -1");
        due("13: of 0", d.send(0), eight);
        d.undo();
        due("13: of 255", d.send(255), 255 - eight);
        KeyDesk early = desk(WHOLE);
        due("13: stage 0", early.send(1), NONE);
        early.begin();
        due("13: stage 1", early.send(1), NONE);
        KeyDesk more = unlikeEnd();
        int sent = 0;
        for (int k = 0; k < 40 && more.count(7) - more.count(14) >= 8; k++) {
            int a = 0;
            int b = 0;
            for (int i = 0; i < 8; i++) {
                a = 2 * a + more.last(0, 8 * k + i);
                b = 2 * b + more.last(1, 8 * k + i);
            }
            due("13: next", more.send(37 * k % 256), 37 * k % 256 ^ a);
            due("13: read by unlike keys", more.count(16), 37 * k % 256 ^ a ^ b);
            sent++;
        }
        due("13: more than one", sent > 1, true);
        due("13: and no more", more.send(0), NONE);
    }

    /** A desk at stage 5 with final keys that are unlike: a check of one bit lets them by. */
    private static KeyDesk unlikeEnd() {
        for (int seed = 0; seed < 100; seed++) {
            KeyDesk d = sampled("signals 256;seed " + seed + ";noise 0;sample 40;block 64;passes 1;hash 1;safe 0");
            d.slip(0);
            d.check();
            d.shorten();
            for (int i = 0; i < d.count(7); i++) {
                if (d.count(7) >= 24 && d.last(0, i) != d.last(1, i)) {
                    return d;
                }
            }
        }
        due("unlike final keys", "none", "some");
        return new KeyDesk();
    }

    private static void promise14() {
        KeyDesk d = desk(WHOLE);
        due("14: stage 0", d.shorten(), NONE);
        d = sampled(WHOLE);
        due("14: stage 2", d.shorten(), NONE);
        for (int k = 0; k < 4; k++) {
            d.pass();
        }
        due("14: stage 3", d.shorten(), NONE);
        d.check();
        int n = d.count(1);
        int length = n - d.count(4) - 2 * 200 * n / 1000 - 2;
        int told = d.count(4);
        long x = d.count(10);
        due("14: length", d.shorten(), length);
        due("14: stage", d.count(0), 5);
        due("14: nothing told", d.count(4), told);
        int[] row = new int[n + length - 1];
        for (int k = 0; k < row.length; k++) {
            x = next(x);
            row[k] = of(x, 2);
        }
        due("14: x", d.count(10), (int) x);
        for (int i = 0; i < length; i++) {
            int parity = 0;
            for (int k = 0; k < n; k++) {
                parity ^= row[i + k] & d.key(0, k);
            }
            due("22: final", d.last(0, i), parity);
        }
        due("14: again", d.shorten(), NONE);
        KeyDesk none = sampled("seed 1");
        none.check();
        int before = none.count(10);
        due("14: below 1", none.shorten(), 0);
        due("14: given up", none.count(0), 6);
        due("14: no row is drawn then", none.count(10), before);
        due("14: no length", none.count(7), 0);
        due("14: stage 6", none.shorten(), NONE);
        // 21 - 1 - 2 * 250 * 21 / 1000 = 10: safe 9 leaves one, safe 10 none.
        due("14: one", shortOf(9), 1);
        due("14: none", shortOf(10), 0);
    }

    private static int shortOf(int safe) {
        KeyDesk d = sampled("signals 40;seed 7;noise 0;sample 0;hash 1;safe " + safe);
        d.check();
        return d.shorten();
    }

    private static void promise15() {
        KeyDesk d = desk(QUIET);
        due("15: stage 0", d.slip(0), NONE);
        d.begin();
        due("15: stage 1", d.slip(0), 1);
        due("15: another", d.slip(20), 2);
        due("15: back again", d.slip(0), 1);
        due("15: below", d.slip(-1), NONE);
        due("15: behind", d.slip(21), NONE);
        due("15: acts", d.count(11), 4);
        due("15: mends nothing", d.count(8), 0);
        due("15: signals stay", d.signal(0, 3), d.signal(0, 0));
        d.sample();
        due("15: stage 2", d.slip(1), 2);
        due("15: stage stays", d.count(0), 2);
        d.pass();
        due("15: stage 3", d.slip(2), d.count(2));
        d.undo();
        d.check();
        due("15: stage 4 or 6", d.slip(3), NONE);
    }

    private static void promise16() {
        KeyDesk d = desk(WHOLE);
        due("16: none", d.undo(), NONE);
        String[] ahead = new String[10];
        for (int k = 0; k < 9; k++) {
            ahead[k] = counts(d);
            act(d, k);
        }
        due("16: nine acts", d.count(11), 9);
        for (int k = 8; k >= 0; k--) {
            due("16: more", d.undo(), k);
            due("16: as ahead of act " + k, counts(d), ahead[k]);
        }
        due("16: none more", d.undo(), NONE);
        d.begin();
        for (int k = 0; k < 20; k++) {
            d.slip(k);
        }
        due("16: twelve at most", d.count(11), 12);
        due("16: undone", d.undo(), 11);
        d.slip(19);
        due("16: another in its place", d.count(11), 12);
        for (int k = 11; k >= 0; k--) {
            due("16: more", d.undo(), k);
        }
        due("16: none behind twelve", d.undo(), NONE);
        due("16: eight slips stay", d.count(2), 6 + 8 - 2 * unlikeAmong(8));
        d.sample();
        d.sample();
        d.pass();
        d.slip(-1);
        due("16: what did not happen is no act", d.count(11), 2);
        String before = counts(d);
        d.winnow();
        d.undo();
        due("16: a winnow", counts(d), before);
        d.begin();
        d.undo();
        due("16: a begin", counts(d), before);
        KeyDesk e = sampled(QUIET);
        for (int k = 0; k < 8; k++) {
            e.winnow();
        }
        e.undo();
        due("16: the eighth can be done again", e.winnow(), 0);
        due("16: but no ninth", e.winnow(), NONE);
    }

    /** How many of the first bits of WHOLE are unlike, and so are right by a slip. */
    private static int unlikeAmong(int places) {
        KeyDesk d = desk(WHOLE);
        d.begin();
        int many = 0;
        for (int k = 0; k < places; k++) {
            many += d.key(0, k) ^ d.key(1, k);
        }
        return many;
    }

    private static void act(KeyDesk d, int k) {
        switch (k) {
            case 0: d.begin(); break;
            case 1: d.sample(); break;
            case 6: d.check(); break;
            case 7: d.shorten(); break;
            case 8: d.send(77); break;
            default: d.pass();
        }
    }

    private static void promise17() {
        KeyDesk d = sampled(QUIET);
        due("17: no pass is done", d.order(0, 0), NONE);
        d.pass();
        due("17: the next is not", d.order(1, 0), NONE);
        long x = d.count(10);
        d.pass();
        int[] shuffled = new int[21];
        for (int k = 0; k < 21; k++) {
            due("17: as they stand", d.order(0, k), k);
            shuffled[k] = k;
        }
        for (int k = 20; k >= 1; k--) {
            x = next(x);
            int other = of(x, k + 1);
            int place = shuffled[k];
            shuffled[k] = shuffled[other];
            shuffled[other] = place;
        }
        for (int k = 0; k < 21; k++) {
            due("17: shuffled", d.order(1, k), shuffled[k]);
        }
        due("17: x", d.count(10), (int) x);
        int[][] none = {{-1, 0}, {2, 0}, {0, -1}, {0, 21}, {6, 0}, {1, 21}};
        for (int[] pair : none) {
            due("17: none", d.order(pair[0], pair[1]), NONE);
        }
    }

    private static void promise18and19() {
        KeyDesk d = sampled(QUIET);
        due("18: none yet", d.ledger(0, 0), NONE);
        d.pass();
        d.pass();
        due("18: of pass 1", d.ledger(6, 2), 1);
        int parity = 0;
        int least = 21;
        for (int k = 0; k < 8; k++) {
            parity ^= d.key(0, d.order(1, k));
            least = Math.min(least, d.order(1, k));
            due("19: in", d.isIn(6, d.order(1, k)), 1);
        }
        due("18: told", told(d, 6), parity + " 8 1 " + least);
        for (int k = 8; k < 21; k++) {
            due("19: not in", d.isIn(6, d.order(1, k)), 0);
        }
        int[][] none = {{-1, 0}, {9, 0}, {0, -1}, {0, 4}};
        for (int[] pair : none) {
            due("18: none", d.ledger(pair[0], pair[1]), NONE);
        }
        int[][] out = {{-1, 0}, {9, 0}, {0, -1}, {0, 21}};
        for (int[] pair : out) {
            due("19: none", d.isIn(pair[0], pair[1]), NONE);
        }
        d.slip(0);
        due("18: A's parity, whatever B has", d.ledger(0, 0), d.key(0, 0) ^ d.key(0, 1) ^ d.key(0, 2) ^ d.key(0, 3));
    }

    private static void promise20and21() {
        KeyDesk d = sampled(QUIET);
        due("20: none", d.rank(), 0);
        due("21: none fixed", d.fixed(NONE), 0);
        d.slip(5);
        d.pass();
        // 4 and 4+5 and 4+5+6+7 are told: 4 and 5 are fixed, 6+7 is; and 20, asked alone.
        due("20: eight, none of which comes of others", d.rank(), 8);
        due("21: three", d.fixed(NONE), 3);
        int[] fixed = {4, 5, 20};
        for (int place = 0; place < 21; place++) {
            boolean isFixed = place == fixed[0] || place == fixed[1] || place == fixed[2];
            due("21: place " + place, d.fixed(place), isFixed ? 1 : 0);
        }
        due("21: below", d.fixed(-2), NONE);
        due("21: behind", d.fixed(21), NONE);
        d.pass();
        // Three blocks that hold all places: what they are together is told already.
        due("20: two more at most", d.rank(), 10);
        KeyDesk all = sampled("signals 20;seed 7;noise 0;sample 0;hash 30");
        all.check();
        due("20: all", all.rank(), all.count(1));
        due("21: all", all.fixed(NONE), all.count(1));
        KeyDesk none = sampled(EMPTY);
        none.check();
        due("20: of no place", none.rank(), 0);
        due("21: of no place", none.fixed(0), NONE);
        due("21: how many of none", none.fixed(NONE), 0);
    }

    private static void promise22() {
        KeyDesk d = shortened(WHOLE);
        due("22: the last", d.last(0, 13), d.last(1, 13));
        int[][] none = {{0, 14}, {0, -1}, {-1, 0}, {2, 0}, {1, 14}};
        for (int[] pair : none) {
            due("22: none", d.last(pair[0], pair[1]), NONE);
        }
        d.send(1);
        due("22: used bits are there", d.last(0, 0) >= 0, true);
        d.undo();
        d.undo();
        due("22: not at stage 4", d.last(0, 0), NONE);
        KeyDesk e = unlikeEnd();
        e.undo();
        long x = e.count(10);
        int length = e.shorten();
        for (int i = 0; i < length; i++) {
            // Place 0 alone was slipped: the keys are unlike where the row has a 1 for it.
            x = next(x);
            due("22: unlike", e.last(0, i) ^ e.last(1, i), of(x, 2));
        }
    }

    private static void promise23() {
        KeyDesk d = desk("signals 200;seed 4;noise 0;spy 100;sample 0");
        due("23: stage 0", d.spied(0), NONE);
        int n = d.begin();
        int known = d.spied(NONE);
        int sum = 0;
        for (int place = 0; place < n; place++) {
            sum += d.spied(place);
            if (d.spied(place) == 1) {
                due("23: what she knows comes as it was", d.key(1, place), d.key(0, place));
            }
        }
        due("23: how many", known, sum);
        due("23: by half the bases", known > n / 4 && known < 3 * n / 4, true);
        due("23: below", d.spied(-2), NONE);
        due("23: behind", d.spied(n), NONE);
        due("23: without a spy", sampled(QUIET).spied(NONE), 0);
        KeyDesk e = desk(WHOLE);
        e.begin();
        // Signal 0 is spied, and sifted; the place keeps its mark when others leave.
        StringBuilder marks = new StringBuilder();
        for (int place = 0; place < 134; place++) {
            marks.append(e.spied(place));
        }
        long x = e.count(10);
        for (int k = 0; k < 20; k++) {
            x = next(x);
            marks.deleteCharAt(of(x, 134 - k));
        }
        e.sample();
        StringBuilder left = new StringBuilder();
        for (int place = 0; place < 114; place++) {
            left.append(e.spied(place));
        }
        due("23: behind a sample", left.toString(), marks.toString());
        due("23: ten of these", e.spied(NONE), 10);
    }

    private static void promise24() {
        KeyDesk d = sampled(QUIET);
        due("24: no pass", d.block(0, 0, 0), NONE);
        d.pass();
        d.pass();
        due("24: begins", d.block(0, 5, 0), 20);
        due("24: what is left", d.block(0, 5, 1), 1);
        due("24: no more", d.block(0, 6, 0), NONE);
        due("24: of pass 1", d.block(1, 1, 0), 8);
        due("24: twice as long", d.block(1, 1, 1), 8);
        due("24: the last", d.block(1, 2, 1), 5);
        due("24: alike", d.block(1, 1, 2), 0);
        d.slip(d.order(1, 9));
        d.slip(d.order(1, 15));
        due("24: unlike now", d.block(1, 1, 2), 2);
        due("24: not in another", d.block(1, 0, 2), 0);
        int[][] none = {{-1, 0, 0}, {2, 0, 0}, {0, -1, 0}, {1, 3, 0}, {0, 0, -1}, {0, 0, 3}};
        for (int[] three : none) {
            due("24: none", d.block(three[0], three[1], three[2]), NONE);
        }
        KeyDesk e = sampled(EMPTY);
        e.pass();
        due("24: no block of no place", e.block(0, 0, 0), NONE);
    }

    private static void promise25() {
        KeyDesk d = sampled(WHOLE);
        due("25: stage 2", d.secret(false), NONE);
        d = shortened(WHOLE);
        due("25: all of it", d.secret(false), 14);
        due("25: from E", d.secret(true), 14);
        KeyDesk spied = sampled("signals 120;seed 6;noise 0;spy 100;sample 0;hash 1;safe 0");
        int n = spied.count(1);
        for (int k = 0; k < n; k++) {
            if (spied.key(0, k) != spied.key(1, k)) {
                spied.slip(k);
            }
        }
        spied.check();
        int length = spied.shorten();
        due("25: far below what E knows", length > 20, true);
        int rankWithKnown = n - spied.spied(NONE);
        due("25: no more than E does not know", spied.secret(true) <= rankWithKnown, true);
        due("25: else all", spied.secret(false), length);
        due("25: nothing changes", spied.count(4), 1);
        due("20: nothing changes", spied.rank(), 1);
    }

    /** What stays of 11, 7, .. bits, of which the ledger, or the spy, gives some away. */
    private static void secretLess() {
        int[][] due = {{0, 97, 11, 8, 8}, {0, 10, 12, 10, 10}, {20, 4, 2, 2, 1}, {20, 19, 3, 2, 1},
            {20, 42, 23, 22, 21}, {20, 111, 18, 18, 15}};
        for (int[] one : due) {
            KeyDesk d = sampled("signals 256;seed " + one[1] + ";noise 0;spy " + one[0]
                + ";sample 105;block 64;passes 1;hash 1;safe 0");
            d.check();
            due("25: length", d.shorten(), one[2]);
            due("25: secret", d.secret(false), one[3]);
            due("25: secret from E", d.secret(true), one[4]);
        }
    }

    /** A begin writes over what was: undone, or by an image, all of it is there again. */
    private static void comesBack() {
        KeyDesk d = shortened(WHOLE);
        String all = everything(d);
        d.image(0);
        for (int k = 0; k < 5; k++) {
            act(d, k);
        }
        d.slip(3);
        d.winnow();
        d.check();
        for (int k = 0; k < 8; k++) {
            d.undo();
        }
        due("16: all is as ahead of it", everything(d), all);
        d.begin();
        d.slip(0);
        d.sample();
        d.winnow();
        d.pass();
        d.back(0);
        due("32: all is as in it", everything(d), all);
    }

    private static String everything(KeyDesk d) {
        StringBuilder s = new StringBuilder();
        for (int what = 0; what <= 16; what++) {
            s.append(what == 11 ? 0 : d.count(what)).append(' ');
        }
        for (int k = 0; k < 256; k++) {
            for (int what = 0; what < 6; what++) {
                s.append(d.signal(k, what)).append(d.order(what, k)).append(d.ledger(k, what));
            }
            s.append(d.key(0, k)).append(d.key(1, k)).append(d.last(0, k)).append(d.last(1, k)).append(d.spied(k));
            for (int place = 0; place < 256; place++) {
                s.append(d.isIn(k, place));
            }
        }
        return s.append(d.secret(false)).append(d.secret(true)).append(d.fixed(NONE)).toString();
    }

    private static void promise26() {
        KeyDesk d = desk(WHOLE);
        d.begin();
        due("26: stage 1", d.would(0, 0), NONE);
        d.sample();
        String before = counts(d);
        int[][] due = {{5, 0}, {2, 24}, {0, 39}, {0, 43}, {0, 45}, {0, 45}, {0, 45}};
        for (int k = 0; k <= 6; k++) {
            due("26: unlike " + k, d.would(k, 0), due[k][0]);
            due("26: told " + k, d.would(k, 1), due[k][1]);
        }
        due("26: nothing changes", counts(d), before);
        d.pass();
        due("26: from stage 3 on", d.would(1, 1), 39);
        due("26: none more", d.would(0, 1), 24);
        int[][] none = {{-1, 0}, {7, 0}, {0, -1}, {0, 2}};
        for (int[] pair : none) {
            due("26: none", d.would(pair[0], pair[1]), NONE);
        }
        d.check();
        due("26: stage 4 or 6", d.would(0, 0), NONE);
    }

    private static void promise27() {
        KeyDesk d = desk(WHOLE);
        d.begin();
        due("27: stage 1", d.best(0), NONE);
        d.sample();
        String before = counts(d);
        due("27: block", d.best(0), 21);
        due("27: told", d.best(1), 34);
        due("27: nothing changes", counts(d), before);
        due("27: below", d.best(-1), NONE);
        due("27: above", d.best(2), NONE);
        int fewest = 10000;
        int best = 0;
        for (int block = 2; block <= 64; block++) {
            KeyDesk other = sampled(WHOLE.replace("block 8", "block " + block));
            for (int k = 0; k < 4; k++) {
                other.pass();
            }
            if (other.count(2) == 0 && other.count(4) < fewest) {
                fewest = other.count(4);
                best = block;
            }
        }
        due("27: by trying each", best + " " + fewest, d.best(0) + " " + d.best(1));
        d.pass();
        due("27: stage 3", d.best(0), NONE);
        // 21 to 64 all ask one block of the 21 places.
        due("27: the least of several", sampled("signals 40;seed 7;noise 0;sample 0;passes 1").best(0), 21);
        KeyDesk two = sampled("signals 256;seed 7;noise 0;sample 0;passes 1");
        int n = two.count(1);
        due("27: least that needs as few", two.best(0), (n + (n + 63) / 64 - 1) / ((n + 63) / 64));
        for (int seed = 0; seed < 60; seed++) {
            KeyDesk full = sampled("signals 128;seed " + seed + ";noise 0;sample 0;passes 1");
            if (full.count(1) == 64) {
                due("27: the greatest block", full.best(0), 64);
                due("27: one block of all", full.best(1), 1);
            }
        }
        KeyDesk never = sampled("signals 40;seed 7;noise 0;sample 0;passes 1");
        never.slip(0);
        never.slip(1);
        due("27: by two in fours they stay", never.would(6, 0), 2);
        due("27: there is none", never.best(0), -2);
        due("27: none told", never.best(1), -2);
    }

    private static void promise28() {
        KeyDesk d = desk(WHOLE);
        due("28: stage 0 will do", d.seeds(20, 0), 9);
        due("28: unlike", d.seeds(20, 1), 0);
        due("28: lengths", d.seeds(20, 2), 99);
        int[] sums = new int[3];
        for (int k = 0; k < 20; k++) {
            KeyDesk e = shortened(WHOLE.replace("seed 5", "seed " + (5 + k)));
            sums[0] += e.count(0) == 5 ? 1 : 0;
            sums[2] += e.count(7);
        }
        due("28: each by itself", sums[0] + " " + sums[2], "9 99");
        due("28: one", d.seeds(1, 2), 14);
        due("28: nothing changes", counts(d), "0 0 0 0 0 0 -1 0 0 0 0 0 0 0 0 -1 -1");
        int[][] none = {{0, 0}, {21, 0}, {1, -1}, {1, 3}, {-1, 0}};
        for (int[] pair : none) {
            due("28: none", d.seeds(pair[0], pair[1]), NONE);
        }
        KeyDesk rough = new KeyDesk();
        feed(rough, "signals 256;seed 99990;noise 60;sample 40;block 64;passes 1;hash 1;safe 0");
        rough.plan();
        due("28: seeds above the greatest one", rough.seeds(20, 0) > rough.seeds(10, 0), true);
        int unlike = 0;
        for (int k = 0; k < 10; k++) {
            KeyDesk e = shortened("signals 256;seed " + (99990 + k) + ";noise 60;sample 40;block 64;passes 1;hash 1;safe 0");
            unlike += e.count(0) == 5 && !alikeAtLast(e) ? 1 : 0;
        }
        due("28: some come by unlike", rough.seeds(10, 1), unlike);
        due("28: one at least", unlike > 0, true);
    }

    private static void promise29() {
        KeyDesk d = desk(WHOLE);
        due("29: one", d.noise(1), 40);
        due("29: three", d.noise(3), 30);
        due("29: by none", d.noise(20), -2);
        due("29: by 0 alone",
            desk("signals 256;seed 3;sample 60;block 32;passes 2;hash 12;safe 5").noise(8), 0);
        due("29: 0", d.noise(0), NONE);
        due("29: 21", d.noise(21), NONE);
        due("29: nothing changes", d.setting(2), 30);
        due("29: by 40", shortened(WHOLE.replace("noise 30", "noise 40")).count(0), 5);
        for (int noise = 50; noise <= 500; noise += 10) {
            KeyDesk e = shortened(WHOLE.replace("noise 30", "noise " + noise));
            due("29: not by " + noise, e.count(0) == 5 && alikeAtLast(e), false);
        }
    }

    private static void promise30() {
        KeyDesk d = desk(WHOLE);
        due("30: stage 0", d.rounds(0), NONE);
        d = sampled(WHOLE);
        due("30: two", d.rounds(0), 2);
        due("30: told in these", d.rounds(1), 39);
        d.pass();
        due("30: one more", d.rounds(0), 1);
        due("30: told in it", d.rounds(1), 15);
        d.pass();
        due("30: none", d.rounds(0), 0);
        due("30: nothing told", d.rounds(1), 0);
        due("30: below", d.rounds(-1), NONE);
        due("30: above", d.rounds(2), NONE);
        d.pass();
        d.pass();
        due("30: alike behind all passes", d.rounds(0), 0);
        d.slip(0);
        due("30: not with all passes", d.rounds(0), -2);
        due("30: nor told", d.rounds(1), -2);
        d.check();
        due("30: stage 4 or 6", d.rounds(0), NONE);
    }

    private static void promise31and32() {
        KeyDesk d = desk(WHOLE);
        due("32: none is made", d.back(0), NONE);
        due("31: of stage 0", d.image(1), 0);
        d.begin();
        d.sample();
        d.pass();
        due("31: of stage 3", d.image(0), 3);
        String at = counts(d).replaceFirst("^(.*) 3 0 256", "$1 0 0 256");
        d.pass();
        d.check();
        d.shorten();
        due("31: acts stay to be undone", d.count(11), 6);
        due("32: stage", d.back(0), 3);
        due("32: all as in it, nothing to undo", counts(d), at);
        due("32: nothing to undo", d.undo(), NONE);
        due("32: it stays", d.back(0), 3);
        due("32: goes on alike", d.pass(), 2);
        feed(d, "seed");
        due("32: another", d.back(1), 0);
        due("32: as ahead of begin", d.count(13), 0);
        due("32: not the TAPE", d.count(12), 4);
        due("32: not the PLAN", d.setting(1), 5);
        int[] none = {-1, 2, Integer.MIN_VALUE};
        for (int k : none) {
            due("31: none", d.image(k), NONE);
            due("32: none", d.back(k), NONE);
        }
        d.begin();
        d.image(1);
        d.undo();
        due("31: anew", d.back(1), 1);
    }

    private static void promise33() {
        KeyDesk d = desk(WHOLE);
        d.begin();
        due("33: stage 1", counts(d), "1 134 6 0 0 0 -1 0 0 43 437169294 1 0 256 0 -1 -1");
        d.sample();
        due("33: stage 2", counts(d), "2 114 5 0 0 1 200 0 0 43 1144883018 2 0 256 0 -1 -1");
        d.pass();
        due("33: stage 3", counts(d), "3 114 2 1 24 1 200 0 3 43 1144883018 3 0 256 0 -1 -1");
        d.pass();
        d.pass();
        d.pass();
        d.check();
        due("33: stage 4", counts(d), "4 114 0 4 53 1 200 0 5 43 1747014958 7 0 256 0 -1 -1");
        d.shorten();
        due("33: stage 5", counts(d), "5 114 0 4 53 1 200 14 5 43 670906153 8 0 256 0 -1 -1");
        d.send(200);
        feed(d, "abc");
        due("33: sent", counts(d), "5 114 0 4 53 1 200 14 5 43 670906153 9 3 256 8 178 200");
        due("33: below", d.count(-1), NONE);
        due("33: above", d.count(17), NONE);
    }

    public static void main(String[] args) {
        promise1();
        promise2and3();
        promise4();
        promise5();
        promise6();
        promise8();
        promise9();
        promise10();
        promise11();
        promise12();
        promise13();
        promise14();
        promise15();
        promise16();
        comesBack();
        promise17();
        promise18and19();
        promise20and21();
        promise22();
        promise23();
        promise24();
        promise25();
        secretLess();
        promise26();
        promise27();
        promise28();
        promise29();
        promise30();
        promise31and32();
        promise33();
        System.out.println(wrong == 0 ? "each promise is kept" : wrong + " answers are not as due");
        if (wrong != 0) {
            System.exit(1);
        }
    }
}
