/** Any arguments at any stage, on objects used far longer than promised: no call may throw. */
public final class SafetyTest {
    private static final int[] NUMBERS = {Integer.MIN_VALUE, Integer.MIN_VALUE + 1, -129, -3, -2, -1, 0, 1, 2, 3,
        5, 6, 7, 8, 9, 20, 21, 63, 64, 127, 128, 200, 255, 256, 257, 511, 512, 1536, 65536, 1 << 24, 1 << 30,
        Integer.MAX_VALUE - 1, Integer.MAX_VALUE};
    private static final String[] PLANS = {
        "signals 256;noise 500;spy 100;sample 0;block 2;passes 6;hash 30;safe 0",
        "signals 256;noise 0;sample 0;block 64;passes 6;hash 1;safe 0;seed 99999",
        "signals 2;seed 0;noise 0;sample 0;block 2;passes 1;hash 1;safe 0",
        "signals 6;seed 0;noise 0;sample 128;block 2;passes 2;hash 30",
        "signals 256;noise 100;spy 50;sample 128;block 3;passes 6;hash 2;safe 0"};

    private static int any(Dice dice) {
        return dice.oneIn(2) ? dice.below(40) : dice.of(NUMBERS);
    }

    private static void tell(KeyDesk d, String text) {
        d.end(0);
        for (int i = 0; i < text.length(); i += 20) {
            int[] n = new int[5];
            for (int k = 0; k < 20 && i + k < text.length(); k++) {
                n[k / 4] |= text.charAt(i + k) << 24 - 8 * (k % 4);
            }
            d.feed(n[0], n[1], n[2], n[3], n[4]);
        }
        d.end(text.length());
        if (d.plan() < 1) {
            throw new IllegalStateException("no plan: " + text);
        }
    }

    private static int call(KeyDesk d, Dice dice, int kind) {
        int a = any(dice);
        int b = any(dice);
        switch (kind) {
            case 0: return d.feed(a, b, any(dice), any(dice), any(dice));
            case 1: return d.end(a);
            case 2: return dice.oneIn(20) ? d.plan() : 0;
            case 3: return d.setting(a);
            case 4: return dice.oneIn(12) ? d.begin() : 0;
            case 5: return d.signal(a, b);
            case 6: return d.key(a, b);
            case 7: return d.sample();
            case 8: return d.pass();
            case 9: return dice.oneIn(12) ? d.check() : 0;
            case 10: return d.winnow();
            case 11: return d.send(a);
            case 12: return d.shorten();
            case 13: return d.slip(a);
            case 14: return dice.oneIn(3) ? d.undo() : 0;
            case 15: return d.order(a, b);
            case 16: return d.ledger(a, b);
            case 17: return d.isIn(a, b);
            case 18: return d.rank();
            case 19: return d.fixed(a);
            case 20: return d.last(a, b);
            case 21: return d.spied(a);
            case 22: return d.block(a, b, any(dice));
            case 23: return d.secret(dice.oneIn(2));
            case 24: return d.would(a, b);
            case 25: return dice.oneIn(10) ? d.best(a) : 0;
            case 26: return dice.oneIn(20) ? d.seeds(a, b) : 0;
            case 27: return dice.oneIn(40) ? d.noise(a) : 0;
            case 28: return d.rounds(a);
            case 29: return d.image(a);
            case 30: return dice.oneIn(6) ? d.back(a) : 0;
            default: return d.count(a);
        }
    }

    /** The most that a ledger can come to: all slipped ahead of each pass and each winnow. */
    private static void fullLedger(String plan) {
        KeyDesk d = new KeyDesk();
        tell(d, plan);
        d.begin();
        d.sample();
        for (int round = 0; round < 14; round++) {
            for (int place = 0; place < 256; place++) {
                d.slip(place);
            }
            if (round % 2 == 0) {
                d.pass();
            } else {
                d.winnow();
            }
            d.image(round % 2);
            d.would(6, 0);
            d.rounds(0);
        }
        d.fixed(KeyDesk.NONE);
        d.back(0);
        d.check();
        d.rank();
        d.undo();
    }

    public static void main(String[] args) {
        for (int run = 0; run < 120; run++) {
            Dice dice = new Dice(run);
            KeyDesk d = new KeyDesk();
            for (int k = 0; k < 1500; k++) {
                if (k % 300 == 0 && run % 4 != 0) {
                    tell(d, PLANS[dice.below(PLANS.length)]);
                }
                call(d, dice, dice.below(32));
            }
        }
        for (String plan : PLANS) {
            fullLedger(plan);
        }
        System.out.println("no call has thrown");
    }
}
