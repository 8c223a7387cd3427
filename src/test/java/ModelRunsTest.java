/** Runs of calls, each answer compared with that of the model. */
public final class ModelRunsTest {
    private static String somePlan(Dice dice) {
        StringBuilder text = new StringBuilder();
        boolean[] told = new boolean[9];
        for (int k = 0; k < 9; k++) {
            int word = dice.below(9);
            if (told[word]) {
                continue;
            }
            told[word] = true;
            int[] range = DeskModel.RANGES[word];
            int number = dice.between(range[0], range[1]);
            if (dice.oneIn(2)) {
                number = Math.min(range[1], range[0] + dice.below(16));
            }
            if (text.length() > 0) {
                text.append(dice.oneIn(6) ? " ; " : ";");
            }
            text.append(DeskModel.WORDS[word]).append(dice.oneIn(6) ? "  " : dice.oneIn(6) ? "" : " ");
            text.append(dice.oneIn(9) ? "00" : "").append(number);
        }
        return text.toString();
    }

    private static String quietPlan(Dice dice) {
        return "signals " + dice.between(100, 256) + ";seed " + dice.below(1000) + ";noise "
            + dice.of(0, 10, 30, 60, 120) + ";spy " + dice.of(0, 0, 10, 60, 100) + ";sample " + dice.of(0, 4, 30)
            + ";block " + dice.of(2, 3, 5, 8, 16, 33) + ";passes " + dice.between(1, 6) + ";hash "
            + dice.between(1, 6) + ";safe " + dice.below(4);
    }

    /** Leaves as many bits as can be: final keys that the ledger and the spy know a part of. */
    private static String tightPlan(Dice dice) {
        return "signals 256;seed " + dice.below(1000) + ";noise " + dice.of(0, 0, 10, 20) + ";spy "
            + dice.of(0, 5, 20, 100) + ";sample " + dice.of(0, 90, 105, 115) + ";block " + dice.of(16, 33, 64)
            + ";passes " + dice.between(1, 2) + ";hash " + dice.between(1, 2) + ";safe 0";
    }

    private static String plan(Dice dice) {
        return dice.oneIn(3) ? somePlan(dice) : dice.oneIn(2) ? tightPlan(dice) : quietPlan(dice);
    }

    private static String spoilt(Dice dice, String text) {
        StringBuilder s = new StringBuilder(text);
        for (int k = dice.below(3); k >= 0 && s.length() > 0; k--) {
            int at = dice.below(s.length());
            switch (dice.below(4)) {
                case 0: s.deleteCharAt(at); break;
                case 1: s.insert(at, "; 9ax\u0000Z\u00e9".charAt(dice.below(8))); break;
                case 2: s.setLength(at); break;
                default: s.append(dice.oneIn(2) ? ";" : ";seed 5");
            }
        }
        return s.length() > 200 ? s.substring(0, 200) : s.toString();
    }

    private static boolean run(int number) {
        Dice dice = new Dice(number);
        Pair pair = new Pair();
        if (!dice.oneIn(12)) {
            pair.plan(plan(dice));
        }
        // Ahead enough for the later stages to be met often.
        if (dice.oneIn(2)) {
            pair.same("begin()", pair.desk.begin(), pair.model.begin());
            pair.same("sample()", pair.desk.sample(), pair.model.sample());
        }
        int dear = 0;
        for (int k = 0; k < 150 && !pair.wrong; k++) {
            int kind = dice.below(60);
            if (kind < 20) {
                pair.act(dice);
            } else if (kind < 56) {
                pair.look(dice);
            } else if (kind < 58) {
                pair.imageOrBack(dice);
            } else if (kind == 58) {
                if (dear < 1 && dice.oneIn(4)) {
                    dear++;
                    pair.tryOut(dice);
                }
            } else if (dice.oneIn(6)) {
                pair.plan(dice.oneIn(2) ? spoilt(dice, quietPlan(dice)) : plan(dice));
            }
            if (k % 40 == 39) {
                pair.lookAtAll();
            }
        }
        return !pair.wrong;
    }

    private static boolean texts() {
        Dice dice = new Dice(77);
        Pair pair = new Pair();
        for (int k = 0; k < 30000 && !pair.wrong; k++) {
            String text = somePlan(dice);
            pair.calls.clear();
            pair.plan(dice.oneIn(4) ? text : spoilt(dice, text));
            for (int i = -1; i <= 9; i++) {
                pair.same("setting(" + i + ")", pair.desk.setting(i), pair.model.setting(i));
            }
        }
        return !pair.wrong;
    }

    /** The middle of things: whole runs to the end by the desk's own calls. */
    private static boolean whole(int number) {
        Dice dice = new Dice(1000 + number);
        Pair pair = new Pair();
        pair.plan(dice.oneIn(2) ? tightPlan(dice) : quietPlan(dice));
        pair.same("begin()", pair.desk.begin(), pair.model.begin());
        pair.same("sample()", pair.desk.sample(), pair.model.sample());
        for (int what = 0; what < 2; what++) {
            pair.same("best", pair.desk.best(what), pair.model.best(what));
        }
        for (int p = 0; p < 7; p++) {
            if (dice.oneIn(4)) {
                int place = dice.below(Math.max(1, pair.desk.count(1)));
                pair.same("slip", pair.desk.slip(place), pair.model.slip(place));
            }
            if (dice.oneIn(9)) {
                pair.same("winnow", pair.desk.winnow(), pair.model.winnow());
            }
            for (int what = 0; what < 2; what++) {
                pair.same("rounds", pair.desk.rounds(what), pair.model.rounds(what));
                pair.same("would", pair.desk.would(p, what), pair.model.would(p, what));
            }
            pair.same("pass", pair.desk.pass(), pair.model.pass());
        }
        pair.same("check", pair.desk.check(), pair.model.check());
        pair.same("shorten", pair.desk.shorten(), pair.model.shorten());
        pair.lookAtAll();
        otherwise(pair, dice);
        for (int k = 0; k < 20; k++) {
            pair.same("send", pair.desk.send(k * 12), pair.model.send(k * 12));
            pair.same("cipher", pair.desk.count(15), pair.model.count(15));
            pair.same("read", pair.desk.count(16), pair.model.count(16));
            pair.same("used", pair.desk.count(14), pair.model.count(14));
        }
        for (int k = 0; k < 13; k++) {
            pair.same("undo", pair.desk.undo(), pair.model.undo());
        }
        pair.lookAtAll();
        return !pair.wrong;
    }

    /** Small blocks, and before each pass pairs that blocks of the passes ahead do not see. */
    private static boolean stepsBack(int number) {
        Dice dice = new Dice(5000 + number);
        Pair pair = new Pair();
        pair.plan("signals " + dice.of(20, 40, 80, 256) + ";seed " + dice.below(1000) + ";noise 0;sample 0;block "
            + dice.between(2, 5) + ";passes 6");
        pair.same("begin", pair.desk.begin(), pair.model.begin());
        pair.same("sample", pair.desk.sample(), pair.model.sample());
        for (int pass = 0; pass < 6; pass++) {
            for (int k = dice.below(6); k > 0 && pair.desk.count(1) > 1; k--) {
                int place = dice.below(pair.desk.count(1) - 1);
                pair.same("slip", pair.desk.slip(place), pair.model.slip(place));
                if (!dice.oneIn(4)) {
                    pair.same("slip", pair.desk.slip(place + 1), pair.model.slip(place + 1));
                }
            }
            pair.same("pass", pair.desk.pass(), pair.model.pass());
            pair.same("told", pair.desk.count(4), pair.model.count(4));
        }
        for (int k = 0; k < pair.desk.count(4); k++) {
            for (int what = 0; what < 4; what++) {
                pair.same("ledger(" + k + ", " + what + ")", pair.desk.ledger(k, what), pair.model.ledger(k, what));
            }
        }
        return !pair.wrong;
    }

    /** Begins anew, and comes back by an image and by undoing: nothing of the old may be lost. */
    private static void otherwise(Pair pair, Dice dice) {
        pair.same("image", pair.desk.image(0), pair.model.image(0));
        for (int round = 0; round < 2; round++) {
            int acts = 5;
            pair.same("begin", pair.desk.begin(), pair.model.begin());
            pair.same("slip", pair.desk.slip(0), pair.model.slip(0));
            pair.same("sample", pair.desk.sample(), pair.model.sample());
            pair.same("winnow", pair.desk.winnow(), pair.model.winnow());
            pair.same("check", pair.desk.check(), pair.model.check());
            if (pair.desk.count(0) == 4) {
                acts++;
                pair.same("shorten", pair.desk.shorten(), pair.model.shorten());
            }
            if (round == 0) {
                pair.same("back", pair.desk.back(0), pair.model.back(0));
            } else if (pair.desk.count(1) > 0) {
                for (int k = 0; k < acts; k++) {
                    pair.same("undo", pair.desk.undo(), pair.model.undo());
                }
            }
            pair.lookAtAll();
        }
        int m = dice.between(1, 20);
        for (int what = 0; what < 3; what++) {
            pair.same("seeds", pair.desk.seeds(m, what), pair.model.seeds(m, what));
        }
        pair.same("back", pair.desk.back(0), pair.model.back(0));
    }

    public static void main(String[] args) {
        int runs = args.length > 0 ? Integer.parseInt(args[0]) : 400;
        boolean good = texts();
        for (int number = 0; number < runs && good; number++) {
            good = run(number);
        }
        for (int number = 0; number < runs / 4 && good; number++) {
            good = whole(number);
        }
        for (int number = 0; number < runs && good; number++) {
            good = stepsBack(number);
        }
        System.out.println(good ? "the model and the class agree" : "the model and the class differ");
        if (!good) {
            System.exit(1);
        }
    }
}
