import java.util.ArrayList;
import java.util.List;

/** A KeyDesk and the model of it: each call goes to both, and the answers are compared. */
final class Pair {
    static final int[] ODD_NUMBERS = {-2, -1, Integer.MIN_VALUE, Integer.MAX_VALUE, 256, 511, 1 << 28};

    final KeyDesk desk = new KeyDesk();
    final DeskModel model = new DeskModel();
    final List<String> calls = new ArrayList<>();
    boolean wrong = false;

    void same(String call, int got, int due) {
        calls.add(call + " = " + due);
        if (got != due && !wrong) {
            wrong = true;
            System.out.println(String.join("\n", calls));
            System.out.println("^ answered " + got + ", due is " + due);
        }
    }

    void text(byte[] text) {
        for (int i = 0; i < text.length; i += 20) {
            int[] n = new int[5];
            for (int k = 0; k < 20; k++) {
                int b = i + k < text.length ? text[i + k] & 255 : 7;
                n[k / 4] = n[k / 4] << 8 | b;
            }
            same("feed", desk.feed(n[0], n[1], n[2], n[3], n[4]), model.feed(n));
        }
        same("end(" + text.length + ")", desk.end(text.length), model.end(text.length));
    }

    void text(String text) {
        byte[] bytes = new byte[text.length()];
        for (int i = 0; i < bytes.length; i++) {
            bytes[i] = (byte) text.charAt(i);
        }
        calls.add("text '" + text + "'");
        text(bytes);
    }

    void plan(String text) {
        text(text);
        same("plan()", desk.plan(), model.plan());
    }

    void act(Dice dice) {
        switch (dice.below(12)) {
            case 0:
                if (dice.oneIn(8) || desk.count(0) == 0) {
                    same("begin()", desk.begin(), model.begin());
                }
                break;
            case 1: case 2: same("sample()", desk.sample(), model.sample()); break;
            case 3: case 4: case 5: same("pass()", desk.pass(), model.pass()); break;
            case 6: if (dice.oneIn(3)) {
                    same("check()", desk.check(), model.check());
                }
                break;
            case 7: same("shorten()", desk.shorten(), model.shorten()); break;
            case 8:
                if (dice.oneIn(3)) {
                    same("winnow()", desk.winnow(), model.winnow());
                }
                break;
            case 9: {
                int v = some(dice, 256);
                same("send(" + v + ")", desk.send(v), model.send(v));
                break;
            }
            case 10: {
                int place = some(dice, desk.count(1));
                if (dice.oneIn(2)) {
                    same("slip(" + place + ")", desk.slip(place), model.slip(place));
                }
                break;
            }
            default:
                if (dice.oneIn(2)) {
                    same("undo()", desk.undo(), model.undo());
                }
        }
    }

    void imageOrBack(Dice dice) {
        int k = dice.of(0, 0, 1, 1, 2, -1);
        if (dice.oneIn(2)) {
            same("image(" + k + ")", desk.image(k), model.image(k));
        } else {
            same("back(" + k + ")", desk.back(k), model.back(k));
        }
    }

    /** Mostly a number below k, now and then its edge or one that is far off. */
    static int some(Dice dice, int k) {
        if (dice.oneIn(12)) {
            return dice.of(ODD_NUMBERS);
        }
        return dice.oneIn(12) ? k : dice.below(Math.max(1, k));
    }

    void look(Dice dice) {
        int n = desk.count(1);
        int what = some(dice, 6);
        switch (dice.below(16)) {
            case 0: {
                int signal = some(dice, Math.max(1, desk.count(13)));
                same("signal(" + signal + ", " + what + ")", desk.signal(signal, what), model.signal(signal, what));
                break;
            }
            case 1: {
                int side = some(dice, 2);
                int place = some(dice, n);
                same("key(" + side + ", " + place + ")", desk.key(side, place), model.key(side, place));
                break;
            }
            case 2: {
                int pass = some(dice, Math.max(1, desk.count(3)));
                int k = some(dice, n);
                same("order(" + pass + ", " + k + ")", desk.order(pass, k), model.order(pass, k));
                break;
            }
            case 3: {
                int k = some(dice, desk.count(4));
                what = some(dice, 4);
                same("ledger(" + k + ", " + what + ")", desk.ledger(k, what), model.ledger(k, what));
                break;
            }
            case 4: {
                int k = some(dice, desk.count(4));
                int place = some(dice, n);
                same("isIn(" + k + ", " + place + ")", desk.isIn(k, place), model.isIn(k, place));
                break;
            }
            case 5: same("rank()", desk.rank(), model.rank()); break;
            case 6: {
                int place = dice.oneIn(2) ? -1 : some(dice, n);
                same("fixed(" + place + ")", desk.fixed(place), model.fixed(place));
                break;
            }
            case 7: {
                int side = some(dice, 2);
                int i = some(dice, desk.count(7));
                same("last(" + side + ", " + i + ")", desk.last(side, i), model.last(side, i));
                break;
            }
            case 8: {
                int place = dice.oneIn(2) ? -1 : some(dice, n);
                same("spied(" + place + ")", desk.spied(place), model.spied(place));
                break;
            }
            case 9: {
                int pass = some(dice, Math.max(1, desk.count(3)));
                int k = some(dice, Math.max(1, n / Math.max(1, desk.setting(5))));
                what = some(dice, 3);
                same("block(" + pass + ", " + k + ", " + what + ")", desk.block(pass, k, what),
                    model.block(pass, k, what));
                break;
            }
            case 10: {
                boolean fromSpy = dice.oneIn(2);
                same("secret(" + fromSpy + ")", desk.secret(fromSpy), model.secret(fromSpy));
                break;
            }
            case 11: {
                int k = some(dice, 7);
                what = some(dice, 2);
                same("would(" + k + ", " + what + ")", desk.would(k, what), model.would(k, what));
                break;
            }
            case 12:
                what = some(dice, 2);
                same("rounds(" + what + ")", desk.rounds(what), model.rounds(what));
                break;
            case 13:
                if (dice.oneIn(4)) {
                    what = some(dice, 2);
                    same("best(" + what + ")", desk.best(what), model.best(what));
                }
                break;
            case 14: {
                int k = some(dice, 9);
                same("setting(" + k + ")", desk.setting(k), model.setting(k));
                break;
            }
            default:
                what = some(dice, 17);
                same("count(" + what + ")", desk.count(what), model.count(what));
        }
    }

    void tryOut(Dice dice) {
        int m = dice.of(-1, 0, 1, 1, 2, 3, 20, 21);
        if (dice.oneIn(2)) {
            int what = some(dice, 3);
            same("seeds(" + m + ", " + what + ")", desk.seeds(m, what), model.seeds(m, what));
        } else {
            same("noise(" + m + ")", desk.noise(m), model.noise(m));
        }
    }

    /** All that can be asked of the object without a trial. */
    void lookAtAll() {
        for (int what = -1; what <= 17; what++) {
            same("count(" + what + ")", desk.count(what), model.count(what));
        }
        int n = desk.count(1);
        for (int signal = -1; signal <= desk.count(13); signal++) {
            for (int what = -1; what <= 6; what++) {
                same("signal(" + signal + ", " + what + ")", desk.signal(signal, what), model.signal(signal, what));
            }
        }
        for (int side = -1; side <= 2; side++) {
            for (int i = -1; i <= n; i++) {
                same("key(" + side + ", " + i + ")", desk.key(side, i), model.key(side, i));
                same("last(" + side + ", " + i + ")", desk.last(side, i), model.last(side, i));
            }
        }
        for (int pass = -1; pass <= 6; pass++) {
            for (int k = -1; k <= n; k++) {
                same("order(" + pass + ", " + k + ")", desk.order(pass, k), model.order(pass, k));
                for (int what = -1; what <= 3; what++) {
                    same("block(" + pass + ", " + k + ", " + what + ")", desk.block(pass, k, what),
                        model.block(pass, k, what));
                }
            }
        }
        for (int k = -1; k <= desk.count(4); k++) {
            for (int what = -1; what <= 4; what++) {
                same("ledger(" + k + ", " + what + ")", desk.ledger(k, what), model.ledger(k, what));
            }
            for (int place = -1; place <= n; place++) {
                same("isIn(" + k + ", " + place + ")", desk.isIn(k, place), model.isIn(k, place));
            }
        }
        same("rank()", desk.rank(), model.rank());
        for (int place = -2; place <= n; place++) {
            same("fixed(" + place + ")", desk.fixed(place), model.fixed(place));
            same("spied(" + place + ")", desk.spied(place), model.spied(place));
        }
        same("secret(false)", desk.secret(false), model.secret(false));
        same("secret(true)", desk.secret(true), model.secret(true));
    }
}
