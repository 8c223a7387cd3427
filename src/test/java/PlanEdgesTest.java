/** The sentences of part I and of promises 1 to 5: the tape and the plan. */
public final class PlanEdgesTest extends Desks {
    private static final String[] WORDS =
        {"signals", "seed", "noise", "spy", "sample", "block", "passes", "hash", "safe"};
    private static final int[] LEAST = {2, 0, 0, 0, 0, 2, 1, 1, 0};
    private static final int[] USUAL = {64, 1, 30, 0, 8, 8, 4, 16, 10};
    private static final String NEW = "0 0 0 0 0 0 -1 0 0 0 0 0 0 0 0 -1 -1";
    private static final int LEAST_INT = Integer.MIN_VALUE;
    private static final int MOST_INT = Integer.MAX_VALUE;

    private static String settings(KeyDesk d) {
        StringBuilder s = new StringBuilder();
        for (int k = 0; k < 9; k++) {
            s.append(d.setting(k)).append(' ');
        }
        return s.toString().trim();
    }

    // ---- promise 1

    @Sentence(promise = 1, words = "STAGE 0, the PLAN without LINES.")
    static void p01_newObject() {
        due("counts", counts(new KeyDesk()), NEW);
        due("settings", settings(new KeyDesk()), "64 1 30 0 8 8 4 16 10");
        due("begin by what the words are without lines", new KeyDesk().begin(), 37);
        due("and by no others", new KeyDesk().begin(), desk("signals 64;seed 1;noise 30;spy 0").begin());
    }

    @Sentence(promise = 1, words = "The constants: `NONE = -1`: None.")
    static void p01_none() {
        due("NONE", KeyDesk.NONE, -1);
    }

    // ---- promise 2

    @Sentence(promise = 2, words = "Twenty bytes come behind the TAPE,")
    static void p02_behindWhatIsThere() {
        KeyDesk d = new KeyDesk();
        feed(d, "seed 1");
        due("behind six", d.feed(0x32333b73, 0x70792031, 0x20202020, 0x20202020, 0x20202020), 26);
        d.end(14);
        due("plan of seed 123;spy 1", d.plan(), 2);
        due("seed", d.setting(1), 123);
        due("spy", d.setting(3), 1);
    }

    @Sentence(promise = 2, words = "of each number the highest first: how many it has;")
    static void p02_highestFirst() {
        KeyDesk d = new KeyDesk();
        due("all twenty", d.feed(0x7369676e, 0x616c7320, 0x3132333b, 0x73656564, 0x20343536), 20);
        due("signals 123;seed 456", d.plan(), 2);
        due("signals", d.setting(0), 123);
        due("seed", d.setting(1), 456);
        due("a number below 0 is four bytes, too", d.feed(-1, LEAST_INT, MOST_INT, -2, 0), 20);
        due("its first byte is 255, no digit or letter", d.plan(), fault(0, 1));
    }

    @Sentence(promise = 2, words = "how many it has; NONE, and none comes, if it would have more than 200.")
    static void p02_fullWith200() {
        KeyDesk d = new KeyDesk();
        for (int k = 1; k <= 10; k++) {
            due("feed " + k, d.feed(0, 0, 0, 0, 0), 20 * k);
        }
        due("the TAPE is full", d.count(12), 200);
    }

    @Sentence(promise = 2, words = "NONE, and none comes, if it would have more than 200.")
    static void p02_noneIfMoreThan200() {
        for (int had = 180; had <= 200; had++) {
            KeyDesk d = new KeyDesk();
            for (int k = 0; k < 10; k++) {
                d.feed(0x73656564, 0x20202020, 0x20202020, 0x20202020, 0x20202020);
            }
            d.end(had);
            boolean room = had == 180;
            due("feed behind " + had, d.feed(1, 2, 3, 4, 5), room ? 200 : NONE);
            due("the TAPE behind " + had, d.count(12), room ? 200 : had);
        }
    }

    @Sentence(promise = 2, words = "and none comes, if it would have more than 200.")
    static void p02_nothingOfItComes() {
        KeyDesk d = new KeyDesk();
        feed(d, "seed" + " ".repeat(176) + "5");
        due("181 are there", d.count(12), 181);
        due("20 more are too many", d.feed(0x36363636, 0x36363636, 0x36363636, 0x36363636, 0x36363636), NONE);
        due("read all the same", d.plan(), 1);
        due("seed", d.setting(1), 5);
    }

    // ---- promise 3

    @Sentence(promise = 3, words = "The TAPE has its first n bytes alone: n;")
    static void p03_firstBytesAlone() {
        KeyDesk d = new KeyDesk();
        feed(d, "seed 1234");
        due("end", d.end(7), 7);
        due("count", d.count(12), 7);
        due("plan", d.plan(), 1);
        due("seed", d.setting(1), 12);
    }

    @Sentence(promise = 3, words = "The TAPE has its first n bytes alone: n;")
    static void p03_allAndNone() {
        KeyDesk d = new KeyDesk();
        due("none of none", d.end(0), 0);
        feed(d, "seed 7");
        due("all", d.end(6), 6);
        due("all stay", d.count(12), 6);
        due("none", d.end(0), 0);
        due("none stays", d.count(12), 0);
        due("the text ends at once", d.plan(), fault(0, 1));
    }

    @Sentence(promise = 3, words = "NONE, and nothing happens, if it has not so many,")
    static void p03_notSoMany() {
        KeyDesk d = new KeyDesk();
        due("1 of none", d.end(1), NONE);
        feed(d, "seed 7");
        due("one more", d.end(7), NONE);
        due("the most", d.end(MOST_INT), NONE);
        due("201", d.end(201), NONE);
        due("nothing happened", d.count(12), 6);
        due("a byte cut off", d.end(5), 5);
        due("does not come back", d.end(6), NONE);
        due("plan", d.plan(), fault(5, 1));
    }

    @Sentence(promise = 3, words = "or n is below 0.")
    static void p03_below0() {
        KeyDesk d = new KeyDesk();
        feed(d, "seed 7");
        due("-1", d.end(-1), NONE);
        due("the least", d.end(LEAST_INT), NONE);
        due("nothing happened", d.count(12), 6);
        due("plan", d.plan(), 1);
    }

    // ---- promise 4

    @Sentence(promise = 4, words = "The TAPE, which is empty then,")
    static void p04_tapeIsEmptyThen() {
        KeyDesk d = new KeyDesk();
        feed(d, "seed 7");
        due("plan", d.plan(), 1);
        due("empty", d.count(12), 0);
        due("again", d.plan(), fault(0, 1));
        feed(d, "seed 7 x");
        due("a fault", d.plan(), fault(7, 1));
        due("empty behind a fault, too", d.count(12), 0);
        feed(d, "spy 3");
        due("nothing of it is left", d.plan(), 1);
    }

    @Sentence(promise = 4, words = "tells the PLAN in place of the one there was")
    static void p04_inPlaceOfTheOneThereWas() {
        KeyDesk d = desk("signals 2;seed 3;noise 4;spy 5;sample 6;block 7;passes 2;hash 9;safe 11");
        due("told", settings(d), "2 3 4 5 6 7 2 9 11");
        feed(d, "block 64");
        due("one line", d.plan(), 1);
        due("the others are as without", settings(d), "64 1 30 0 8 64 4 16 10");
    }

    @Sentence(promise = 4, words = "(STAGE 0, x 0; nothing can be UNDONE; no IMAGES):")
    static void p04_stage0() {
        KeyDesk d = shortened(planWith(40, "sample 0;block 64;passes 1;hash 1;safe 0"));
        due("ahead of it", d.count(0), 5);
        d.send(1);
        feed(d, "seed 7");
        d.plan();
        due("counts", counts(d), NEW);
        due("signals", d.signal(0, 0), NONE);
        due("keys", d.key(0, 0), NONE);
        due("orders", d.order(0, 0), NONE);
        due("ledger", d.ledger(0, 0), NONE);
        due("final keys", d.last(0, 0), NONE);
        due("rank", d.rank(), 0);
    }

    @Sentence(promise = 4, words = "x 0;")
    static void p04_x0() {
        KeyDesk d = begun("seed 99999");
        due("x was drawn", d.count(10) != 0, true);
        feed(d, "seed 99999");
        d.plan();
        due("x", d.count(10), 0);
    }

    @Sentence(promise = 4, words = "nothing can be UNDONE;")
    static void p04_nothingCanBeUndone() {
        KeyDesk d = sampled("seed 7");
        due("two acts", d.count(11), 2);
        feed(d, "seed 7");
        d.plan();
        due("no acts", d.count(11), 0);
        due("undo", d.undo(), NONE);
        due("stage", d.count(0), 0);
    }

    @Sentence(promise = 4, words = "no IMAGES):")
    static void p04_noImages() {
        KeyDesk d = begun("seed 7");
        d.image(0);
        d.image(1);
        feed(d, "seed 7");
        d.plan();
        due("back 0", d.back(0), NONE);
        due("back 1", d.back(1), NONE);
        due("stage", d.count(0), 0);
    }

    @Sentence(promise = 4, words = "how many LINES;")
    static void p04_howManyLines() {
        StringBuilder text = new StringBuilder();
        for (int k = 0; k < 9; k++) {
            text.append(k > 0 ? ";" : "").append(WORDS[k]).append(LEAST[k]);
            due("lines of " + text, planOf(text.toString()), k + 1);
        }
        due("a tenth can't be", planOf(text + ";seed 1"), fault(text.length() + 1, 3));
    }

    @Sentence(promise = 4, words = "-2 - its FAULT,")
    static void p04_faultAnswered() {
        due("fault 1", planOf(""), -3);
        due("fault 8 * 5 + 2", planOf("seed 100000"), -44);
        due("fault 8 * 7 + 3", planOf("seed 1;seed 1"), -61);
    }

    @Sentence(promise = 4, words = "and but for the TAPE nothing happens.")
    static void p04_nothingHappensByAFault() {
        KeyDesk d = sampled(planWith(20, "sample 2;block 4"));
        d.image(0);
        d.pass();
        d.slip(3);
        String before = seen(d);
        feed(d, "seed 55;block 9;spy 101");
        due("fault", d.plan(), fault(20, 2));
        due("all as it was", seen(d), before);
        due("the last act can be undone", d.undo(), 3);
        due("the image is there", d.back(0), 2);
    }

    // ---- the text

    @Sentence(promise = 4, words = "A PLAN is told by a text of at most 200 bytes:")
    static void p04_textOf200() {
        KeyDesk d = new KeyDesk();
        feed(d, "seed" + " ".repeat(195) + "5");
        due("200 bytes", d.count(12), 200);
        due("are a plan", d.plan(), 1);
        due("of which the last one counts", d.setting(1), 5);
        due("a fault at the last byte", planOf("seed" + " ".repeat(195) + "x"), fault(199, 1));
        due("a fault behind it", planOf("seed" + " ".repeat(196)), fault(200, 1));
        due("a number up to the end", planOf("seed " + "0".repeat(194) + "9"), 1);
        due("and one that is too great", planOf("seed " + "9".repeat(195)), fault(5, 2));
    }

    @Sentence(promise = 4, words = "LINE { ; LINE }.")
    static void p04_linesAndWhatStandsBetween() {
        due("one", planOf("seed 1"), 1);
        due("two", planOf("seed 1;spy 1"), 2);
        due("no line", planOf(";"), fault(0, 1));
        due("none ahead of the ;", planOf(";seed 1"), fault(0, 1));
        due("none behind the ;", planOf("seed 1;"), fault(7, 1));
        due("none between two ;", planOf("seed 1;;spy 1"), fault(7, 1));
        due("no ; between two", planOf("seed 1 spy 1"), fault(7, 1));
        due("none, nor a blank", planOf("seed 1spy 1"), fault(6, 1));
        due("another byte between", planOf("seed 1,spy 1"), fault(6, 1));
        due("the byte ahead of ;", planOf("seed 1:spy 1"), fault(6, 1));
        due("the byte behind ;", planOf("seed 1<spy 1"), fault(6, 1));
    }

    @Sentence(promise = 4, words = "LINE: WORD NUMBER.")
    static void p04_wordThenNumber() {
        due("a NUMBER first", planOf("1 seed"), fault(0, 1));
        due("a NUMBER alone", planOf("1"), fault(0, 1));
        due("a WORD alone", planOf("seed"), fault(4, 1));
        due("a WORD, then ;", planOf("seed;spy 1"), fault(4, 1));
        due("a WORD, then a WORD", planOf("seed spy 1"), fault(5, 1));
        due("two NUMBERS", planOf("seed 1 2"), fault(7, 1));
        due("in a second LINE", planOf("seed 1;spy;"), fault(10, 1));
    }

    @Sentence(promise = 4, words = "WORDS (small letters, as far as they go on)")
    static void p04_wordsGoOn() {
        due("up to a digit", planOf("seed1"), 1);
        due("a letter more", planOf("seeds 1"), fault(0, 1));
        due("a letter less", planOf("see 1"), fault(0, 1));
        due("another first letter", planOf("need 1"), fault(0, 1));
        due("another last letter", planOf("seem 1"), fault(0, 1));
        due("two in one", planOf("seedspy 1"), fault(0, 1));
        due("a blank within", planOf("se ed 1"), fault(0, 1));
        due("great letters", planOf("SEED 1"), fault(0, 1));
        due("a great letter at its end", planOf("seeD 1"), fault(0, 1));
        due("a great letter behind it", planOf("seedD 1"), fault(4, 1));
        due("the byte ahead of a", planOf("seed`1"), fault(4, 1));
        due("the byte behind z", planOf("seed{1"), fault(4, 1));
        due("they begin with it", planOf("`seed 1"), fault(0, 1));
        due("s of signals, seed, spy, sample, safe", planOf("s 1"), fault(0, 1));
        due("a very long one", planOf("a".repeat(200)), fault(0, 1));
    }

    @Sentence(promise = 4, words = "NUMBERS (digits, as far as these go on)")
    static void p04_numbersGoOn() {
        KeyDesk d = desk("seed 0123;signals 99;spy 00;noise 000500;safe 9");
        due("all digits", settings(d), "99 123 500 0 8 8 4 16 9");
        due("0 is a digit", desk("seed 0").setting(1), 0);
        due("9 is a digit", desk("seed 99999").setting(1), 99999);
        due("a blank within", planOf("seed 1 2"), fault(7, 1));
        due("a letter behind", planOf("seed 1x"), fault(6, 1));
        due("the byte ahead of 0", planOf("seed 1/"), fault(6, 1));
        due("the byte behind 9", planOf("seed 1:"), fault(6, 1));
        due("they begin with it", planOf("seed /1"), fault(5, 1));
        due("a sign", planOf("seed +1"), fault(5, 1));
        due("below 0", planOf("seed -1"), fault(5, 1));
        due("many noughts", planOf("hash 000000000000000000016"), 1);
        due("2 to the 32 and 1", planOf("seed 4294967297"), fault(5, 2));
        due("2 to the 64 and 1", planOf("seed 18446744073709551617"), fault(5, 2));
    }

    private static void range(int k, int most) {
        String word = WORDS[k] + " ";
        int at = word.length();
        due(word + "without", desk(k == 1 ? "spy 0" : "seed 5").setting(k), USUAL[k]);
        due(word + LEAST[k], planOf(word + LEAST[k]), 1);
        due(word + "the least", desk(word + LEAST[k]).setting(k), LEAST[k]);
        due(word + "the most", desk(word + most).setting(k), most);
        due(word + "above", planOf(word + (most + 1)), fault(at, 2));
        due(word + "far above", planOf(word + "9999999999"), fault(at, 2));
        if (LEAST[k] > 0) {
            due(word + "below", planOf(word + (LEAST[k] - 1)), fault(at, 2));
            due(word + "0", planOf(word + "0"), fault(at, 2));
        }
    }

    @Sentence(promise = 4, words = "with what their NUMBERS (digits, as far as these go on) may be, and what they are"
        + " without: signals 2 to 256 (64),")
    static void p04_signals() {
        range(0, 256);
        due("as many as told", begun("signals 256").count(13), 256);
        due("two", begun("signals 2").count(13), 2);
    }

    @Sentence(promise = 4, words = "seed 0 to 99999 (1),")
    static void p04_seed() {
        range(1, 99999);
    }

    @Sentence(promise = 4, words = "noise 0 to 500 (30),")
    static void p04_noise() {
        range(2, 500);
    }

    @Sentence(promise = 4, words = "spy 0 to 100 (0),")
    static void p04_spy() {
        range(3, 100);
    }

    @Sentence(promise = 4, words = "sample 0 to 128 (8),")
    static void p04_sample() {
        range(4, 128);
    }

    @Sentence(promise = 4, words = "block 2 to 64 (8),")
    static void p04_block() {
        range(5, 64);
    }

    @Sentence(promise = 4, words = "passes 1 to 6 (4),")
    static void p04_passes() {
        range(6, 6);
    }

    @Sentence(promise = 4, words = "hash 1 to 30 (16),")
    static void p04_hash() {
        range(7, 30);
    }

    @Sentence(promise = 4, words = "safe 0 to 50 (10).")
    static void p04_safe() {
        range(8, 50);
    }

    @Sentence(promise = 4, words = "Blanks (32) stand between as one likes.")
    static void p04_blanks() {
        due("none", planOf("seed1;spy2"), 2);
        due("many", planOf("seed    1   ;   spy    2"), 2);
        due("ahead of all and behind all", planOf("   seed 1   "), 1);
        int[] others = {0, 9, 10, 13, 31, 33, 95, 127, 128, 160, 255};
        for (int other : others) {
            char c = (char) other;
            due(other + " is none, ahead", planOf(c + "seed 1"), fault(0, 1));
            due(other + " is none, behind the WORD", planOf("seed" + c + "1"), fault(4, 1));
            due(other + " is none, behind the NUMBER", planOf("seed 1" + c), fault(6, 1));
            due(other + " is none, behind the ;", planOf("seed 1;" + c + "spy 1"), fault(7, 1));
        }
        due("nothing but these", planOf(" ".repeat(200)), fault(200, 1));
    }

    // ---- the fault

    @Sentence(promise = 4, words = "FAULT of a text that is none: of the first place along it that is wrong (0 the first"
        + " byte), 8 times the place and:")
    static void p04_firstPlaceCounts() {
        due("a NUMBER, then a byte", planOf("seed 100000;x"), fault(5, 2));
        due("a byte, then a NUMBER", planOf("seed x;spy 101"), fault(5, 1));
        due("a WORD told already, then its NUMBER", planOf("spy 1;spy 101"), fault(6, 3));
        due("a WORD told already, then the end", planOf("spy 1;spy"), fault(6, 3));
        due("a WORD told already, then no NUMBER", planOf("spy 1;spy x"), fault(6, 3));
        due("a NUMBER, then a WORD told already", planOf("spy 101;spy 1"), fault(4, 2));
        due("a NUMBER, then a letter at once", planOf("spy 101x"), fault(4, 2));
        due("the first byte is 0", planOf("x"), fault(0, 1));
        due("blanks are places, too", planOf("   x"), fault(3, 1));
    }

    @Sentence(promise = 4, words = "1 a byte or WORD that can't stand there,")
    static void p04_byteOrWordThatCantStandThere() {
        due("a byte for a WORD", planOf("seed 1;?"), fault(7, 1));
        due("a digit for a WORD", planOf("seed 1;2"), fault(7, 1));
        due("a WORD that is none, from its begin", planOf("seed 1; speed 2"), fault(8, 1));
        due("a WORD for a NUMBER", planOf("seed spy"), fault(5, 1));
        due("a byte for a NUMBER", planOf("seed ?"), fault(5, 1));
        due("a WORD for a ;", planOf("seed 1 spy 2"), fault(7, 1));
        due("a byte for a ;", planOf("seed 1 ?"), fault(7, 1));
        due("a WORD that is none, though told twice", planOf("seed 1;foo 2;foo 2"), fault(7, 1));
    }

    @Sentence(promise = 4, words = "or the text ends (the place behind its last byte);")
    static void p04_textEnds() {
        due("at once", planOf(""), fault(0, 1));
        due("behind blanks", planOf("     "), fault(5, 1));
        due("behind a WORD", planOf("seed"), fault(4, 1));
        due("behind a WORD and blanks", planOf("seed  "), fault(6, 1));
        due("behind a ;", planOf("seed 1;"), fault(7, 1));
        due("behind a ; and blanks", planOf("seed 1;   "), fault(10, 1));
        due("behind a second WORD", planOf("seed 1;spy"), fault(10, 1));
    }

    @Sentence(promise = 4, words = "2 a NUMBER (where it begins) that is not as told;")
    static void p04_numberNotAsTold() {
        due("above, where it begins", planOf("spy     101"), fault(8, 2));
        due("below, where it begins", planOf("hash 0"), fault(5, 2));
        due("from its leading noughts on", planOf("hash 00031"), fault(5, 2));
        due("in the ninth LINE", planOf("signals 2;seed 0;noise 0;spy 0;sample 0;block 2;passes 1;hash 1;safe 51"),
            fault(69, 2));
    }

    @Sentence(promise = 4, words = "3 a WORD that was told already.")
    static void p04_wordToldAlready() {
        for (int k = 0; k < 9; k++) {
            String line = WORDS[k] + " " + LEAST[k];
            due(WORDS[k] + " twice", planOf(line + ";" + line), fault(line.length() + 1, 3));
        }
        due("with another between", planOf("seed 1;spy 1; seed 2"), fault(14, 3));
        due("where it begins", planOf("seed 1;   seed 2"), fault(10, 3));
        KeyDesk d = new KeyDesk();
        feed(d, "seed 1");
        d.plan();
        feed(d, "seed 2");
        due("but in another text", d.plan(), 1);
        feed(d, "seed 3;x");
        d.plan();
        feed(d, "seed 4");
        due("nor behind one with a fault", d.plan(), 1);
    }

    @Sentence(promise = 4, words = "Of one place the least.")
    static void p04_ofOnePlaceTheLeast() {
        due("no NUMBER is not 2", planOf("hash ;"), fault(5, 1));
        due("nor at the end", planOf("hash "), fault(5, 1));
        due("nor a letter", planOf("hash a"), fault(5, 1));
        due("a WORD that can't stand there is not 3", planOf("hash 1 hash 1"), fault(7, 1));
        due("nor as a NUMBER", planOf("seed 1;hash seed"), fault(12, 1));
    }

    // ---- promise 5

    @Sentence(promise = 5, words = "What the PLAN has, 0 to 8 in the order of I;")
    static void p05_inTheOrder() {
        KeyDesk d = desk("safe 19;hash 18;passes 5;block 16;sample 15;spy 14;noise 13;seed 12;signals 11");
        due("settings", settings(d), "11 12 13 14 15 16 5 18 19");
        due("the first", d.setting(0), 11);
        due("the last", d.setting(8), 19);
    }

    @Sentence(promise = 5, words = "NONE for others.")
    static void p05_noneForOthers() {
        KeyDesk d = desk("seed 3");
        int[] others = {-1, 9, 10, -2, 256, LEAST_INT, MOST_INT};
        for (int k : others) {
            due("setting " + k, d.setting(k), NONE);
        }
    }

    public static void main(String[] args) {
        Edges.run(PlanEdgesTest.class);
    }
}
