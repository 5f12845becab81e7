/** Part 3 of the terms: batches, papers, what is out, and the slips that explain it. */
final class BatchTerms {
    private static final String TERMS = "Terms";
    private static final String PAPER =
        "A PAPER (100 at most in all) is a LINE that FITS, and an AMOUNT (0 to 9,999,999);";
    private static final String TWICE =
        "one with BANK, ACCOUNT and NUMBER of another PAPER is TWICE, and is not taken.";
    private static final String WRONG_DIGIT = "kind 0: its AMOUNT less OUT is one, and differs from it in one of its "
        + "seven digits (0 ahead of shorter ones);";
    private static final String FITTING = "A1234B123451B0042A";

    private BatchTerms() {
    }

    static void all(Sentences sentences) {
        batches(sentences);
        papers(sentences);
        mostPapers(sentences);
        twice(sentences);
        nearlyTwice(sentences);
        out(sentences);
        nothingOut(sentences);
        order(sentences);
        wrongDigit(sentences);
        wrongDigitOfNoAmount(sentences);
        swappedDigits(sentences);
        cameTwice(sentences);
        lacks(sentences);
    }

    private static void batches(Sentences sentences) {
        String quote = "BATCHES, numbered from 0 on, 20 at most, have a TOLD sum (0 to 1,000,000,000).";
        Run run = sentences.run(TERMS, quote);
        run.due(Run.ARGUMENT, "batch", -1).due(Run.ARGUMENT, "batch", 1_000_000_001).due(0, "count", 2);
        run.due(0, "batch", 0).due(1, "batch", 1_000_000_000);
        for (int number = 2; number < 20; number++) {
            run.due(number, "batch", number);
        }
        run.due(Run.STATE, "batch", 5).due(20, "count", 2);
        run.due(0, "out", 0).due(-1_000_000_000, "out", 1).due(-19, "out", 19).due(Run.BOUNDS, "out", 20);
    }

    private static void papers(Sentences sentences) {
        Run run = sentences.run(TERMS, PAPER).taught();
        run.ask("batch", 0);
        run.reads(FITTING);
        run.due(Run.ARGUMENT, "paper", 0, -1).due(Run.ARGUMENT, "paper", 0, 10_000_000).due(0, "count", 3);
        run.due(0, "paper", 0, 0).due(0, "out", 0);
        run.reads("A1234B123451B0043A").due(1, "paper", 0, 9_999_999).due(9_999_999, "out", 0);
        run.reads("A1234B123452B0044A").due(-1, "paper", 0, 5);
        run.reads("A1234B123451B004A").due(-1, "paper", 0, 5).due(2, "count", 3);
    }

    /** Takes more calls than are promised. */
    private static void mostPapers(Sentences sentences) {
        Run run = sentences.run(TERMS, PAPER).beyondTheLastCall().taught();
        run.ask("batch", 0);
        run.ask("batch", 0);
        for (int number = 0; number < 100; number++) {
            run.reads("A1234B123451B" + String.format("%04d", number) + "A");
            run.due(number, "paper", number % 2, 9_999_999);
        }
        run.reads("A1234B123451B0100A").due(-3, "paper", 0, 1).due(100, "count", 3);
        run.due(50 * 9_999_999, "out", 0).due(50 * 9_999_999, "out", 1);
    }

    private static void twice(Sentences sentences) {
        Run run = sentences.run(TERMS, TWICE).taught();
        run.ask("batch", 70);
        run.ask("batch", 80);
        run.reads(FITTING).due(0, "paper", 0, 5);
        run.reads(FITTING).due(-2, "paper", 0, 6).due(-2, "paper", 1, 6).due(1, "count", 3);
        run.due(-65, "out", 0).due(-80, "out", 1);
        run.turnedSigns(FITTING).due(0, "read").due(1, "about", 3).due(-2, "paper", 0, 7);
    }

    /** One field alone is another one, or two of them have changed places. */
    private static void nearlyTwice(Sentences sentences) {
        Run one = sentences.run(TERMS, TWICE).taught();
        one.ask("batch", 0);
        one.reads("A1234B123451B0042A").due(0, "paper", 0, 5);
        one.reads("A1235B123451B0042A").due(1, "paper", 0, 5);
        one.reads("A1234B000000B0042A").due(2, "paper", 0, 5);
        one.reads("A1234B123451B0043A").due(3, "paper", 0, 5);
        Run two = sentences.run(TERMS, TWICE).taught();
        two.ask("batch", 0);
        two.reads("A0012B000000B0034A").due(0, "paper", 0, 5);
        two.reads("A0034B000000B0012A").due(1, "paper", 0, 5);
        two.reads("A0012B000000B0034A").due(-2, "paper", 0, 5).due(0, "twin");
    }

    private static void out(Sentences sentences) {
        Run run = sentences.run(TERMS, "OUT: what the AMOUNTS come to less what is TOLD.").taught();
        run.due(0, "batch", 1000).due(1, "batch", 5).due(2, "batch", 0);
        run.due(-1000, "out", 0).due(-5, "out", 1).due(0, "out", 2);
        run.takes(0, 1, 300).due(-700, "out", 0);
        run.takes(1, 2, 40).due(-700, "out", 0).due(35, "out", 1);
        run.takes(0, 3, 900).due(200, "out", 0).due(35, "out", 1).due(0, "out", 2);
        run.due(900, "amount", 2, 700).due(0, "out", 0);
    }

    private static void nothingOut(Sentences sentences) {
        Run run = sentences.run(TERMS, "SLIPS that explain what is OUT (if it is not 0):").taught();
        run.due(0, "batch", 0).due(1, "batch", 500).dueSlips(0);
        run.takes(0, 1, 0).due(0, "out", 0).dueSlips(0);
        run.takes(1, 2, 500).due(0, "out", 1).dueSlips(1);
        run.takes(1, 3, 0).due(0, "out", 1).dueSlips(1);
        run.due(0, "amount", 2, 1).due(1, "out", 1).dueSlips(1, new int[] {0, 2, 0}, new int[] {2, 2, 0});
    }

    /** 900, 90 and 100 where 1,000 is told are 90 too much; the paper of the other batch explains nothing here. */
    private static void order(Sentences sentences) {
        Run run = sentences.run(TERMS, "PAPER by PAPER, in order:").taught();
        run.due(0, "batch", 100).due(1, "batch", 1000);
        run.takes(1, 1, 900).takes(0, 2, 90).takes(1, 3, 90).takes(1, 4, 100);
        run.due(90, "out", 1);
        run.dueSlips(1, new int[] {0, 2, 0}, new int[] {2, 2, 0}, new int[] {1, 3, 10});
        run.dueSlips(0, new int[] {3, -1, 10});
        run.due(90, "amount", 2, 100).due(100, "amount", 3, 90);
        run.dueSlips(1, new int[] {1, 2, 10}, new int[] {0, 3, 0}, new int[] {2, 3, 0});
    }

    /** The slips of a batch of one paper: where it is OUT, what is TOLD is what the AMOUNT should be. */
    private static void dueAlone(Sentences sentences, String quote, int told, int amount, int[]... want) {
        Run run = sentences.run(TERMS, quote).taught();
        run.ask("batch", told);
        run.takes(0, 1, amount).due((long) amount - told, "out", 0).dueSlips(0, want);
    }

    private static void wrongDigit(Sentences sentences) {
        int rank = 1;
        for (int digit = 0; digit < 7; digit++) {
            int due = 4_444_444 - rank;
            dueAlone(sentences, WRONG_DIGIT, due, 4_444_444, new int[] {0, 0, due});
            rank = rank * 10;
        }
        dueAlone(sentences, WRONG_DIGIT, 1000, 1010, new int[] {0, 0, 1000});
        dueAlone(sentences, WRONG_DIGIT, 1090, 1010, new int[] {0, 0, 1090}, new int[] {3, -1, 80});
        dueAlone(sentences, WRONG_DIGIT, 9_000_001, 1, new int[] {0, 0, 9_000_001}, new int[] {3, -1, 9_000_000});
        dueAlone(sentences, WRONG_DIGIT, 1, 9_000_001, new int[] {0, 0, 1});
        dueAlone(sentences, WRONG_DIGIT, 5, 0, new int[] {0, 0, 5}, new int[] {3, -1, 5});
        dueAlone(sentences, WRONG_DIGIT, 9_999_999, 9_999_990, new int[] {0, 0, 9_999_999}, new int[] {3, -1, 9});
        dueAlone(sentences, WRONG_DIGIT, 1000, 1230);
        dueAlone(sentences, WRONG_DIGIT, 999, 1000);
        dueAlone(sentences, WRONG_DIGIT, 1000, 999, new int[] {3, -1, 1});
    }

    /** What the amount would be is below 0, or above 9,999,999, though one of its digits alone is another. */
    private static void wrongDigitOfNoAmount(Sentences sentences) {
        dueAlone(sentences, WRONG_DIGIT, 10_999_999, 9_999_999, new int[] {3, -1, 1_000_000});
        dueAlone(sentences, WRONG_DIGIT, 19_999_999, 9_999_999);
        dueAlone(sentences, WRONG_DIGIT, 10_000_000, 9_000_000, new int[] {3, -1, 1_000_000});
        Run below = sentences.run(TERMS, WRONG_DIGIT).taught();
        below.ask("batch", 0);
        below.takes(0, 1, 5).takes(0, 2, 6).due(11, "out", 0).dueSlips(0);
        below.due(6, "amount", 1, 1).due(6, "out", 0).dueSlips(0);
        below.due(1, "amount", 1, 0).due(5, "out", 0).dueSlips(0, new int[] {0, 0, 0}, new int[] {2, 0, 0});
    }

    private static void swappedDigits(Sentences sentences) {
        String quote = "1: that is the AMOUNT with two neighbouring digits changed with each other;";
        int[] swapped = {2_134_567, 1_324_567, 1_243_567, 1_235_467, 1_234_657, 1_234_576};
        for (int told : swapped) {
            dueAlone(sentences, quote, told, 1_234_567, new int[] {1, 0, told}, new int[] {3, -1, told - 1_234_567});
            dueAlone(sentences, quote, 1_234_567, told, new int[] {1, 0, 1_234_567});
        }
        dueAlone(sentences, quote, 1000, 100, new int[] {1, 0, 1000}, new int[] {3, -1, 900});
        dueAlone(sentences, quote, 100, 1000, new int[] {1, 0, 100});
        dueAlone(sentences, quote, 1, 10, new int[] {1, 0, 1});
        dueAlone(sentences, quote, 9_000_000, 900_000, new int[] {1, 0, 9_000_000}, new int[] {3, -1, 8_100_000});
        dueAlone(sentences, quote, 900_000, 9_000_000, new int[] {1, 0, 900_000});
        dueAlone(sentences, quote, 10_000_000, 1_000_000, new int[] {3, -1, 9_000_000});
        dueAlone(sentences, quote, 1234, 3214);
        dueAlone(sentences, quote, 1234, 2143);
        dueAlone(sentences, quote, 7_234_561, 1_234_567, new int[] {3, -1, 5_999_994});
        dueAlone(sentences, quote, 1225, 1234);
        dueAlone(sentences, quote, 1223, 1123, new int[] {0, 0, 1223}, new int[] {3, -1, 100});
    }

    private static void cameTwice(Sentences sentences) {
        String quote = "2: its AMOUNT is OUT (it came twice);";
        dueAlone(sentences, quote, 0, 1230, new int[] {2, 0, 0});
        dueAlone(sentences, quote, 0, 400, new int[] {0, 0, 0}, new int[] {2, 0, 0});
        dueAlone(sentences, quote, 0, 9_999_999, new int[] {2, 0, 0});
        dueAlone(sentences, quote, 600, 300, new int[] {0, 0, 600}, new int[] {3, -1, 300});
        dueAlone(sentences, quote, 2468, 1234, new int[] {3, -1, 1234});
        Run both = sentences.run(TERMS, quote).taught();
        both.ask("batch", 1230);
        both.takes(0, 1, 1230).takes(0, 2, 1230).due(1230, "out", 0);
        both.dueSlips(0, new int[] {2, 0, 0}, new int[] {2, 1, 0});
        both.due(1230, "amount", 1, 1231).due(1231, "out", 0);
        both.dueSlips(0, new int[] {2, 1, 0});
    }

    private static void lacks(Sentences sentences) {
        String quote = "last, if OUT is below 0, and 9,999,999 or less below it, once, 3: a PAPER of as much lacks "
            + "(PAPER: NONE).";
        Run empty = sentences.run(TERMS, quote);
        int[] told = {1, 9_999_999, 10_000_000, 10_000_001, 1_000_000_000, 0};
        for (int sum : told) {
            empty.ask("batch", sum);
        }
        empty.dueSlips(0, new int[] {3, -1, 1}).dueSlips(1, new int[] {3, -1, 9_999_999});
        empty.dueSlips(2).dueSlips(3).dueSlips(4).dueSlips(5);
        Run papers = sentences.run(TERMS, quote).taught();
        papers.ask("batch", 10_002_000);
        papers.takes(0, 1, 1000).takes(0, 2, 1000).due(-10_000_000, "out", 0).dueSlips(0);
        papers.due(1000, "amount", 1, 1001).dueSlips(0, new int[] {3, -1, 9_999_999});
        papers.due(1001, "amount", 1, 9_999_999).due(-1001, "out", 0).dueSlips(0, new int[] {3, -1, 1001});
        papers.due(1000, "amount", 0, 2000).due(-1, "out", 0);
        papers.dueSlips(0, new int[] {0, 0, 2001}, new int[] {3, -1, 1});
        papers.due(2000, "amount", 0, 2002).due(1, "out", 0);
        papers.dueSlips(0, new int[] {0, 0, 2001}, new int[] {0, 1, 9_999_998});
    }
}
