/** Promises 11 to 18, sentence by sentence: batches, papers and slips; and the last call that is promised. */
final class BatchPromises {
    private static final String FITTING = "A1234B123451B0042A";
    private static final String MISFIT = "A1234B123452B0042A";
    private static final String NO_BATCH = "IndexOutOfBoundsException: no such BATCH (so below);";
    private static final String WRONG_AMOUNT = "IllegalArgumentException: the AMOUNT.";

    private BatchPromises() {
    }

    static void all(Sentences sentences) {
        batchAnswers(sentences);
        batchWrong(sentences);
        batchFull(sentences);
        paperTaken(sentences);
        paperStays(sentences);
        paperMisfit(sentences);
        paperTwice(sentences);
        paperFull(sentences);
        paperNoBatch(sentences);
        outNoBatch(sentences);
        paperAmount(sentences);
        amountAnswers(sentences);
        amountNoPaper(sentences);
        amountWrong(sentences);
        twinAnswers(sentences);
        twinNone(sentences);
        out(sentences);
        slips(sentences);
        mostSlips(sentences);
        slipAnswers(sentences);
        slipNone(sentences);
        slipAnotherWhat(sentences);
        countAnswers(sentences);
        countNone(sentences);
        lastCall(sentences);
    }

    private static void batchAnswers(Sentences sentences) {
        Run run = sentences.run("Promise 11", "A BATCH: its number.");
        run.due(0, "batch", 7).due(1, "count", 2).due(1, "batch", 7).due(2, "batch", 0).due(3, "count", 2);
        run.due(-7, "out", 0).due(-7, "out", 1).due(0, "out", 2);
    }

    private static void batchWrong(Sentences sentences) {
        Run run = sentences.run("Promise 11", "IllegalArgumentException: the TOLD sum;");
        run.due(0, "batch", 0).due(1, "batch", 1_000_000_000);
        run.stays(desk -> {
            desk.due(Run.ARGUMENT, "batch", -1).due(Run.ARGUMENT, "batch", 1_000_000_001);
            for (int told : Run.WILD) {
                desk.due(Run.ARGUMENT, "batch", told);
            }
        });
        for (int number = 2; number < 20; number++) {
            run.due(number, "batch", 5);
        }
        run.due(Run.ARGUMENT, "batch", -1).due(Run.ARGUMENT, "batch", 1_000_000_001).due(20, "count", 2);
    }

    private static void batchFull(Sentences sentences) {
        Run run = sentences.run("Promise 11", "IllegalStateException: there are 20.");
        for (int number = 0; number < 20; number++) {
            run.due(number, "batch", number);
        }
        run.stays(desk -> {
            desk.due(Run.STATE, "batch", 0).due(Run.STATE, "batch", 1_000_000_000).due(Run.STATE, "batch", 7);
        });
        run.due(-19, "out", 19).due(Run.BOUNDS, "out", 20);
    }

    private static void paperTaken(Sentences sentences) {
        Run run = sentences.run("Promise 12",
            "The latest reading is a PAPER of a BATCH (and is taken: there is none then): its number;").taught();
        run.due(0, "batch", 100).due(1, "batch", 200);
        run.reads(FITTING).ticks(9).due(0, "paper", 1, 150);
        run.due(Run.NONE, "about", 0).due(Run.NONE, "about", 1).due(Run.NONE, "about", 2).due(Run.NONE, "about", 3);
        run.due(Run.NONE, "about", 4).due(Run.NONE, "place", 0, 0).due(Run.NONE, "field", 0).due(0, "others");
        run.due(Run.NONE, "other", 0, 0).due(0, "choose", 0).due(Run.NONE, "twin").due(-1, "paper", 1, 150);
        run.due(1, "count", 3).due(1, "count", 1).due(-100, "out", 0).due(-50, "out", 1);
        run.ticks(9, 9, 9, 9, 9).ask("read");
        run.reads("A1234B123451B0043A").due(1, "paper", 0, 100).due(0, "out", 0).due(-50, "out", 1);
        run.reads(MISFIT).due(1, "choose", 0).due(2, "paper", 1, 1).due(3, "count", 3).due(-49, "out", 1);
    }

    private static void paperStays(Sentences sentences) {
        Run misfit = sentences.run("Promise 12", "or, and it stays:").taught();
        misfit.ask("batch", 5);
        misfit.stays(desk -> desk.due(-1, "paper", 0, 1));
        misfit.reads(MISFIT).stays(desk -> desk.due(-1, "paper", 0, 1));
        Run twice = sentences.run("Promise 12", "or, and it stays:").taught();
        twice.ask("batch", 5);
        twice.takes(0, 42, 1).reads(FITTING).stays(desk -> desk.due(-2, "paper", 0, 1));
        twice.due(1, "choose", 0).due(1, "paper", 0, 1);
    }

    private static void paperMisfit(Sentences sentences) {
        Run none = sentences.run("Promise 12", "-1: it doesn't FIT;").taught();
        none.ask("batch", 0);
        none.due(-1, "paper", 0, 0).due(0, "count", 3);
        for (String row : new String[] {MISFIT, "A1234A123451B0042A", "A1234B123451B0042", "A1234B123451B0042AA", "1",
            "A12B4B123451B0042A"}) {
            Run run = sentences.run("Promise 12", "-1: it doesn't FIT;").taught();
            run.ask("batch", 0);
            run.reads(FITTING).reads(row).due(-1, "paper", 0, 0).due(0, "count", 3);
            run.due(row.length(), "about", 0);
        }
    }

    private static void paperTwice(Sentences sentences) {
        Run run = sentences.run("Promise 12", "-2: it is TWICE;").taught();
        run.due(0, "batch", 0).due(1, "batch", 0);
        run.takes(0, 41, 3).takes(0, 42, 4);
        run.reads(FITTING).due(-2, "paper", 0, 9).due(-2, "paper", 1, 9).due(1, "twin").due(2, "count", 3);
        run.due(7, "out", 0).due(0, "out", 1);
        run.reads("A0234B123451B0042A").due(1, "other", 0, 0).due(1, "choose", 0).due(-2, "paper", 1, 9);
    }

    /** Takes more calls than are promised: 100 papers need more than 10,000. */
    private static void paperFull(Sentences sentences) {
        Run run = sentences.run("Promise 12", "-3: there are 100.").beyondTheLastCall().taught();
        run.ask("batch", 0);
        for (int number = 0; number < 100; number++) {
            run.takes(0, number, 1);
        }
        run.due(100, "count", 3).reads("A1234B123451B0100A");
        run.stays(desk -> desk.due(-3, "paper", 0, 1));
        run.due(100, "field", 2).reads("A1234B123451B0099A").due(-2, "paper", 0, 1).due(99, "twin");
        run.reads(MISFIT).due(-1, "paper", 0, 1).due(Run.BOUNDS, "paper", 1, 1).due(Run.ARGUMENT, "paper", 0, -1);
        run.due(1, "amount", 99, 2).due(Run.BOUNDS, "amount", 100, 2).due(101, "out", 0);
    }

    private static void paperNoBatch(Sentences sentences) {
        Run run = sentences.run("Promise 12", NO_BATCH).taught();
        run.due(Run.BOUNDS, "paper", 0, 1).due(Run.BOUNDS, "paper", 0, -1);
        run.due(0, "batch", 100).due(1, "batch", 200);
        run.due(Run.BOUNDS, "paper", 2, 1).reads(FITTING);
        run.stays(desk -> {
            desk.due(Run.BOUNDS, "paper", -1, 1).due(Run.BOUNDS, "paper", 2, 1).due(Run.BOUNDS, "paper", 2, 10_000_000);
            for (int batch : Run.WILD) {
                desk.due(Run.BOUNDS, "paper", batch, 1);
            }
        });
        run.due(0, "paper", 1, 1);
    }

    private static void outNoBatch(Sentences sentences) {
        Run run = sentences.run("Promise 12", NO_BATCH);
        run.due(Run.BOUNDS, "out", 0).due(Run.BOUNDS, "slips", 0).due(Run.BOUNDS, "slip", 0, 0, 0);
        run.due(0, "batch", 100).due(1, "batch", 200);
        for (int batch : new int[] {-1, 2, 19, 20, Run.WILD[0], Run.WILD[1], Run.WILD[2], Run.WILD[3]}) {
            run.due(Run.BOUNDS, "out", batch).due(Run.BOUNDS, "slips", batch).due(Run.BOUNDS, "slip", batch, 0, 0);
            run.due(Run.BOUNDS, "slip", batch, -1, 0).due(Run.BOUNDS, "slip", batch, 0, 3);
        }
        run.due(-100, "out", 0).due(-200, "out", 1).due(1, "slips", 1).due(3, "slip", 1, 0, 0);
    }

    private static void paperAmount(Sentences sentences) {
        Run run = sentences.run("Promise 12", WRONG_AMOUNT).taught();
        run.ask("batch", 0);
        run.due(Run.ARGUMENT, "paper", 0, -1).reads(FITTING);
        run.stays(desk -> {
            desk.due(Run.ARGUMENT, "paper", 0, -1).due(Run.ARGUMENT, "paper", 0, 10_000_000);
            for (int amount : Run.WILD) {
                desk.due(Run.ARGUMENT, "paper", 0, amount);
            }
        });
        run.due(0, "paper", 0, 9_999_999).due(9_999_999, "out", 0);
        run.reads("A1234B123451B0043A").due(1, "paper", 0, 0).due(9_999_999, "out", 0);
    }

    private static void amountAnswers(Sentences sentences) {
        Run run = sentences.run("Promise 13", "Another AMOUNT of a PAPER: what it was.").taught();
        run.due(0, "batch", 500).due(1, "batch", 60).takes(0, 1, 77).takes(1, 2, 88);
        run.due(77, "amount", 0, 9_999_999).due(9_999_499, "out", 0).due(28, "out", 1);
        run.due(9_999_999, "amount", 0, 0).due(-500, "out", 0).due(0, "amount", 0, 0).due(0, "amount", 0, 500);
        run.due(0, "out", 0).due(88, "amount", 1, 60).due(0, "out", 1).due(0, "out", 0).due(2, "count", 3);
    }

    private static void amountNoPaper(Sentences sentences) {
        Run run = sentences.run("Promise 13", "IndexOutOfBoundsException: no such PAPER;").taught();
        run.due(Run.BOUNDS, "amount", 0, 1).due(0, "batch", 500).due(Run.BOUNDS, "amount", 0, 1);
        run.takes(0, 1, 77).reads(FITTING);
        run.stays(desk -> {
            for (int paper : new int[] {-1, 1, 2, 99, 100}) {
                desk.due(Run.BOUNDS, "amount", paper, 1);
            }
            for (int paper : Run.WILD) {
                desk.due(Run.BOUNDS, "amount", paper, 1);
            }
            desk.due(Run.BOUNDS, "amount", 1, -1).due(Run.BOUNDS, "amount", -1, 10_000_000);
        });
        run.due(77, "amount", 0, 1);
    }

    private static void amountWrong(Sentences sentences) {
        Run run = sentences.run("Promise 13", WRONG_AMOUNT).taught();
        run.due(0, "batch", 500).takes(0, 1, 77);
        run.stays(desk -> {
            desk.due(Run.ARGUMENT, "amount", 0, -1).due(Run.ARGUMENT, "amount", 0, 10_000_000);
            for (int amount : Run.WILD) {
                desk.due(Run.ARGUMENT, "amount", 0, amount);
            }
        });
        run.due(77, "amount", 0, 0).due(0, "amount", 0, 9_999_999).due(9_999_999, "amount", 0, 1);
    }

    private static void twinAnswers(Sentences sentences) {
        String quote = "Which PAPER has BANK, ACCOUNT and NUMBER of the latest reading;";
        Run run = sentences.run("Promise 14", quote).taught();
        run.ask("batch", 0);
        run.takes(0, 41, 1).takes(0, 42, 1);
        run.reads("A1234B123451B0041A").due(0, "twin").turnedSigns(FITTING).due(0, "read").due(1, "twin");
        run.due(1, "choose", 0).due(Run.NONE, "twin").due(1, "choose", 0).due(1, "twin").due(2, "count", 3);
    }

    private static void twinNone(Sentences sentences) {
        Run run = sentences.run("Promise 14", "NONE.").taught();
        run.ask("batch", 0);
        run.due(Run.NONE, "twin").reads(FITTING).due(Run.NONE, "twin").due(0, "paper", 0, 1).due(Run.NONE, "twin");
        run.reads("1").due(Run.NONE, "twin").reads(MISFIT).due(Run.NONE, "twin");
        for (String row : new String[] {"A1235B123451B0042A", "A1234B000000B0042A", "A1234B123451B0043A",
            "B1234B123451B0042A", "A1234B123451B0042"}) {
            Run near = sentences.run("Promise 14", "NONE.").taught();
            near.ask("batch", 0);
            near.takes(0, 42, 1).reads(row).due(Run.NONE, "twin");
        }
    }

    private static void out(Sentences sentences) {
        Run run = sentences.run("Promise 15", "OUT of a BATCH.").taught();
        run.due(0, "batch", 1_000_000_000).due(1, "batch", 0).due(-1_000_000_000, "out", 0).due(0, "out", 1);
        run.takes(1, 1, 9_999_999).takes(1, 2, 9_999_999).takes(0, 3, 1);
        run.due(19_999_998, "out", 1).due(-999_999_999, "out", 0);
    }

    private static void slips(Sentences sentences) {
        Run run = sentences.run("Promise 16", "How many SLIPS explain it.").taught();
        run.due(0, "batch", 0).due(1, "batch", 700).due(0, "slips", 0).due(1, "slips", 1);
        run.takes(0, 1, 500).due(2, "slips", 0).due(1, "slips", 1);
        run.takes(1, 2, 300).due(2, "slips", 1).due(2, "slips", 0);
        run.takes(1, 3, 800).due(1100 - 700, "out", 1).due(1, "slips", 1).due(800, "amount", 2, 400).due(0, "slips", 1);
    }

    /** Takes more calls than are promised. Each of 100 papers of 1 has a slip of kind 0 and one of kind 2. */
    private static void mostSlips(Sentences sentences) {
        Run run = sentences.run("Promise 16", "How many SLIPS explain it.").beyondTheLastCall().taught();
        run.ask("batch", 99);
        for (int number = 0; number < 100; number++) {
            run.takes(0, number, 1);
        }
        run.due(1, "out", 0).due(200, "slips", 0);
        run.due(2, "slip", 0, 199, 0).due(99, "slip", 0, 199, 1).due(Run.NONE, "slip", 0, 200, 0);
    }

    private static void slipAnswers(Sentences sentences) {
        String quote = "Of SLIP k: 0 its kind, 1 the PAPER, 2 the AMOUNT that it should be (kind 2: 0);";
        Run run = sentences.run("Promise 17", quote).taught();
        run.due(0, "batch", 1010).due(1, "batch", 1243).due(2, "batch", 0);
        run.takes(0, 1, 1000).takes(1, 2, 1234).takes(2, 3, 1230);
        run.due(0, "slip", 0, 0, 0).due(0, "slip", 0, 0, 1).due(1010, "slip", 0, 0, 2);
        run.due(3, "slip", 0, 1, 0).due(-1, "slip", 0, 1, 1).due(10, "slip", 0, 1, 2);
        run.due(1, "slip", 1, 0, 0).due(1, "slip", 1, 0, 1).due(1243, "slip", 1, 0, 2);
        run.due(3, "slip", 1, 1, 0).due(-1, "slip", 1, 1, 1).due(9, "slip", 1, 1, 2);
        run.due(2, "slip", 2, 0, 0).due(2, "slip", 2, 0, 1).due(0, "slip", 2, 0, 2);
    }

    private static void slipNone(Sentences sentences) {
        Run run = sentences.run("Promise 17", "NONE without one.").taught();
        run.due(0, "batch", 1010).due(1, "batch", 0).takes(0, 1, 1000).due(2, "slips", 0);
        for (int what = 0; what <= 2; what++) {
            for (int k : new int[] {-1, 2, 3, 300, 301}) {
                run.due(Run.NONE, "slip", 0, k, what);
            }
            for (int k : Run.WILD) {
                run.due(Run.NONE, "slip", 0, k, what);
            }
            run.due(Run.NONE, "slip", 1, 0, what);
        }
        run.due(1000, "amount", 0, 1010).due(Run.NONE, "slip", 0, 0, 0).due(Run.NONE, "slip", 0, 0, 2);
    }

    private static void slipAnotherWhat(Sentences sentences) {
        Run run = sentences.run("Promise 17", "IllegalArgumentException: another what.");
        run.due(0, "batch", 5).due(1, "batch", 0);
        run.stays(desk -> {
            for (int what : new int[] {-1, 3, Run.WILD[0], Run.WILD[1], Run.WILD[2], Run.WILD[3]}) {
                desk.due(Run.ARGUMENT, "slip", 0, 0, what).due(Run.ARGUMENT, "slip", 0, 1, what);
                desk.due(Run.ARGUMENT, "slip", 0, -1, what).due(Run.ARGUMENT, "slip", 1, 0, what);
            }
        });
        run.due(3, "slip", 0, 0, 0);
    }

    private static void countAnswers(Sentences sentences) {
        Run run = sentences.run("Promise 18", "0 SIGNS taught, 1 ticks, 2 BATCHES, 3 PAPERS;");
        for (int sign = 0; sign < 12; sign++) {
            run.due(sign, "count", 0).due(1, "teach", 11 - sign, Lines.ALPHABET[11 - sign]);
        }
        run.due(12, "count", 0).due(0, "count", 1).due(0, "count", 2).due(0, "count", 3);
        run.due(0, "batch", 5).due(1, "batch", 5).due(2, "batch", 5).due(3, "count", 2);
        run.signs(FITTING).due(108, "count", 1).due(0, "read").due(0, "count", 1).due(0, "count", 3);
        run.due(0, "paper", 0, 5).due(1, "count", 3).ticks(1, 1).due(2, "count", 1).due(12, "count", 0);
        run.due(3, "count", 2);
    }

    private static void countNone(Sentences sentences) {
        Run run = sentences.run("Promise 18", "NONE for others.").taught().ticks(5);
        run.stays(desk -> {
            desk.due(Run.NONE, "count", -1).due(Run.NONE, "count", 4).due(Run.NONE, "count", 5);
            for (int what : Run.WILD) {
                desk.due(Run.NONE, "count", what);
            }
        });
    }

    /** Four papers are the most that fit into 512 calls. */
    private static void lastCall(Sentences sentences) {
        String quote = "An object is used for at most 512 calls after it has been made; what later calls answer is free.";
        Run run = sentences.run("What it is", quote).taught();
        run.due(0, "batch", 400);
        for (int number = 0; number < 4; number++) {
            run.takes(0, number, 100 + number);
        }
        while (run.callsLeft() > 5) {
            run.due(6, "out", 0);
        }
        run.due(103, "amount", 3, 104).due(7, "out", 0).due(0, "slips", 0).due(104, "amount", 3, 105);
        run.due(8, "out", 0);
    }
}
