/** Promises 1 to 10, sentence by sentence: what is taught, ticked and read. */
final class ReadingPromises {
    private static final String FITTING = "A1234B123451B0042A";
    private static final String MISFIT = "A1234B123452B0042A";
    private static final String CHOSEN =
        "The k-th of the OTHERS is the reading from now on (its COST is that; GAP 0; SPEEDS as they were): 1;";
    private static final String ANOTHER_WHAT = "IllegalArgumentException: another what.";

    private ReadingPromises() {
    }

    static void all(Sentences sentences) {
        newDesk(sentences);
        teachOrder(sentences);
        teachAnswers(sentences);
        teachWrongSigns(sentences);
        teachWrongDigits(sentences);
        teachWrongLengths(sentences);
        tickAnswers(sentences);
        tickFull(sentences);
        tickWrong(sentences);
        readTakesTheStripes(sentences);
        readRefused(sentences);
        readUntaught(sentences);
        readNoSixes(sentences);
        aboutLatest(sentences);
        aboutNone(sentences);
        placeAnswers(sentences);
        placeNone(sentences);
        fieldAnswers(sentences);
        fieldNone(sentences);
        othersAnswers(sentences);
        othersNone(sentences);
        otherAnswers(sentences);
        otherNone(sentences);
        chooseIsTheReading(sentences);
        chooseAgain(sentences);
        chooseNone(sentences);
        anotherWhat(sentences);
    }

    private static void newDesk(Sentences sentences) {
        String quote = "No SIGN is taught; no STRIPES, no BATCHES.";
        Run first = sentences.run("Promise 1", quote).taught().ticks(5, 5, 5);
        first.due(0, "batch", 5);
        Run run = sentences.run("Promise 1", quote);
        run.due(0, "count", 0).due(0, "count", 1).due(0, "count", 2).due(0, "count", 3);
        run.due(-1, "read").due(Run.NONE, "about", 0).due(Run.NONE, "place", 0, 0).due(Run.NONE, "field", 0);
        run.due(0, "others").due(Run.NONE, "other", 0, 0).due(0, "choose", 0).due(Run.NONE, "twin");
        run.due(Run.BOUNDS, "out", 0).due(Run.BOUNDS, "slips", 0).due(Run.BOUNDS, "slip", 0, 0, 0);
        run.due(Run.BOUNDS, "paper", 0, 0).due(Run.BOUNDS, "amount", 0, 0);
        run.due(1, "tick", 5).due(0, "batch", 5).due(1, "teach", 0, 111111);
        first.due(12, "count", 0).due(3, "count", 1).due(1, "count", 2);
    }

    /** Read from either end these stripes cost nothing, so they are read as they are. */
    private static void teachOrder(Sentences sentences) {
        Run run = sentences.run("Promise 2", "WIDTHS of a SIGN, as a number of six digits, the first one first:");
        run.taught(333111, 111333, 123321);
        run.ticks(24, 24, 24, 8, 8, 8).due(0, "read").dueSigns(0).due(0, "about", 3);
        run.ticks(8, 8, 8, 24, 24, 24).due(0, "read").dueSigns(1).due(0, "about", 3);
        run.due(1, "teach", 5, 112233).ticks(8, 8, 16, 16, 24, 24).due(0, "read").dueSigns(5).due(0, "about", 3);
    }

    private static void teachAnswers(Sentences sentences) {
        Run run = sentences.run("Promise 2", "1, if it had others, or none; 0.");
        run.due(1, "teach", 0, 111111).due(1, "count", 0);
        run.due(0, "teach", 0, 111111).due(1, "count", 0);
        run.due(1, "teach", 0, 333333).due(1, "count", 0);
        run.due(1, "teach", 0, 111111).due(0, "teach", 0, 111111).due(1, "count", 0);
        run.due(1, "teach", 11, 111111).due(2, "count", 0);
        run.taught(222222).flat(16).due(0, "read").dueSpeeds(8);
        run.taught(111111).flat(8).due(0, "read").dueSpeeds(8);
    }

    private static void teachWrongSigns(Sentences sentences) {
        Run run = sentences.run("Promise 2", "IllegalArgumentException: no such SIGN,").taught();
        run.stays(desk -> {
            for (int sign : new int[] {-1, 12, 13, 100}) {
                desk.due(Run.ARGUMENT, "teach", sign, 111111);
            }
            for (int sign : Run.WILD) {
                desk.due(Run.ARGUMENT, "teach", sign, 111111);
            }
            desk.due(Run.ARGUMENT, "teach", 12, 0);
        });
        run.due(1, "teach", 0, 111111).due(1, "teach", 11, 111111);
    }

    /** A wrong digit at each place, and no width is taught by it. */
    private static void teachWrongDigits(Sentences sentences) {
        Run run = sentences.run("Promise 2", "or a digit is not 1 to 3,");
        run.stays(desk -> {
            int rank = 1;
            for (int digit = 0; digit < 6; digit++) {
                desk.due(Run.ARGUMENT, "teach", 1, 111111 + 3 * rank).due(Run.ARGUMENT, "teach", 1, 333333 + rank);
                desk.due(Run.ARGUMENT, "teach", 1, 222222 + 7 * rank).due(Run.ARGUMENT, "teach", 1, 222222 - 2 * rank);
                rank = rank * 10;
            }
        });
        run.due(1, "teach", 1, 111111).due(Run.ARGUMENT, "teach", 1, 111114).due(0, "teach", 1, 111111);
        run.due(1, "teach", 1, 333333).due(1, "teach", 1, 123123);
    }

    private static void teachWrongLengths(Sentences sentences) {
        Run run = sentences.run("Promise 2", "or there are not six.");
        run.stays(desk -> {
            int[] wrong = {0, 1, 3, 11, 11111, 33333, 1111111, 3333333, 11111111, 1111111111, 2111111111,
                -1, -111111, -333333};
            for (int widths : wrong) {
                desk.due(Run.ARGUMENT, "teach", 0, widths);
            }
            for (int widths : Run.WILD) {
                desk.due(Run.ARGUMENT, "teach", 0, widths);
            }
        });
        run.due(1, "teach", 0, 111111);
    }

    private static void tickAnswers(Sentences sentences) {
        Run run = sentences.run("Promise 3", "A tick: how many there are;").taught();
        run.due(1, "tick", 8).due(2, "tick", 8).due(3, "tick", 8).due(4, "tick", 16).due(5, "tick", 16);
        run.due(6, "tick", 16).due(6, "count", 1).due(0, "read").dueSigns(0);
        run.due(1, "tick", 8).due(1, "count", 1);
    }

    private static void tickFull(Sentences sentences) {
        Run run = sentences.run("Promise 3", "NONE, doing nothing: there are 120.").taught(111111);
        for (int n = 1; n <= 119; n++) {
            run.due(n, "tick", 8);
        }
        run.due(120, "tick", 9).due(120, "count", 1);
        run.stays(desk -> desk.due(Run.NONE, "tick", 60).due(Run.NONE, "tick", 1).due(Run.NONE, "tick", 8));
        run.due(1, "read").due(20, "about", 0);
        run.due(1, "tick", 8);
    }

    private static void tickWrong(Sentences sentences) {
        Run run = sentences.run("Promise 3", "IllegalArgumentException: it is not 1 to 60.").taught(111111);
        run.ticks(8, 8, 8, 8, 8);
        run.stays(desk -> {
            desk.due(Run.ARGUMENT, "tick", 0).due(Run.ARGUMENT, "tick", 61).due(Run.ARGUMENT, "tick", -1);
            for (int n : Run.WILD) {
                desk.due(Run.ARGUMENT, "tick", n);
            }
        });
        run.due(6, "tick", 8).due(0, "read").due(1, "tick", 1).due(2, "tick", 60);
        for (int n = 3; n <= 120; n++) {
            run.due(n, "tick", 8);
        }
        run.due(Run.ARGUMENT, "tick", 61).due(Run.ARGUMENT, "tick", 0).due(120, "count", 1);
    }

    private static void readTakesTheStripes(Sentences sentences) {
        Run run = sentences.run("Promise 4", "The STRIPES (none are left then) are read: the COST of BEST;").taught();
        run.signs("3").due(0, "read").due(0, "count", 1).due(-2, "read").due(1, "tick", 10);
        run.ticks(8, 8, 16, 16, 16).due(2, "read").due(2, "about", 1).dueSigns(0).due(0, "count", 1);
        run.ticks(1, 60, 1, 60, 1, 60).due(3 * 24 + 3 * 11, "read");
        run.due(105, "about", 1).due(1, "about", 3).dueSigns(11);
    }

    private static void readRefused(Sentences sentences) {
        Run run = sentences.run("Promise 4", "or, and they stay, the first of these:");
        run.stays(desk -> desk.due(-1, "read"));
        run.ticks(8).stays(desk -> desk.due(-1, "read"));
        run.ticks(8, 8, 16, 16).stays(desk -> desk.due(-1, "read"));
        run.taught().stays(desk -> desk.due(-2, "read"));
        run.due(6, "tick", 16).due(0, "read").dueSigns(0);
        run.stays(desk -> desk.due(-2, "read"));
        run.ticks(60, 60).stays(desk -> desk.due(-2, "read"));
        run.dueSigns(0).due(2, "count", 1);
    }

    /** Each sign lacks once, and all the others are taught. */
    private static void readUntaught(Sentences sentences) {
        for (int lacks = 0; lacks < 12; lacks++) {
            Run run = sentences.run("Promise 4", "-1: a SIGN is not taught;");
            for (int sign = 0; sign < 12; sign++) {
                if (sign != lacks) {
                    run.due(1, "teach", sign, Lines.ALPHABET[sign]);
                }
            }
            run.due(-1, "read").signs("1").due(-1, "read").due(11, "count", 0).due(6, "count", 1);
            run.ticks(8).due(-1, "read");
            run.ticks(8, 16, 8, 16, 16).due(1, "teach", lacks, Lines.ALPHABET[lacks]).due(0, "read").dueSigns(1, 1);
        }
    }

    private static void readNoSixes(Sentences sentences) {
        Run run = sentences.run("Promise 4", "-2: they are no six for each place, or none.").taught(111111);
        run.due(-2, "read");
        for (int n = 1; n <= 120; n++) {
            run.due(n, "tick", 8);
            if (n % 6 != 0) {
                run.due(-2, "read").due(n, "count", 1);
            }
        }
        run.due(0, "read").due(20, "about", 0).due(-2, "read").due(20, "about", 0);
    }

    private static void aboutLatest(Sentences sentences) {
        Run run = sentences.run("Promise 5", "Of the latest reading: 0 how many places, 1 COST, 2 GAP, "
            + "3 whether TURNED (1, 0), 4 whether it is a LINE that FITS;").taught();
        int[] ticks = Lines.ticksOf(Lines.signs(FITTING), 8);
        ticks[3] += 2;
        run.ticks(ticks).due(2, "read");
        run.due(18, "about", 0).due(2, "about", 1).due(16, "about", 2).due(0, "about", 3).due(1, "about", 4);
        run.ticks(8, 8, 8, 8, 8).due(-2, "read").due(1, "teach", 0, 333333);
        run.due(18, "about", 0).due(2, "about", 1).due(16, "about", 2).due(0, "about", 3).due(1, "about", 4);
        run.due(1, "teach", 0, 111222).due(6, "tick", 8).due(12, "read");
        run.due(1, "about", 0).due(12, "about", 1).due(0, "about", 2).due(0, "about", 3).due(0, "about", 4);
        run.turnedSigns(FITTING).due(0, "read");
        run.due(18, "about", 0).due(0, "about", 1).due(16, "about", 2).due(1, "about", 3).due(1, "about", 4);
        run.reads(MISFIT).due(18, "about", 0).due(0, "about", 3).due(0, "about", 4);
    }

    private static void aboutNone(Sentences sentences) {
        Run run = sentences.run("Promise 5", "NONE ahead of any.");
        run.ask("batch", 0);
        dueNoAbout(run);
        dueNoAbout(run.taught().signs(FITTING));
        run.due(0, "read").due(18, "about", 0).due(0, "paper", 0, 5);
        dueNoAbout(run);
        run.signs("1").due(0, "read").due(1, "about", 0);
    }

    private static void dueNoAbout(Run run) {
        for (int what = 0; what <= 4; what++) {
            run.due(Run.NONE, "about", what);
        }
    }

    private static void placeAnswers(Sentences sentences) {
        Run run = sentences.run("Promise 6", "Its SIGN (0) or SPEED (1) at a place;").taught();
        run.ticks(Lines.ticksOf(Lines.signs("0123456789AB01234567"), 12)).due(0, "read");
        for (int k = 0; k < 20; k++) {
            run.due(k % 12, "place", k, 0).due(12, "place", k, 1);
        }
        run.ticks(Lines.ticksOf(Lines.signs("B"), 5)).ticks(Lines.ticksOf(Lines.signs("A"), 4)).due(0, "read");
        run.dueSigns(11, 10).dueSpeeds(5, 4);
    }

    private static void placeNone(Sentences sentences) {
        Run run = sentences.run("Promise 6", "NONE without.").taught();
        run.ask("batch", 0);
        run.due(Run.NONE, "place", 0, 0).due(Run.NONE, "place", 0, 1);
        run.reads("91").due(1, "place", 1, 0);
        for (int what = 0; what <= 1; what++) {
            for (int k : new int[] {-1, 2, 3, 19, 20, 120}) {
                run.due(Run.NONE, "place", k, what);
            }
            for (int k : Run.WILD) {
                run.due(Run.NONE, "place", k, what);
            }
        }
        run.reads(FITTING).due(10, "place", 17, 0).due(Run.NONE, "place", 18, 0).due(0, "paper", 0, 5);
        run.due(Run.NONE, "place", 0, 0).due(Run.NONE, "place", 0, 1).due(Run.NONE, "place", 17, 0);
        run.reads("9").due(9, "place", 0, 0).due(Run.NONE, "place", 1, 0);
    }

    private static void fieldAnswers(Sentences sentences) {
        Run run = sentences.run("Promise 7", "BANK (0), ACCOUNT (1), NUMBER (2) of the latest reading;").taught();
        run.reads("A0907B000000B0001A").due(907, "field", 0).due(0, "field", 1).due(1, "field", 2);
        run.reads("A9999B999991B9999A").due(9999, "field", 0).due(999991, "field", 1).due(9999, "field", 2);
        run.turnedSigns("A1230B100003B4560A").due(0, "read");
        run.due(1230, "field", 0).due(100003, "field", 1).due(4560, "field", 2);
        run.due(1, "choose", 0).due(230, "field", 0).due(100003, "field", 1).due(4560, "field", 2);
    }

    private static void fieldNone(Sentences sentences) {
        String quote = "NONE: it doesn't FIT.";
        Run none = sentences.run("Promise 7", quote).taught();
        none.ask("batch", 0);
        dueNoField(none);
        none.reads(FITTING).due(1234, "field", 0).due(0, "paper", 0, 5);
        dueNoField(none);
        for (String row : new String[] {MISFIT, "A1234A123451B0042A", "A1234B123451B0042", "A1234B123451B0042AA", "1",
            "A12B4B123451B0042A"}) {
            Run run = sentences.run("Promise 7", quote).taught();
            run.reads(FITTING).due(42, "field", 2).reads(row);
            dueNoField(run);
        }
    }

    private static void dueNoField(Run run) {
        run.due(Run.NONE, "field", 0).due(Run.NONE, "field", 1).due(Run.NONE, "field", 2);
    }

    private static void othersAnswers(Sentences sentences) {
        Run run = sentences.run("Promise 8", "How many OTHERS the latest reading has;").taught();
        run.due(0, "others").reads(FITTING).due(72, "others");
        run.reads(MISFIT).due(6, "others");
        run.reads("A12B4B123451B0042A").due(10, "others");
        run.reads("A1234A123451B0042A").due(1, "others");
    }

    private static void othersNone(Sentences sentences) {
        String quote = "0 without 18 places.";
        Run none = sentences.run("Promise 8", quote).taught();
        none.ask("batch", 0);
        none.due(0, "others").reads(FITTING).due(72, "others").due(0, "paper", 0, 5).due(0, "others");
        for (String row : new String[] {"A", "1234B123451B0042A", "A1234B123451B0042", "A1234B123451B0042A1",
            "A1234B123451B0042A10"}) {
            sentences.run("Promise 8", quote).taught().reads(FITTING).reads(row).due(0, "others");
        }
    }

    private static void otherAnswers(Sentences sentences) {
        String quote = "Of the k-th of the OTHERS: 0 the place, 1 the SIGN, 2 what it costs more;";
        Run run = sentences.run("Promise 9", quote).taught().reads(FITTING);
        run.due(1, "other", 0, 0).due(0, "other", 0, 1).due(16, "other", 0, 2);
        run.due(1, "other", 1, 0).due(2, "other", 1, 1).due(16, "other", 1, 2);
        run.due(1, "other", 8, 0).due(9, "other", 8, 1).due(2, "other", 9, 0).due(0, "other", 9, 1);
        run.due(16, "other", 71, 0).due(9, "other", 71, 1);
        run.reads(MISFIT).due(6, "other", 0, 0).due(8, "other", 0, 1).due(11, "other", 5, 0).due(1, "other", 5, 1);
    }

    private static void otherNone(Sentences sentences) {
        Run run = sentences.run("Promise 9", "NONE without one.").taught();
        run.ask("batch", 0);
        run.due(Run.NONE, "other", 0, 0).reads("1").due(Run.NONE, "other", 0, 0).reads(FITTING);
        for (int what = 0; what <= 2; what++) {
            for (int k : new int[] {-1, 72, 73, 216}) {
                run.due(Run.NONE, "other", k, what);
            }
            for (int k : Run.WILD) {
                run.due(Run.NONE, "other", k, what);
            }
        }
        run.due(16, "other", 71, 0).due(0, "paper", 0, 5);
        run.due(Run.NONE, "other", 0, 0).due(Run.NONE, "other", 0, 1).due(Run.NONE, "other", 0, 2);
    }

    /** A 1 for a 0 costs least, 36, with SPEED 7 at its place; and yet the SPEEDS stay at 8. */
    private static void chooseIsTheReading(Sentences sentences) {
        Run run = sentences.run("Promise 10", CHOSEN).taught().reads(FITTING).due(16, "about", 2);
        run.due(16, "other", 0, 2).due(1, "choose", 0);
        run.due(18, "about", 0).due(16, "about", 1).due(0, "about", 2).due(0, "about", 3).due(1, "about", 4);
        run.due(0, "place", 1, 0).due(8, "place", 1, 1).due(2, "place", 2, 0).due(234, "field", 0);
        run.due(123451, "field", 1).due(42, "field", 2).due(72, "others");
        Run slower = sentences.run("Promise 10", CHOSEN).taught(Lines.flatZero());
        slower.ticks(Lines.flatZeros()).due(0, "read").due(36, "other", 0, 2).due(1, "choose", 0).due(36, "about", 1).due(1, "place", 1, 0);
        for (int k = 0; k < 18; k++) {
            slower.due(8, "place", k, 1);
        }
        Run stranger = sentences.run("Promise 10", CHOSEN).taught().reads("A1234B123451B004AA").due(0, "about", 4);
        stranger.due(1, "choose", 2).due(1, "about", 4).due(42, "field", 2).due(72, "others").due(Run.NONE, "twin");
        Run turned = sentences.run("Promise 10", CHOSEN).taught().turnedSigns(FITTING).due(0, "read");
        turned.due(1, "choose", 71).due(1, "about", 3).due(49, "field", 2).due(9, "place", 16, 0);
    }

    /** From the other back again: that costs less, by as much as the first step cost more. */
    private static void chooseAgain(Sentences sentences) {
        Run run = sentences.run("Promise 10", CHOSEN).taught().reads(FITTING).due(1, "choose", 0);
        run.due(1, "other", 0, 0).due(1, "other", 0, 1).due(-16, "other", 0, 2);
        run.due(1, "other", 1, 0).due(2, "other", 1, 1).due(0, "other", 1, 2).due(1, "choose", 0);
        run.due(0, "about", 1).due(0, "about", 2).due(1234, "field", 0).due(16, "other", 0, 2);
        run.due(1, "choose", 0).due(1, "choose", 9).due(34, "field", 0).due(16 + 16, "about", 1).due(0, "about", 2);
    }

    private static void chooseNone(Sentences sentences) {
        Run run = sentences.run("Promise 10", "0: there is none.").taught();
        run.ask("batch", 0);
        run.stays(desk -> desk.due(0, "choose", 0).due(0, "choose", -1));
        run.reads("1").stays(desk -> desk.due(0, "choose", 0));
        run.reads(FITTING).stays(desk -> {
            desk.due(0, "choose", -1).due(0, "choose", 72).due(0, "choose", 73);
            for (int k : Run.WILD) {
                desk.due(0, "choose", k);
            }
        });
        run.due(0, "paper", 0, 5).due(0, "choose", 0);
        Run two = sentences.run("Promise 10", "0: there is none.").taught().reads("A12A4B123451B00B2A");
        two.due(0, "others").stays(desk -> desk.due(0, "choose", 0));
    }

    /** The same sentence in four promises: without a reading, with one, and beside a k that is wrong too. */
    private static void anotherWhat(Sentences sentences) {
        dueRefused(sentences, "Promise 5", "about", 4);
        dueRefused(sentences, "Promise 6", "place", 1);
        dueRefused(sentences, "Promise 7", "field", 2);
        dueRefused(sentences, "Promise 9", "other", 2);
    }

    private static void dueRefused(Sentences sentences, String promise, String name, int last) {
        Run run = sentences.run(promise, ANOTHER_WHAT).taught();
        dueRefused(run, name, last);
        run.signs(FITTING).due(0, "read");
        run.stays(desk -> dueRefused(desk, name, last));
    }

    private static void dueRefused(Run run, String name, int last) {
        boolean hasK = name.equals("place") || name.equals("other");
        for (int what : new int[] {-1, last + 1, Run.WILD[0], Run.WILD[1], Run.WILD[2], Run.WILD[3]}) {
            if (hasK) {
                run.due(Run.ARGUMENT, name, 0, what).due(Run.ARGUMENT, name, -1, what);
                run.due(Run.ARGUMENT, name, 99, what);
            } else {
                run.due(Run.ARGUMENT, name, what);
            }
        }
    }
}
