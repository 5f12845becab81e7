/** The terms: signs, widths, speeds, stripes, and what a reading is. */
final class ReadingTerms {
    private static final String TERMS = "Terms";
    private static final String GAP = "GAP: how much more those cost at least that have another SIGN at any place.";

    private ReadingTerms() {
    }

    static void all(Sentences sentences) {
        signs(sentences);
        widths(sentences);
        speeds(sentences);
        stripes(sentences);
        places(sentences);
        neighbours(sentences);
        cost(sentences);
        least(sentences);
        firstSigns(sentences);
        firstSpeeds(sentences);
        gap(sentences);
        gapOfTies(sentences);
        gapOfDearOnes(sentences);
        turned(sentences);
    }

    private static void signs(Sentences sentences) {
        String quote = "SIGNS 0 to 11: 0 to 9 are digits, 10 and 11 marks.";
        sentences.run(TERMS, quote)
            .due(1, "teach", 0, 111111)
            .due(1, "teach", 11, 111111)
            .due(Run.ARGUMENT, "teach", -1, 111111)
            .due(Run.ARGUMENT, "teach", 12, 111111)
            .due(2, "count", 0);
        sentences.run(TERMS, quote).taught()
            .reads("A1204B000000B0000A").due(1, "about", 4)
            .reads("A1294B000000B0000A").due(1, "about", 4)
            .reads("A12A4B000000B0000A").due(0, "about", 4)
            .reads("A12B4B000000B0000A").due(0, "about", 4);
    }

    /** Six signs have one wide stripe each, so each of the six is told from the others by one width alone. */
    private static void widths(Sentences sentences) {
        String quote = "Each has six WIDTHS of 1 to 3, bars and gaps by turns, once they are taught.";
        Run run = sentences.run(TERMS, quote);
        run.taught(111111, 311111, 131111, 113111, 111311, 111131, 111113, 333333);
        for (int wide = 0; wide < 6; wide++) {
            for (int i = 0; i < 6; i++) {
                run.ticks(i == wide ? 24 : 8);
            }
            run.due(0, "read").due(wide + 1, "place", 0, 0);
        }
        run.flat(8).due(0, "read").due(0, "place", 0, 0);
        run.flat(36).due(0, "read").due(7, "place", 0, 0);
        run.due(Run.ARGUMENT, "teach", 0, 111110).due(Run.ARGUMENT, "teach", 0, 111114);
        sentences.run(TERMS, quote).flat(8).due(-1, "read").taught(111111).due(0, "read");
    }

    private static void speeds(Sentences sentences) {
        Run run = sentences.run(TERMS, "SPEEDS are 4 to 12 ticks for a WIDTH of 1.");
        run.taught(111111);
        run.flat(4).due(0, "read").dueSpeeds(4);
        run.flat(3).due(6, "read").dueSpeeds(4);
        run.flat(12).due(0, "read").dueSpeeds(12);
        run.flat(13).due(6, "read").dueSpeeds(12);
        run.flat(8, 9, 10, 11, 12, 13).due(6, "read").dueSpeeds(8, 9, 10, 11, 12, 12);
        run.flat(6, 5, 4, 3).due(6, "read").dueSpeeds(6, 5, 4, 4);
    }

    private static void stripes(Sentences sentences) {
        Run run = sentences.run(TERMS, "STRIPES: a row of ticks (1 to 60 each), 120 at most.");
        run.taught(111111);
        run.due(Run.ARGUMENT, "tick", 0).due(Run.ARGUMENT, "tick", 61).due(0, "count", 1);
        run.due(1, "tick", 1).due(2, "tick", 60);
        for (int n = 3; n <= 120; n++) {
            run.due(n, "tick", n % 60 + 1);
        }
        run.due(Run.NONE, "tick", 1).due(120, "count", 1);
        run.ask("read");
        run.due(20, "about", 0);
        run.flat(1).due(6 * 3, "read");
        run.flat(60).due(6 * 48, "read");
    }

    private static void places(Sentences sentences) {
        String quote = "A READING of STRIPES (six for each place, 1 to 20 places):";
        Run run = sentences.run(TERMS, quote).taught(111111);
        run.ticks(8, 8, 8, 8, 8).due(-2, "read");
        run.ticks(8).due(0, "read").due(1, "about", 0);
        run.ticks(8, 8, 8, 8, 8, 8, 8).due(-2, "read");
        run.ticks(8, 8, 8, 8, 8).due(0, "read").due(2, "about", 0);
        Run longest = sentences.run(TERMS, quote).taught(111111);
        for (int i = 0; i < 19; i++) {
            longest.flat(8);
        }
        longest.ticks(8, 8, 8, 8, 8).due(-2, "read").due(120, "tick", 8);
        longest.due(0, "read").due(20, "about", 0).due(0, "place", 19, 0).due(8, "place", 19, 1);
        longest.due(Run.NONE, "place", 20, 0);
    }

    private static void neighbours(Sentences sentences) {
        String quote = "a SIGN and a SPEED for each place, SPEEDS of neighbours 1 apart at most.";
        Run run = sentences.run(TERMS, quote).taught(111111);
        run.flat(7, 7).due(0, "read").dueSigns(0, 0).dueSpeeds(7, 7);
        run.flat(4, 5, 6, 5).due(0, "read").dueSigns(0, 0, 0, 0).dueSpeeds(4, 5, 6, 5);
        run.flat(12, 11, 12).due(0, "read").dueSpeeds(12, 11, 12);
        run.flat(4, 6).due(6, "read").dueSpeeds(4, 5);
        run.flat(6, 4).due(6, "read").dueSigns(0, 0).dueSpeeds(5, 4).due(0, "about", 2);
        run.flat(8).ticks(6, 6, 6, 8, 8, 8).due(6, "read").dueSpeeds(8, 7);
        run.flat(9).ticks(6, 6, 6, 8, 8, 8).due(6, "read").dueSpeeds(9, 8);
        run.flat(4, 12, 4).due(6 * 7, "read").dueSigns(0, 0, 0).dueSpeeds(4, 5, 4);
        run.flat(4, 4, 12, 12).due(6 * 12, "read").dueSpeeds(4, 5, 6, 7);
    }

    private static void cost(Sentences sentences) {
        Run run = sentences.run(TERMS, "COST: the sum of how far each tick is from SPEED times WIDTH.");
        run.taught(111111, 313131, 333333);
        run.ticks(10, 8, 8, 8, 8, 5).due(5, "read").dueSigns(0).dueSpeeds(8);
        run.ticks(36, 12, 36, 12, 36, 12).due(0, "read").dueSigns(1).dueSpeeds(12);
        run.ticks(35, 13, 34, 12, 36, 12).due(4, "read").dueSigns(1).dueSpeeds(12);
        run.flat(60).due(6 * 24, "read").dueSigns(2).dueSpeeds(12);
        run.flat(1, 60, 1).due(6 * (10 + 24 + 10), "read").dueSigns(0, 2, 0).dueSpeeds(11, 12, 11);
    }

    /** Alone, each place would be read as 0; but 1 at SPEEDS 4 and 5 is nearer than 0 at 8 and 9. */
    private static void least(Sentences sentences) {
        String quote = "BEST: of all READINGS those of the least COST;";
        Run run = sentences.run(TERMS, quote).taught(111111, 222222, 333333);
        run.flat(8, 10).due(0, "read").dueSigns(1, 1).dueSpeeds(4, 5).due(6, "about", 2);
        run.flat(8).due(0, "read").dueSigns(0);
        run.flat(10).due(0, "read").dueSigns(0);
        sentences.run(TERMS, quote).taught().reads("B").dueSigns(11).due(0, "about", 1);
        sentences.run(TERMS, quote).taught().ticks(8, 8, 8, 16, 15, 16).due(1, "read").dueSigns(0);
    }

    private static void firstSigns(Sentences sentences) {
        String quote = "of these those whose SIGNS are first (place by place, the least first),";
        sentences.run(TERMS, quote).taught(111111).flat(8, 8, 8).due(0, "read").dueSigns(0, 0, 0);
        Run same = sentences.run(TERMS, quote).taught();
        same.due(1, "teach", 7, Lines.ALPHABET[4]).due(1, "teach", 11, Lines.ALPHABET[10]);
        same.reads("414A").dueSigns(4, 1, 4, 10);
        Run across = sentences.run(TERMS, quote).taught(111111, 333333, 222222, 313131);
        across.flat(8).ticks(14, 14, 14, 15, 15, 15).due(3, "read");
        across.due(0, "about", 2).dueSigns(0, 2).dueSpeeds(8, 7);
        Run ahead = sentences.run(TERMS, quote).taught(111111, 222222, 333333);
        ahead.flat(12).due(0, "read").dueSigns(0).dueSpeeds(12);
    }

    /** With SIGNS 0 and 1 the first SPEED could be 7, at no more cost; but 0 and 0 come first, and begin at 9. */
    private static void firstSpeeds(Sentences sentences) {
        String quote = "of these the one whose SPEEDS are first.";
        Run ofTheSigns = sentences.run(TERMS, quote).taught(111111, 222222, 333333);
        ofTheSigns.ticks(7, 7, 7, 9, 9, 9).flat(11).due(12, "read").due(0, "about", 2);
        ofTheSigns.dueSigns(0, 0).dueSpeeds(9, 10);
        Run run = sentences.run(TERMS, quote).taught(111111);
        run.ticks(7, 7, 7, 9, 9, 9).due(6, "read").dueSpeeds(7);
        run.ticks(4, 4, 4, 12, 12, 12).due(24, "read").dueSpeeds(4);
        run.flat(6, 4).due(6, "read").dueSpeeds(5, 4);
        run.ticks(7, 7, 7, 9, 9, 9).flat(9).due(6, "read").dueSpeeds(8, 9);
        run.flat(5).ticks(7, 7, 7, 9, 9, 9).due(6 + 6, "read").dueSpeeds(5, 6);
        run.ticks(6, 6, 6, 8, 8, 8, 6, 6, 6, 8, 8, 8).due(12, "read").dueSpeeds(6, 6);
    }

    /** 2 is nearest to 0 where the stripes are narrowest, whichever place that is. */
    private static void gap(Sentences sentences) {
        Run run = sentences.run(TERMS, GAP).taught(111111, 333333, 111112, 333333);
        run.flat(8, 9, 9).due(0, "read").dueSigns(0, 0, 0).due(8, "about", 2);
        run.flat(9, 8, 9).due(0, "read").due(8, "about", 2);
        run.flat(9, 9, 8).due(0, "read").due(8, "about", 2);
        run.flat(9, 9, 9).due(0, "read").due(9, "about", 2);
        run.flat(8).due(0, "read").due(8, "about", 2);
        run.ticks(8, 8, 8, 8, 8, 9).due(1, "read").due(7 - 1, "about", 2);
        Run lies = sentences.run(TERMS, GAP).taught();
        lies.reads("0").due(16, "about", 2);
        lies.turnedSigns("0").due(0, "read").due(16, "about", 2);
    }

    private static void gapOfTies(Sentences sentences) {
        Run same = sentences.run(TERMS, GAP).taught();
        same.due(1, "teach", 7, Lines.ALPHABET[4]);
        same.reads("114").due(0, "about", 2).reads("411").due(0, "about", 2).reads("111").due(16, "about", 2);
        Run speedsAlone = sentences.run(TERMS, GAP).taught(111111, 333333);
        speedsAlone.ticks(7, 7, 7, 9, 9, 9).due(6, "read").due(24 - 6, "about", 2);
        Run both = sentences.run(TERMS, GAP).taught(111111, 222222, 333333);
        both.flat(8, 10).due(0, "read").dueSigns(1, 1).due(6, "about", 2);
    }

    private static void gapOfDearOnes(Sentences sentences) {
        Run run = sentences.run(TERMS, GAP).taught(111112, 111111);
        for (int place = 0; place < 20; place++) {
            run.flat(60);
        }
        run.due(20 * (5 * 48 + 36), "read").due(12, "about", 2).due(0, "place", 19, 0);
    }

    /** 0 costs the same both ways; 1 from the end costs 5, 4 or 3 where the first stripe is 13, 14 or 15. */
    private static void turned(Sentences sentences) {
        String quote = "STRIPES are read as they are, and from their end; TURNED is a paper if that costs less; "
            + "then that is the BEST.";
        Run run = sentences.run(TERMS, quote).taught(111111, 111112, 333333);
        run.ticks(13, 9, 9, 9, 9, 9).due(4, "read").due(0, "about", 3).dueSigns(0);
        run.ticks(14, 9, 9, 9, 9, 9).due(4, "read").due(1, "about", 3).dueSigns(1);
        run.ticks(12, 8, 8, 8, 8, 12).due(8, "read").due(0, "about", 3);
        run.ticks(12, 8, 8, 8, 8, 8).due(4, "read").due(0, "about", 3).dueSigns(0);
        run.ticks(9, 9, 9, 9, 9, 14).due(4, "read").due(0, "about", 3).dueSigns(1);
        run.flat(8).due(0, "read").due(0, "about", 3);
        Run rows = sentences.run(TERMS, quote).taught();
        rows.turnedSigns("A2B").due(0, "read").due(1, "about", 3).dueSigns(10, 2, 11);
        rows.signs("A2B").due(0, "read").due(0, "about", 3).dueSigns(10, 2, 11);
        Run speeds = sentences.run(TERMS, quote).taught(111112, 333333);
        speeds.ticks(18, 9, 9, 9, 9, 9, 16, 8, 8, 8, 8, 8, 14, 7, 7, 7, 7, 7);
        speeds.due(0, "read").due(1, "about", 3).dueSigns(0, 0, 0).dueSpeeds(7, 8, 9);
    }
}
