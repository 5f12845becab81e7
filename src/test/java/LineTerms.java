/** Part 2 of the terms: what a line is, when it fits, and what its others are. */
final class LineTerms {
    private static final String TERMS = "Terms";
    private static final String FITTING = "A1234B123451B0042A";
    private static final String LINE =
        "A LINE: 18 SIGNS: 10, four digits (BANK), 11, six digits (ACCOUNT), 11, four digits (NUMBER), 10.";
    private static final String OTHERS =
        "OTHERS of a reading of 18 places: all rows of its SIGNS but with another SIGN at one place that FIT,";

    private LineTerms() {
    }

    static void all(Sentences sentences) {
        line(sentences);
        fields(sentences);
        marksAndDigits(sentences);
        check(sentences);
        othersOfALineThatFits(sentences);
        othersOfOneStranger(sentences);
        othersOfAWrongSum(sentences);
        order(sentences);
        costsMore(sentences);
        costsOfTimesPast(sentences);
    }

    private static void dueFit(Sentences sentences, String quote, String row, boolean fits) {
        sentences.run(TERMS, quote).taught().reads(row)
            .due(row.length(), "about", 0)
            .due(fits ? 1 : 0, "about", 4);
    }

    private static void line(Sentences sentences) {
        dueFit(sentences, LINE, FITTING, true);
        dueFit(sentences, LINE, "A1234B000000B0000A", true);
        dueFit(sentences, LINE, "A1234B000000B0000", false);
        dueFit(sentences, LINE, "1234B000000B0000A", false);
        dueFit(sentences, LINE, "A1234B000000B0000A0", false);
        dueFit(sentences, LINE, "A1234B000000B0000AA", false);
        dueFit(sentences, LINE, "A123B000000B0000A", false);
        dueFit(sentences, LINE, "A123B0000000B0000A", false);
        dueFit(sentences, LINE, "A1234B00000B00000A", false);
        dueFit(sentences, LINE, "A", false);
        dueFit(sentences, LINE, "A1234B000000B0000AA1", false);
    }

    private static void fields(Sentences sentences) {
        sentences.run(TERMS, LINE).taught().reads("A9876B123451B0042A")
            .due(9876, "field", 0).due(123451, "field", 1).due(42, "field", 2);
        sentences.run(TERMS, LINE).taught().reads("A9999B999991B9999A")
            .due(9999, "field", 0).due(999991, "field", 1).due(9999, "field", 2);
        sentences.run(TERMS, LINE).taught().reads("A0000B000000B0000A")
            .due(0, "field", 0).due(0, "field", 1).due(0, "field", 2);
        sentences.run(TERMS, LINE).taught().reads("A1000B001009B0001A")
            .due(1000, "field", 0).due(1009, "field", 1).due(1, "field", 2);
    }

    /** Each place of a line that fits with each SIGN that may not stand there. */
    private static void marksAndDigits(Sentences sentences) {
        String quote = "It FITS, if marks and digits are where they are told,";
        String line = "A0000B000000B0000A";
        for (int place = 0; place < line.length(); place++) {
            boolean digit = line.charAt(place) == '0';
            for (char other : (digit ? "AB" : line.charAt(place) == 'A' ? "0B" : "9A").toCharArray()) {
                String row = line.substring(0, place) + other + line.substring(place + 1);
                dueFit(sentences, quote, row, false);
            }
            if (digit && (place < 6 || place > 12)) {
                dueFit(sentences, quote, line.substring(0, place) + '9' + line.substring(place + 1), true);
            }
        }
    }

    /** Each digit of the account as 1, beside each last digit: the two fit only if they come to 10. */
    private static void check(Sentences sentences) {
        String quote = "and 7 times the first digit of the ACCOUNT, 3 times the second, 1 the third, 7 the fourth, "
            + "3 the fifth and 1 the sixth come to a number of tens.";
        int[] weights = {7, 3, 1, 7, 3};
        for (int i = 0; i < weights.length; i++) {
            for (int last = 0; last <= 9; last++) {
                String account = "00000".substring(0, i) + "1" + "0000".substring(i) + last;
                dueFit(sentences, quote, "A1234B" + account + "B0042A", weights[i] + last == 10);
            }
        }
        for (int last = 0; last <= 9; last++) {
            dueFit(sentences, quote, "A1234B00000" + last + "B0042A", last == 0);
        }
        dueFit(sentences, quote, "A9999B999991B9999A", true);
        dueFit(sentences, quote, "A9999B999990B9999A", false);
        dueFit(sentences, quote, "A9999B999999B9999A", false);
    }

    private static void othersOfALineThatFits(Sentences sentences) {
        sentences.run(TERMS, OTHERS).taught().reads(FITTING).due(8 * 9, "others");
        sentences.run(TERMS, OTHERS).taught().reads("A0000B000000B0000A").due(8 * 9, "others");
        sentences.run(TERMS, OTHERS).taught().reads("A1234B123451B0042").due(0, "others");
        sentences.run(TERMS, OTHERS).taught().reads("A1234B123451B0042AA").due(0, "others");
        sentences.run(TERMS, OTHERS).taught().reads("A1234B123451B00420A").due(0, "others");
    }

    private static void othersOfOneStranger(Sentences sentences) {
        String[] rows = {"B1234B123451B0042A", "A1234A123451B0042A", "A1234B123451A0042A", "A1234B123451B0042B",
            "01234B123451B0042A", "A1234B123451B00429"};
        int[][] due = {{0, 10}, {5, 11}, {12, 11}, {17, 10}, {0, 10}, {17, 10}};
        for (int i = 0; i < rows.length; i++) {
            sentences.run(TERMS, OTHERS).taught().reads(rows[i]).dueOthers(due[i]);
        }
        for (String row : new String[] {"A12A4B123451B0042A", "A1234B123451B004BA"}) {
            int[][] digits = new int[10][];
            for (int sign = 0; sign <= 9; sign++) {
                digits[sign] = new int[] {row.startsWith("A12A") ? 3 : 16, sign};
            }
            sentences.run(TERMS, OTHERS).taught().reads(row).dueOthers(digits);
        }
        sentences.run(TERMS, OTHERS).taught().reads("A1234BA23451B0042A").dueOthers(new int[] {6, 1});
        sentences.run(TERMS, OTHERS).taught().reads("A1234BB23451B0042A").dueOthers(new int[] {6, 1});
        sentences.run(TERMS, OTHERS).taught().reads("A1234B12345BB0042A").dueOthers(new int[] {11, 1});
        for (String row : new String[] {"A12A4B123451B00B2A", "B1234B123451B0042B", "A12A4B123452B0042A",
            "A1234A123452B0042A", "AAAAAAAAAAAAAAAAAA"}) {
            sentences.run(TERMS, OTHERS).taught().reads(row).dueOthers();
        }
    }

    /** The account's digits weigh 7, 3, 1, 7, 3, 1, and so each has one digit that sets the sum right. */
    private static void othersOfAWrongSum(Sentences sentences) {
        sentences.run(TERMS, OTHERS).taught().reads("A1234B123452B0042A").dueOthers(new int[] {6, 8}, new int[] {7, 5},
            new int[] {8, 2}, new int[] {9, 1}, new int[] {10, 8}, new int[] {11, 1});
        sentences.run(TERMS, OTHERS).taught().reads("A1234B000005B0042A").dueOthers(new int[] {6, 5}, new int[] {7, 5},
            new int[] {8, 5}, new int[] {9, 5}, new int[] {10, 5}, new int[] {11, 0});
    }

    private static void order(Sentences sentences) {
        Run run = sentences.run(TERMS, "in order of the place, then of the SIGN;").taught().reads("A9050B000000B0009A");
        int[] own = {9, 0, 5, 0, 0, 0, 0, 9};
        int k = 0;
        for (int digit = 0; digit < own.length; digit++) {
            for (int sign = 0; sign <= 9; sign++) {
                if (sign != own[digit]) {
                    run.due(digit < 4 ? 1 + digit : 9 + digit, "other", k, 0).due(sign, "other", k, 1);
                    k++;
                }
            }
        }
        run.due(k, "others").due(Run.NONE, "other", k, 0);
    }

    /** With 1 or 2 for a 0, the head would rather run a little slower there: at 7, between neighbours at 8. */
    private static void costsMore(Sentences sentences) {
        String quote = "what each costs more: the least COST of all READINGS of its STRIPES with these SIGNS, "
            + "less its own COST";
        int[] zeros = Lines.flatZeros();
        Run run = sentences.run(TERMS, quote).taught(Lines.flatZero());
        run.ticks(zeros).due(0, "read").due(1, "about", 4);
        run.due(1, "other", 0, 0).due(1, "other", 0, 1).due(36, "other", 0, 2);
        run.due(2, "other", 1, 1).due(3 + 18, "other", 1, 2);
        run.due(16, "other", 71, 0).due(9, "other", 71, 1).due(3 + 18, "other", 71, 2);
        Run turned = sentences.run(TERMS, quote).taught(Lines.flatZero());
        turned.ticks(Lines.turned(zeros)).due(0, "read").due(1, "about", 3).due(36, "other", 0, 2);
        zeros[6] = 10;
        Run dearer = sentences.run(TERMS, quote).taught(Lines.flatZero()).ticks(zeros);
        dearer.due(2, "read").due(4 + 5 * 6 - 2, "other", 0, 2);
        Run same = sentences.run(TERMS, quote).taught();
        same.due(1, "teach", 7, Lines.ALPHABET[1]).reads(FITTING).due(0, "about", 2);
        same.due(7, "other", 6, 1).due(0, "other", 6, 2);
    }

    private static void costsOfTimesPast(Sentences sentences) {
        Run run = sentences.run(TERMS, "(SIGNS as they were taught when it was read).").taught().reads(FITTING);
        run.due(16, "other", 0, 2);
        run.taught(333333).due(16, "other", 0, 2);
        run.taught(Lines.flatZero()).due(16, "other", 0, 2);
        run.ticks(60, 1, 60).due(-2, "read").due(16, "other", 0, 2);
        run.due(1, "choose", 0).due(16, "about", 1).due(-16, "other", 0, 2);
        run.ticks(8, 8, 8).ask("read");
        run.due(1, "about", 0).due(0, "others");
    }
}
