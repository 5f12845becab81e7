import java.util.Random;

/** Readings of one to three places against a plain look at every SIGN and SPEED (promises 4 to 6). */
public final class BruteForceTest {
    private static int[] alphabet;
    private static int[] ticks;
    private static int[] signs;
    private static int[] speeds;
    private static int bestCost;
    private static int[] bestSigns;
    private static int[] bestSpeeds;
    private static int nextCost;

    public static void main(String[] args) {
        Checks checks = new Checks();
        Random random = new Random(7);
        for (int i = 0; i < 600; i++) {
            compare(checks, random, i % 15 == 0 ? 3 : i % 3 == 0 ? 1 : 2);
        }
        checks.close();
    }

    private static void compare(Checks checks, Random random, int places) {
        ChequeDesk desk = new ChequeDesk();
        boolean flat = random.nextInt(3) == 0;
        alphabet = flat ? flatAlphabet(random) : mixedAlphabet(random);
        for (int sign = 0; sign < 12; sign++) {
            desk.teach(sign, alphabet[sign]);
        }
        int[] plain = flat ? flatTicks(random, places) : randomTicks(random, places);
        Lines.feed(desk, plain);
        int cost = desk.read();
        look(Lines.turned(plain), places);
        int turnedCost = bestCost;
        look(plain, places);
        int turned = turnedCost < bestCost ? 1 : 0;
        if (turned == 1) {
            look(Lines.turned(plain), places);
        }
        checks.same("read()", bestCost, cost);
        checks.same("about(1)", bestCost, desk.about(1));
        checks.same("about(2)", nextCost - bestCost, desk.about(2));
        checks.same("about(3)", turned, desk.about(3));
        for (int k = 0; k < places; k++) {
            checks.same("place(" + k + ", 0)", bestSigns[k], desk.place(k, 0));
            checks.same("place(" + k + ", 1)", bestSpeeds[k], desk.place(k, 1));
        }
    }

    private static int[] mixedAlphabet(Random random) {
        int[] mixed = Lines.ALPHABET.clone();
        int kinds = 1 + random.nextInt(3);
        for (int sign = 0; sign < 12; sign++) {
            if (random.nextInt(3) == 0) {
                mixed[sign] = 0;
                for (int k = 0; k < 6; k++) {
                    mixed[sign] = mixed[sign] * 10 + 1 + random.nextInt(kinds);
                }
            }
        }
        return mixed;
    }

    private static int[] randomTicks(Random random, int places) {
        int[] row = new int[places * 6];
        int most = random.nextBoolean() ? 60 : 30;
        for (int k = 0; k < row.length; k++) {
            row[k] = 1 + random.nextInt(most);
        }
        return row;
    }

    /** Signs that differ in width alone tie often: one at a high speed is another at a low one. */
    private static int[] flatAlphabet(Random random) {
        int[] flat = new int[12];
        for (int sign = 0; sign < 12; sign++) {
            flat[sign] = 111111 * (1 + random.nextInt(3));
        }
        return flat;
    }

    private static int[] flatTicks(Random random, int places) {
        int[] row = new int[places * 6];
        int base = 0;
        for (int k = 0; k < row.length; k++) {
            base = k % 6 == 0 ? 4 + random.nextInt(20) : base;
            row[k] = base + (k % 6 < 3 ? 0 : random.nextInt(2));
        }
        return row;
    }

    private static void look(int[] row, int places) {
        ticks = row;
        signs = new int[places];
        speeds = new int[places];
        bestCost = Integer.MAX_VALUE;
        goSigns(0);
        nextCost = Integer.MAX_VALUE;
        int least = bestCost;
        int[] first = bestSigns;
        int[] firstSpeeds = bestSpeeds;
        goOthers(0, first);
        bestCost = least;
        bestSigns = first;
        bestSpeeds = firstSpeeds;
    }

    /** All rows of SIGNS in their order, for each all rows of SPEEDS in theirs: the first of the least is BEST. */
    private static void goSigns(int place) {
        if (place == signs.length) {
            goSpeeds(0, 0);
            return;
        }
        for (int sign = 0; sign < 12; sign++) {
            signs[place] = sign;
            goSigns(place + 1);
        }
    }

    private static void goSpeeds(int place, int cost) {
        if (place == speeds.length) {
            if (cost < bestCost) {
                bestCost = cost;
                bestSigns = signs.clone();
                bestSpeeds = speeds.clone();
            }
            return;
        }
        for (int speed = 4; speed <= 12; speed++) {
            if (place == 0 || Math.abs(speed - speeds[place - 1]) <= 1) {
                speeds[place] = speed;
                goSpeeds(place + 1, cost + distance(place));
            }
        }
    }

    private static void goOthers(int place, int[] first) {
        if (place == signs.length) {
            if (!java.util.Arrays.equals(signs, first)) {
                bestCost = Integer.MAX_VALUE;
                goSpeeds(0, 0);
                nextCost = Math.min(nextCost, bestCost);
            }
            return;
        }
        for (int sign = 0; sign < 12; sign++) {
            signs[place] = sign;
            goOthers(place + 1, first);
        }
    }

    private static int distance(int place) {
        int sum = 0;
        int rest = alphabet[signs[place]];
        for (int i = 5; i >= 0; i--) {
            sum += Math.abs(ticks[place * 6 + i] - speeds[place] * (rest % 10));
            rest /= 10;
        }
        return sum;
    }
}
