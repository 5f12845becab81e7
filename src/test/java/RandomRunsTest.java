import java.util.Random;
import java.util.function.LongSupplier;

/** Runs of up to 512 calls on the class and on the model side by side (all promises). */
public final class RandomRunsTest {
    private static final Checks CHECKS = new Checks();
    private static Random random;
    private static ChequeDesk desk;
    private static Model model;
    private static int calls;
    private static String run;

    public static void main(String[] args) {
        int runs = args.length > 0 ? Integer.parseInt(args[0]) : 600;
        for (int seed = 1; seed <= runs; seed++) {
            random = new Random(seed);
            desk = new ChequeDesk();
            model = new Model();
            calls = 0;
            run = "seed " + seed;
            oneRun();
        }
        CHECKS.close();
    }

    private static void call(String name, LongSupplier want, LongSupplier got) {
        calls++;
        long due = Checks.answer(want);
        CHECKS.due(run + ", call " + calls + ": " + name, due, got);
    }

    private static void oneRun() {
        int kind = random.nextInt(3);
        if (kind == 2) {
            runOfPapers();
            return;
        }
        if (random.nextInt(12) != 0) {
            teachAll(random.nextInt(5) == 0);
        }
        if (kind == 0) {
            runOfShortOnes();
        } else {
            runOfLines();
        }
    }

    private static void runOfShortOnes() {
        while (calls < 512) {
            if (random.nextInt(9) == 0) {
                int places = 1 + random.nextInt(random.nextInt(4) == 0 ? 21 : 4);
                feedStripes(shaken(random.ints(places, 0, 12).toArray(), anyShake()));
            } else {
                ask(1 + random.nextInt(20));
            }
        }
    }

    private static void runOfLines() {
        while (calls < 512) {
            feedStripes(shaken(randomLine(), anyShake()));
            look();
            ask(random.nextInt(60));
            if (random.nextBoolean()) {
                takePaper();
            }
        }
    }

    private static void runOfPapers() {
        teachAll(false);
        batch(anyAmount());
        batch(anyAmount());
        for (int i = 1 + random.nextInt(3); i > 0; i--) {
            feedStripes(shaken(lineThatFits(), random.nextInt(2)));
            takePaper();
        }
        while (calls < 512) {
            askBatches();
        }
    }

    private static void teachAll(boolean twins) {
        for (int sign = 0; sign < 12; sign++) {
            teach(sign, Lines.ALPHABET[twins && random.nextInt(3) == 0 ? random.nextInt(12) : sign]);
        }
    }

    private static void teach(int sign, int widths) {
        call("teach(" + sign + ", " + widths + ")", () -> model.teach(sign, widths), () -> desk.teach(sign, widths));
    }

    private static void tick(int n) {
        call("tick(" + n + ")", () -> model.tick(n), () -> desk.tick(n));
    }

    private static void feedStripes(int[] row) {
        clearStripes();
        int[] ticks = random.nextInt(3) == 0 ? Lines.turned(row) : row;
        int length = random.nextInt(15) == 0 ? random.nextInt(ticks.length) : ticks.length;
        for (int i = 0; i < length; i++) {
            tick(ticks[i]);
        }
        call("read()", model::read, desk::read);
        if (random.nextInt(4) == 0) {
            look();
        }
    }

    /** Reads what stray ticks are left, so that they do not spoil all that follows. */
    private static void clearStripes() {
        while (model.count(1) % 6 != 0) {
            tick(1 + random.nextInt(60));
        }
        if (model.count(1) > 0) {
            call("read()", model::read, desk::read);
        }
    }

    private static void takePaper() {
        if (model.count(2) == 0) {
            batch(anyAmount());
        }
        call("twin()", model::twin, desk::twin);
        paper(model.count(2) == 1 ? 0 : any(0, 1), anyAmount());
    }

    private static void batch(int sum) {
        call("batch(" + sum + ")", () -> model.batch(sum), () -> desk.batch(sum));
    }

    private static void paper(int batch, int amount) {
        call("paper(" + batch + ", " + amount + ")", () -> model.paper(batch, amount),
            () -> desk.paper(batch, amount));
    }

    private static int anyShake() {
        return random.nextInt(4) == 0 ? 5 + random.nextInt(12) : random.nextInt(4);
    }

    /** Few banks and accounts, so that papers come twice. */
    private static int[] lineThatFits() {
        String account = new String[] {"123451", "000000", "999991", "102032"}[random.nextInt(4)];
        return Lines.line("12" + (10 + random.nextInt(2)), account, "004" + random.nextInt(2));
    }

    /** Some lines have another account, or a wrong sign, or two. */
    private static int[] randomLine() {
        int[] signs = lineThatFits();
        if (random.nextInt(4) == 0) {
            for (int i = 6; i < 12; i++) {
                signs[i] = random.nextInt(10);
            }
        }
        for (int i = random.nextInt(5) - 2; i > 0; i--) {
            signs[random.nextInt(18)] = random.nextInt(12);
        }
        return signs;
    }

    private static int[] shaken(int[] signs, int most) {
        int speed = 4 + random.nextInt(9);
        int[] ticks = new int[signs.length * 6];
        for (int i = 0; i < ticks.length; i++) {
            if (i % 6 == 0) {
                speed = Math.max(4, Math.min(12, speed + random.nextInt(3) - 1));
            }
            int off = most == 0 ? 0 : random.nextInt(2 * most + 1) - most;
            int tick = speed * Lines.width(Lines.ALPHABET, signs[i / 6], i % 6) + off;
            ticks[i] = Math.max(1, Math.min(60, tick));
        }
        return ticks;
    }

    private static void look() {
        for (int what = 0; what <= 4; what++) {
            about(what);
        }
        for (int k = 0; k <= Math.max(0, model.about(0)); k++) {
            place(k, random.nextInt(2));
        }
        call("others()", model::others, desk::others);
    }

    private static void about(int what) {
        call("about(" + what + ")", () -> model.about(what), () -> desk.about(what));
    }

    private static void place(int k, int what) {
        call("place(" + k + ", " + what + ")", () -> model.place(k, what), () -> desk.place(k, what));
    }

    private static int any(int from, int to) {
        int wild = random.nextInt(24);
        if (wild == 0) {
            return random.nextInt();
        }
        if (wild == 1) {
            return random.nextBoolean() ? Integer.MIN_VALUE : Integer.MAX_VALUE;
        }
        return from + random.nextInt(to - from + 1);
    }

    private static int anyAmount() {
        switch (random.nextInt(5)) {
            case 0: return any(-1, 12);
            case 1: return any(9_999_990, 10_000_000);
            case 2: return new int[] {100, 1000, 10, 12, 21, 120, 102}[random.nextInt(7)];
            default: return any(0, 3000);
        }
    }

    /** An amount from which one slip leads to what is told, as far as one paper is concerned. */
    private static int amountNearOut(int paper) {
        int batch = random.nextInt(Math.max(1, Math.min(2, model.count(2))));
        if (paper < 0 || paper >= model.count(3) || batch >= model.count(2)) {
            return anyAmount();
        }
        int was = model.amount(paper, 0);
        model.amount(paper, was);
        long due = was - model.out(batch);
        if (due < 0 || due > 9_999_999) {
            return anyAmount();
        }
        char[] digits = String.format("%07d", due).toCharArray();
        int at = random.nextInt(6);
        char kept = digits[at];
        digits[at] = random.nextBoolean() ? digits[at + 1] : (char) ('0' + random.nextInt(10));
        if (random.nextBoolean()) {
            digits[at] = digits[at + 1];
            digits[at + 1] = kept;
        }
        return Integer.parseInt(new String(digits));
    }

    private static void ask(int times) {
        for (int i = 0; i < times; i++) {
            askReading();
            askBatches();
        }
    }

    private static void askReading() {
        int k = any(-1, random.nextBoolean() ? 20 : 75);
        int what = any(-1, 3);
        switch (random.nextInt(12)) {
            case 0: about(any(-1, 5)); break;
            case 1: place(k, any(-1, 2)); break;
            case 2: call("field(" + what + ")", () -> model.field(what), () -> desk.field(what)); break;
            case 3: call("others()", model::others, desk::others); break;
            case 4: case 5:
                call("other(" + k + ", " + what + ")", () -> model.other(k, what), () -> desk.other(k, what));
                break;
            case 6:
                call("choose(" + k + ")", () -> model.choose(k), () -> desk.choose(k));
                about(1);
                about(2);
                break;
            case 7: call("twin()", model::twin, desk::twin); break;
            case 8: call("count(" + what + ")", () -> model.count(what), () -> desk.count(what)); break;
            case 9:
                if (random.nextInt(4) == 0) {
                    teach(any(-1, 12), any(0, 8) < 6 ? Lines.ALPHABET[random.nextInt(12)] : any(0, 444444));
                }
                break;
            case 10:
                if (random.nextInt(6) == 0) {
                    tick(any(0, 61));
                }
                break;
            default: call("read()", model::read, desk::read);
        }
    }

    private static void askBatches() {
        int batch = any(0, 4) != 0 ? random.nextInt(2) : any(-1, Math.max(1, model.count(2)));
        int paper = any(-1, Math.max(1, model.count(3)));
        int amount = random.nextInt(3) == 0 ? amountNearOut(paper) : anyAmount();
        int k = any(-1, 3);
        int what = any(-1, 3);
        switch (random.nextInt(12)) {
            case 0:
                batch(random.nextInt(6) == 0 ? any(999_999_998, 1_000_000_001) : anyAmount());
                break;
            case 1: paper(batch, amount); break;
            case 2: case 3: case 4:
                call("amount(" + paper + ", " + amount + ")", () -> model.amount(paper, amount),
                    () -> desk.amount(paper, amount));
                break;
            case 5: call("out(" + batch + ")", () -> model.out(batch), () -> desk.out(batch)); break;
            case 6: case 7: call("slips(" + batch + ")", () -> model.slips(batch), () -> desk.slips(batch)); break;
            default:
                call("slip(" + batch + ", " + k + ", " + what + ")", () -> model.slip(batch, k, what),
                    () -> desk.slip(batch, k, what));
        }
    }
}
