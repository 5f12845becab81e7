import java.util.Arrays;
import java.util.function.Consumer;

/** One run of calls on a new desk, for one sentence of the document. */
final class Run {
    static final int NONE = -1;
    static final long ARGUMENT = Checks.ILLEGAL_ARGUMENT;
    static final long STATE = Checks.ILLEGAL_STATE;
    static final long BOUNDS = Checks.OUT_OF_BOUNDS;
    /** Arguments that are wrong or out of reach in every call, but as a number that has no limits of its own. */
    static final int[] WILD = {Integer.MIN_VALUE, -1_000_000_007, 1_000_000_007, Integer.MAX_VALUE};
    private static final int MOST_CALLS = 512;

    private final Checks checks;
    private final String sentence;
    private final ChequeDesk desk = new ChequeDesk();
    private int calls = 0;
    private boolean mayGoBeyond = false;

    Run(Checks checks, String sentence) {
        this.checks = checks;
        this.sentence = sentence;
    }

    /** For the one limit that no run of 512 calls can reach. */
    Run beyondTheLastCall() {
        mayGoBeyond = true;
        return this;
    }

    int callsLeft() {
        return MOST_CALLS - calls;
    }

    long ask(String name, int... args) {
        calls++;
        if (calls == MOST_CALLS + 1 && !mayGoBeyond) {
            checks.same(sentence + ": more calls than are promised", MOST_CALLS, calls);
        }
        return Checks.answer(() -> answer(name, args));
    }

    Run due(long want, String name, int... args) {
        long got = ask(name, args);
        checks.same(sentence + ": call " + calls + ", " + name + Arrays.toString(args), want, got);
        return this;
    }

    private long answer(String name, int[] args) {
        switch (name) {
            case "teach": return desk.teach(args[0], args[1]);
            case "tick": return desk.tick(args[0]);
            case "read": return desk.read();
            case "about": return desk.about(args[0]);
            case "place": return desk.place(args[0], args[1]);
            case "field": return desk.field(args[0]);
            case "others": return desk.others();
            case "other": return desk.other(args[0], args[1]);
            case "choose": return desk.choose(args[0]);
            case "batch": return desk.batch(args[0]);
            case "paper": return desk.paper(args[0], args[1]);
            case "amount": return desk.amount(args[0], args[1]);
            case "twin": return desk.twin();
            case "out": return desk.out(args[0]);
            case "slips": return desk.slips(args[0]);
            case "slip": return desk.slip(args[0], args[1], args[2]);
            case "count": return desk.count(args[0]);
            default: throw new Error("no such call: " + name);
        }
    }

    /** The alphabet of most tests. */
    Run taught() {
        return taught(Lines.ALPHABET);
    }

    /** These WIDTHS for the SIGNS from 0 on; the last ones for all that are left. */
    Run taught(int... widths) {
        for (int sign = 0; sign < 12; sign++) {
            ask("teach", sign, widths[Math.min(sign, widths.length - 1)]);
        }
        return this;
    }

    Run ticks(int... ticks) {
        for (int tick : ticks) {
            ask("tick", tick);
        }
        return this;
    }

    /** Places of six equal ticks each. */
    Run flat(int... places) {
        for (int tick : places) {
            ticks(tick, tick, tick, tick, tick, tick);
        }
        return this;
    }

    /** A row of SIGNS, A and B being the marks 10 and 11, in the alphabet of most tests at SPEED 8. */
    Run signs(String row) {
        return ticks(Lines.ticksOf(Lines.signs(row), 8));
    }

    Run turnedSigns(String row) {
        return ticks(Lines.turned(Lines.ticksOf(Lines.signs(row), 8)));
    }

    Run reads(String row) {
        signs(row);
        ask("read");
        return this;
    }

    /** Reads a line of this NUMBER, and takes it. */
    Run takes(int batch, int number, int amount) {
        reads("A1234B123451B" + String.format("%04d", number) + "A");
        ask("paper", batch, amount);
        return this;
    }

    Run dueSigns(int... signs) {
        return duePlaces(0, signs);
    }

    Run dueSpeeds(int... speeds) {
        return duePlaces(1, speeds);
    }

    private Run duePlaces(int what, int[] want) {
        due(want.length, "about", 0);
        for (int k = 0; k < want.length; k++) {
            due(want[k], "place", k, what);
        }
        return due(NONE, "place", want.length, what);
    }

    /** All OTHERS: place and SIGN of each. */
    Run dueOthers(int[]... want) {
        due(want.length, "others");
        for (int k = 0; k < want.length; k++) {
            due(want[k][0], "other", k, 0);
            due(want[k][1], "other", k, 1);
        }
        return due(NONE, "other", want.length, 0);
    }

    /** All SLIPS of a BATCH: kind, PAPER and AMOUNT of each. */
    Run dueSlips(int batch, int[]... want) {
        due(want.length, "slips", batch);
        for (int k = 0; k < want.length; k++) {
            for (int what = 0; what <= 2; what++) {
                due(want[k][what], "slip", batch, k, what);
            }
        }
        return due(NONE, "slip", batch, want.length, 0);
    }

    /** What is done here leaves everything that can be asked as it was. */
    Run stays(Consumer<Run> calls) {
        String before = state();
        calls.accept(this);
        String after = state();
        checks.same(sentence + ": it was " + before + ", is " + after, 1, before.equals(after) ? 1 : 0);
        return this;
    }

    private String state() {
        StringBuilder text = new StringBuilder();
        note(text, "count", 4);
        note(text, "about", 5);
        note(text, "field", 3);
        long places = ask("about", 0);
        for (int k = 0; k < places; k++) {
            text.append(ask("place", k, 0)).append('/').append(ask("place", k, 1)).append(' ');
        }
        text.append(ask("others")).append(' ').append(ask("twin")).append(' ');
        int batches = (int) ask("count", 2);
        note(text, "out", batches);
        note(text, "slips", batches);
        return text.toString();
    }

    private void note(StringBuilder text, String name, int args) {
        for (int arg = 0; arg < args; arg++) {
            text.append(ask(name, arg)).append(' ');
        }
    }
}
