/** Each promise of the document by hand: ordinary inputs, the edges that it names, and wrong inputs. */
public final class PromisesTest {
    private static final Checks CHECKS = new Checks();
    private static final long ARGUMENT = Checks.ILLEGAL_ARGUMENT;
    private static final long STATE = Checks.ILLEGAL_STATE;
    private static final long BOUNDS = Checks.OUT_OF_BOUNDS;
    private static final int LEAST = Integer.MIN_VALUE;
    private static final int MOST = Integer.MAX_VALUE;

    public static void main(String[] args) {
        newDesk();
        teach();
        tick();
        readRefusals();
        readTies();
        readTiesAcrossPlaces();
        readSpeeds();
        readTurned();
        readLongest();
        about();
        place();
        field();
        fits();
        others();
        othersKeepTheirStripes();
        choose();
        batch();
        paper();
        paperLimit();
        amount();
        twin();
        out();
        slipKinds();
        slipOrder();
        slipEdges();
        count();
        CHECKS.close();
    }

    private static void due(String call, long want, java.util.function.LongSupplier got) {
        CHECKS.due(call, want, got);
    }

    private static void newDesk() {
        ChequeDesk desk = new ChequeDesk();
        for (int what = 0; what <= 3; what++) {
            int w = what;
            due("1: count(" + w + ")", 0, () -> desk.count(w));
        }
        due("1: read()", -1, desk::read);
        due("1: about(0)", -1, () -> desk.about(0));
        due("1: others()", 0, desk::others);
        due("1: twin()", -1, desk::twin);
        due("1: choose(0)", 0, () -> desk.choose(0));
        due("1: out(0)", BOUNDS, () -> desk.out(0));
        due("1: amount(0, 0)", BOUNDS, () -> desk.amount(0, 0));
        desk.tick(5);
        due("1: another desk's ticks", 0, () -> new ChequeDesk().count(1));
    }

    private static void teach() {
        ChequeDesk desk = new ChequeDesk();
        due("2: none before", 1, () -> desk.teach(0, 111111));
        due("2: the same", 0, () -> desk.teach(0, 111111));
        due("2: others before", 1, () -> desk.teach(0, 333333));
        due("2: back again", 1, () -> desk.teach(0, 111111));
        due("2: the last sign", 1, () -> desk.teach(11, 123321));
        due("2: count(0)", 2, () -> desk.count(0));
        for (int sign : new int[] {-1, 12, LEAST, MOST}) {
            due("2: sign " + sign, ARGUMENT, () -> desk.teach(sign, 111111));
        }
        int[] wrong = {0, 1, 11111, 1111111, 111110, 111114, 411111, 110111, 103111, 333334, -111111, LEAST, MOST,
            111119, 222202, 99999, 3333333};
        for (int widths : wrong) {
            due("2: widths " + widths, ARGUMENT, () -> desk.teach(1, widths));
        }
        due("2: count(0) after wrong ones", 2, () -> desk.count(0));
        due("2: sign 1 had none", 1, () -> desk.teach(1, 111111));
    }

    private static void tick() {
        ChequeDesk desk = new ChequeDesk();
        for (int n : new int[] {0, 61, -1, LEAST, MOST}) {
            due("3: tick(" + n + ")", ARGUMENT, () -> desk.tick(n));
        }
        for (int i = 1; i <= 120; i++) {
            int n = i % 60 + 1;
            due("3: tick " + i, i, () -> desk.tick(n));
        }
        due("3: the 121st", -1, () -> desk.tick(1));
        due("3: the 121st, wrong", ARGUMENT, () -> desk.tick(61));
        due("3: count(1)", 120, () -> desk.count(1));
    }

    private static void readRefusals() {
        ChequeDesk desk = new ChequeDesk();
        for (int sign = 0; sign < 11; sign++) {
            desk.teach(sign, Lines.ALPHABET[sign]);
        }
        due("4: a sign lacks, and ticks too", -1, desk::read);
        Lines.feed(desk, Lines.ticksOf(new int[] {3}, 5));
        due("4: a sign lacks", -1, desk::read);
        due("4: ticks stay", 6, () -> desk.count(1));
        desk.teach(11, Lines.ALPHABET[11]);
        due("4: all are taught", 0, desk::read);
        due("4: no ticks are left", 0, () -> desk.count(1));
        due("4: no ticks", -2, desk::read);
        for (int i = 1; i <= 5; i++) {
            desk.tick(9);
            due("4: no six", -2, desk::read);
        }
        due("4: they stay", 5, () -> desk.count(1));
        due("4: so does the reading", 3, () -> desk.place(0, 0));
    }

    private static void readTies() {
        ChequeDesk desk = Lines.taughtDesk();
        desk.teach(7, Lines.ALPHABET[4]);
        Lines.feed(desk, Lines.ticksOf(new int[] {4, 1, 4}, 8));
        due("4: cost", 0, desk::read);
        due("4: least sign of equals, place 0", 4, () -> desk.place(0, 0));
        due("4: least sign of equals, place 2", 4, () -> desk.place(2, 0));
        due("5: the gap is 0", 0, () -> desk.about(2));

        ChequeDesk flat = new ChequeDesk();
        for (int sign = 0; sign < 12; sign++) {
            flat.teach(sign, sign == 0 ? 222222 : sign == 1 ? 111111 : 333333);
        }
        for (int i = 0; i < 6; i++) {
            flat.tick(12);
        }
        due("4: three signs at no cost", 0, flat::read);
        due("4: the first sign", 0, () -> flat.place(0, 0));
        due("4: its speed", 6, () -> flat.place(0, 1));
        due("5: the next is as good", 0, () -> flat.about(2));
    }

    /** 0 at 8 and 2 at 7 cost as much as 2 at 4 and 1 at 5; but 0 and 1 do not go together. */
    private static void readTiesAcrossPlaces() {
        ChequeDesk desk = new ChequeDesk();
        for (int sign = 0; sign < 12; sign++) {
            desk.teach(sign, sign == 0 ? 111111 : sign == 1 ? 333333 : sign == 2 ? 222222 : 313131);
        }
        for (int n : new int[] {8, 8, 8, 8, 8, 8, 14, 14, 14, 15, 15, 15}) {
            desk.tick(n);
        }
        due("4: two readings of least cost", 3, desk::read);
        due("5: the gap between them", 0, () -> desk.about(2));
        due("6: the first sign", 0, () -> desk.place(0, 0));
        due("6: its speed", 8, () -> desk.place(0, 1));
        due("6: the second goes with it", 2, () -> desk.place(1, 0));
        due("6: its speed too", 7, () -> desk.place(1, 1));
    }

    private static void readSpeeds() {
        ChequeDesk desk = new ChequeDesk();
        for (int sign = 0; sign < 12; sign++) {
            desk.teach(sign, 111111);
        }
        for (int place = 0; place < 3; place++) {
            for (int i = 0; i < 6; i++) {
                desk.tick(place == 0 ? 4 : place == 1 ? 12 : 4);
            }
        }
        due("4: speeds are one apart at most, so the middle one lacks 7", 6 * 7, desk::read);
        due("4: first of the speeds, 0", 4, () -> desk.place(0, 1));
        due("4: first of the speeds, 1", 5, () -> desk.place(1, 1));
        due("4: first of the speeds, 2", 4, () -> desk.place(2, 1));

        for (int i = 0; i < 6; i++) {
            desk.tick(i < 3 ? 7 : 9);
        }
        due("4: 7, 8 or 9 cost the same", 6, desk::read);
        due("4: the least", 7, () -> desk.place(0, 1));
        for (int i = 0; i < 6; i++) {
            desk.tick(60);
        }
        due("4: no speed above 12", 6 * 48, desk::read);
        due("4: speed 12", 12, () -> desk.place(0, 1));
        for (int i = 0; i < 6; i++) {
            desk.tick(1);
        }
        due("4: no speed below 4", 6 * 3, desk::read);
        due("4: speed 4", 4, () -> desk.place(0, 1));
    }

    private static void readTurned() {
        ChequeDesk desk = Lines.taughtDesk();
        Lines.feed(desk, Lines.turned(Lines.ticksOf(new int[] {10, 2, 11}, 7)));
        due("4: from the end", 0, desk::read);
        due("5: turned", 1, () -> desk.about(3));
        due("6: first place", 10, () -> desk.place(0, 0));
        due("6: last place", 11, () -> desk.place(2, 0));
        ChequeDesk even = Lines.taughtDesk();
        even.teach(3, 122221);
        Lines.feed(even, Lines.ticksOf(new int[] {5, 8}, 6));
        even.read();
        due("5: 121212 122121 backwards costs more", 0, () -> even.about(3));
        for (int n : new int[] {8, 16, 16, 16, 16, 8}) {
            even.tick(n);
        }
        due("4: the same both ways", 0, even::read);
        due("5: is not turned", 0, () -> even.about(3));
        due("6: sign 3", 3, () -> even.place(0, 0));
        Lines.feed(desk, Lines.ticksOf(new int[] {0}, 8));
        desk.read();
        due("5: the gap is to readings that lie the same way", 16, () -> desk.about(2));
    }

    private static void readLongest() {
        ChequeDesk desk = Lines.taughtDesk();
        int[] signs = Lines.signs("0123456789AB01234567");
        Lines.feed(desk, Lines.ticksOf(signs, 12));
        due("4: twenty places", 0, desk::read);
        due("5: places", 20, () -> desk.about(0));
        for (int k = 0; k < 20; k++) {
            int at = k;
            due("6: sign at " + k, signs[k], () -> desk.place(at, 0));
            due("6: speed at " + k, 12, () -> desk.place(at, 1));
        }
        due("6: place 20", -1, () -> desk.place(20, 0));
        due("8: others of twenty places", 0, desk::others);
        due("5: no line", 0, () -> desk.about(4));
    }

    private static void about() {
        ChequeDesk desk = Lines.taughtDesk();
        for (int what = 0; what <= 4; what++) {
            int w = what;
            due("5: about(" + w + ") ahead of any", -1, () -> desk.about(w));
        }
        for (int what : new int[] {-1, 5, LEAST, MOST}) {
            due("5: about(" + what + ")", ARGUMENT, () -> desk.about(what));
        }
        int[] ticks = Lines.ticksOf(Lines.line("1234", "123451", "0042"), 8);
        ticks[3] += 2;
        Lines.feed(desk, ticks);
        due("4: cost 2", 2, desk::read);
        due("5: about(0)", 18, () -> desk.about(0));
        due("5: about(1)", 2, () -> desk.about(1));
        due("5: about(2)", 16, () -> desk.about(2));
        due("5: about(3)", 0, () -> desk.about(3));
        due("5: about(4)", 1, () -> desk.about(4));
        due("5: about(5)", ARGUMENT, () -> desk.about(5));
        desk.teach(0, 333333);
        desk.tick(1);
        due("5: it stays the latest", 2, () -> desk.about(1));
    }

    private static void place() {
        ChequeDesk desk = Lines.taughtDesk();
        due("6: no reading", -1, () -> desk.place(0, 0));
        due("6: no reading, another what", ARGUMENT, () -> desk.place(0, 2));
        Lines.feed(desk, Lines.ticksOf(new int[] {9, 1}, 5));
        desk.read();
        due("6: sign", 9, () -> desk.place(0, 0));
        due("6: speed", 5, () -> desk.place(1, 1));
        for (int k : new int[] {-1, 2, LEAST, MOST}) {
            due("6: place " + k, -1, () -> desk.place(k, 1));
            due("6: place " + k + ", another what", ARGUMENT, () -> desk.place(k, -1));
        }
    }

    private static void field() {
        ChequeDesk desk = Lines.taughtDesk();
        due("7: no reading", -1, () -> desk.field(0));
        Lines.readLine(desk, "0907", "000000", "0001");
        due("7: bank", 907, () -> desk.field(0));
        due("7: account", 0, () -> desk.field(1));
        due("7: number", 1, () -> desk.field(2));
        Lines.readLine(desk, "9999", "999991", "9999");
        due("7: account of most", 999991, () -> desk.field(1));
        Lines.readLine(desk, "1234", "123452", "0042");
        for (int what = 0; what <= 2; what++) {
            int w = what;
            due("7: it does not fit", -1, () -> desk.field(w));
        }
        for (int what : new int[] {-1, 3, LEAST, MOST}) {
            due("7: field(" + what + ")", ARGUMENT, () -> desk.field(what));
        }
    }

    private static void fits() {
        ChequeDesk desk = Lines.taughtDesk();
        String[] accounts = {"123451", "300300", "070000", "001009", "000123", "A00000", "00000B", "100000"};
        int[] whether = {1, 0, 0, 1, 0, 0, 0, 0};
        for (int i = 0; i < accounts.length; i++) {
            Lines.readLine(desk, "1111", accounts[i], "2222");
            due("5: whether " + accounts[i] + " fits", whether[i], () -> desk.about(4));
        }
        for (String row : new String[] {"B1111A000000A2222B", "A1111B000000B2222B", "A1111A000000B2222A",
            "AA111B000000B2222A", "A1111B000000B222BA", "01111B000000B2222A"}) {
            Lines.feed(desk, Lines.ticksOf(Lines.signs(row), 8));
            desk.read();
            due("5: whether " + row + " fits", 0, () -> desk.about(4));
        }
        Lines.feed(desk, Lines.ticksOf(Lines.signs("A1111B000000B222A"), 8));
        desk.read();
        due("5: 17 places are no line", 0, () -> desk.about(4));
    }

    private static void others() {
        ChequeDesk desk = Lines.taughtDesk();
        due("8: no reading", 0, desk::others);
        due("9: no reading", -1, () -> desk.other(0, 0));
        due("9: no reading, another what", ARGUMENT, () -> desk.other(0, 3));
        Lines.readLine(desk, "1234", "123451", "0042");
        due("8: of a line that fits", 72, desk::others);
        due("9: in the place of 1, first 0", 0, () -> desk.other(0, 1));
        due("9: then 2", 2, () -> desk.other(1, 1));
        for (int k : new int[] {-1, 72, LEAST, MOST}) {
            due("9: other(" + k + ")", -1, () -> desk.other(k, 2));
            due("9: other(" + k + "), another what", ARGUMENT, () -> desk.other(k, -1));
        }
        Lines.readLine(desk, "1234", "123452", "0042");
        othersAre(desk, new int[][] {{6, 8}, {7, 5}, {8, 2}, {9, 1}, {10, 8}, {11, 1}}, "123452");
        Lines.readLine(desk, "12B4", "123451", "0042");
        due("8: of a mark where a digit is due", 10, desk::others);
        due("9: its place", 3, () -> desk.other(9, 0));
        due("9: its sign", 9, () -> desk.other(9, 1));
        Lines.readLine(desk, "1234", "12A451", "0042");
        othersAre(desk, new int[][] {{8, 3}}, "12A451");
        Lines.readLine(desk, "12B4", "12A451", "0042");
        due("8: two marks too many", 0, desk::others);
        Lines.feed(desk, Lines.ticksOf(Lines.signs("A1234A123451B0042A"), 8));
        desk.read();
        othersAre(desk, new int[][] {{5, 11}}, "a wrong mark");
        Lines.feed(desk, Lines.ticksOf(Lines.signs("A1234A123452B0042A"), 8));
        desk.read();
        due("8: a wrong mark and a wrong sum", 0, desk::others);
        Lines.readLine(desk, "12B4", "123452", "0042");
        due("8: a mark in BANK and a wrong sum", 0, desk::others);
    }

    private static void othersAre(ChequeDesk desk, int[][] want, String name) {
        due("8: others of " + name, want.length, desk::others);
        for (int k = 0; k < want.length; k++) {
            int at = k;
            due("9: place of other " + k + " of " + name, want[k][0], () -> desk.other(at, 0));
            due("9: sign of other " + k + " of " + name, want[k][1], () -> desk.other(at, 1));
        }
        due("9: no more of " + name, -1, () -> desk.other(want.length, 0));
    }

    private static void othersKeepTheirStripes() {
        ChequeDesk desk = Lines.taughtDesk();
        Lines.readLine(desk, "1234", "123451", "0042");
        due("9: 1 as 0 costs", 16, () -> desk.other(0, 2));
        for (int sign = 0; sign < 12; sign++) {
            desk.teach(sign, 333333);
        }
        desk.tick(60);
        due("4: ticks are refused", -2, desk::read);
        due("9: as it was taught", 16, () -> desk.other(0, 2));

        ChequeDesk turned = Lines.taughtDesk();
        Lines.feed(turned, Lines.turned(Lines.ticksOf(Lines.line("1234", "123451", "0042"), 9)));
        turned.read();
        due("9: as it was turned", 18, () -> turned.other(0, 2));
    }

    private static void choose() {
        ChequeDesk desk = Lines.taughtDesk();
        due("10: no reading", 0, () -> desk.choose(0));
        Lines.readLine(desk, "1234", "123451", "0042");
        for (int k : new int[] {-1, 72, LEAST, MOST}) {
            due("10: choose(" + k + ")", 0, () -> desk.choose(k));
        }
        due("10: nothing is done", 16, () -> desk.about(2));
        due("10: choose(0)", 1, () -> desk.choose(0));
        due("10: cost", 16, () -> desk.about(1));
        due("10: gap", 0, () -> desk.about(2));
        due("10: places", 18, () -> desk.about(0));
        due("10: sign", 0, () -> desk.place(1, 0));
        due("10: speed", 8, () -> desk.place(1, 1));
        due("10: bank", 234, () -> desk.field(0));
        due("10: others", 72, desk::others);
        due("10: back again costs less", -16, () -> desk.other(0, 2));
        due("10: back again", 1, () -> desk.choose(0));
        due("10: cost", 0, () -> desk.about(1));
        due("10: gap stays 0", 0, () -> desk.about(2));
        due("10: bank", 1234, () -> desk.field(0));

        Lines.readLine(desk, "1234", "123451", "004A");
        due("10: it does not fit", 0, () -> desk.about(4));
        due("10: choose(2)", 1, () -> desk.choose(2));
        due("10: it fits", 1, () -> desk.about(4));
        due("10: number", 42, () -> desk.field(2));
        due("10: speeds as they were", 8, () -> desk.place(16, 1));
        Lines.feed(desk, Lines.ticksOf(new int[] {1}, 8));
        desk.read();
        due("10: one place", 0, () -> desk.choose(0));
        Lines.feed(desk, Lines.turned(Lines.ticksOf(Lines.line("1234", "123451", "0042"), 9)));
        desk.read();
        desk.choose(3);
        due("10: it stays turned", 1, () -> desk.about(3));
    }

    private static void batch() {
        ChequeDesk desk = new ChequeDesk();
        for (int told : new int[] {-1, 1_000_000_001, LEAST, MOST}) {
            due("11: batch(" + told + ")", ARGUMENT, () -> desk.batch(told));
        }
        for (int i = 0; i < 20; i++) {
            int told = i == 0 ? 0 : i == 1 ? 1_000_000_000 : i;
            due("11: batch " + i, i, () -> desk.batch(told));
        }
        due("11: the 21st", STATE, () -> desk.batch(5));
        due("11: the 21st with a wrong sum", ARGUMENT, () -> desk.batch(-5));
        due("11: count(2)", 20, () -> desk.count(2));
        due("15: out(1)", -1_000_000_000, () -> desk.out(1));
        due("15: out(19)", -19, () -> desk.out(19));
    }

    private static void paper() {
        ChequeDesk desk = Lines.taughtDesk();
        due("12: no batch", BOUNDS, () -> desk.paper(0, 1));
        due("12: no batch, wrong amount", BOUNDS, () -> desk.paper(0, -1));
        desk.batch(100);
        desk.batch(200);
        due("12: no reading", -1, () -> desk.paper(0, 1));
        due("12: no reading, wrong amount", ARGUMENT, () -> desk.paper(0, -1));
        Lines.readLine(desk, "1234", "123452", "0042");
        due("12: it does not fit", -1, () -> desk.paper(0, 1));
        due("12: it stays", 18, () -> desk.about(0));
        Lines.readLine(desk, "1234", "123451", "0042");
        for (int batch : new int[] {-1, 2, LEAST, MOST}) {
            due("12: batch " + batch, BOUNDS, () -> desk.paper(batch, 1));
        }
        for (int amount : new int[] {-1, 10_000_000, LEAST, MOST}) {
            due("12: amount " + amount, ARGUMENT, () -> desk.paper(1, amount));
        }
        due("12: the first", 0, () -> desk.paper(1, 9_999_999));
        due("12: it is taken", -1, () -> desk.about(1));
        due("12: no place either", -1, () -> desk.place(0, 0));
        due("12: no field either", -1, () -> desk.field(0));
        due("12: no others either", 0, desk::others);
        due("12: nothing to choose", 0, () -> desk.choose(0));
        due("12: no other paper of it", -1, () -> desk.paper(1, 1));
        Lines.readLine(desk, "1234", "123451", "0042");
        due("12: twice, in another batch", -2, () -> desk.paper(0, 1));
        due("12: it stays", 1, () -> desk.about(4));
        desk.choose(0);
        due("12: another one", 1, () -> desk.paper(0, 0));
        due("18: count(3)", 2, () -> desk.count(3));
    }

    /** Beyond 512 calls, where answers are free; so this only tells that the desk stays sound. */
    private static void paperLimit() {
        ChequeDesk desk = Lines.taughtDesk();
        desk.batch(0);
        for (int i = 0; i <= 100; i++) {
            Lines.readLine(desk, "0000", "000000", String.format("%04d", i));
            due("12: paper " + i, i < 100 ? i : -3, () -> desk.paper(0, 9_999_999));
        }
        due("12: it stays", 100, () -> desk.field(2));
        Lines.readLine(desk, "0000", "000000", "0099");
        due("12: twice comes first", -2, () -> desk.paper(0, 1));
        due("15: out", 999_999_900L, () -> desk.out(0));
    }

    private static void amount() {
        ChequeDesk desk = Lines.taughtDesk();
        desk.batch(500);
        Lines.readLine(desk, "1234", "123451", "0042");
        desk.paper(0, 77);
        due("13: what it was", 77, () -> desk.amount(0, 9_999_999));
        due("13: what it was then", 9_999_999, () -> desk.amount(0, 0));
        for (int paper : new int[] {-1, 1, LEAST, MOST}) {
            due("13: paper " + paper, BOUNDS, () -> desk.amount(paper, 1));
            due("13: paper " + paper + ", wrong amount", BOUNDS, () -> desk.amount(paper, -1));
        }
        for (int amount : new int[] {-1, 10_000_000, LEAST, MOST}) {
            due("13: amount " + amount, ARGUMENT, () -> desk.amount(0, amount));
        }
        due("13: it stays", -500, () -> desk.out(0));
    }

    private static void twin() {
        ChequeDesk desk = Lines.taughtDesk();
        desk.batch(0);
        Lines.readLine(desk, "1234", "123451", "0042");
        due("14: no paper", -1, desk::twin);
        desk.paper(0, 1);
        due("14: no reading", -1, desk::twin);
        Lines.readLine(desk, "1234", "000000", "0042");
        due("14: another account", -1, desk::twin);
        desk.paper(0, 1);
        Lines.readLine(desk, "1234", "000000", "0042");
        due("14: the second", 1, desk::twin);
        desk.choose(0);
        due("14: another bank", -1, desk::twin);
        Lines.readLine(desk, "1234", "123452", "0042");
        due("14: it does not fit", -1, desk::twin);
        Lines.feed(desk, Lines.turned(Lines.ticksOf(Lines.line("1234", "123451", "0042"), 9)));
        desk.read();
        due("14: the first, turned", 0, desk::twin);
    }

    private static void out() {
        ChequeDesk desk = deskWith(new int[] {1000, 5}, new int[] {0, 1, 0}, new int[] {300, 40, 900});
        due("15: out(0)", 200, () -> desk.out(0));
        due("15: out(1)", 35, () -> desk.out(1));
        for (int batch : new int[] {-1, 2, LEAST, MOST}) {
            due("15: out(" + batch + ")", BOUNDS, () -> desk.out(batch));
            due("16: slips(" + batch + ")", BOUNDS, () -> desk.slips(batch));
            due("17: slip(" + batch + ")", BOUNDS, () -> desk.slip(batch, 0, 0));
            due("17: slip(" + batch + "), another what", BOUNDS, () -> desk.slip(batch, 0, 3));
        }
        for (int what : new int[] {-1, 3, LEAST, MOST}) {
            due("17: what " + what, ARGUMENT, () -> desk.slip(0, 0, what));
            due("17: what " + what + " of none", ARGUMENT, () -> desk.slip(0, -1, what));
        }
    }

    /** A desk with these TOLD sums, and PAPERS of these BATCHES and AMOUNTS. */
    private static ChequeDesk deskWith(int[] told, int[] batches, int[] amounts) {
        ChequeDesk desk = Lines.taughtDesk();
        for (int sum : told) {
            desk.batch(sum);
        }
        for (int i = 0; i < batches.length; i++) {
            Lines.readLine(desk, "1234", "123451", "000" + i);
            CHECKS.same("paper " + i, i, desk.paper(batches[i], amounts[i]));
        }
        return desk;
    }

    private static void slipsAre(String name, ChequeDesk desk, int batch, int[][] want) {
        due("16: " + name, want.length, () -> desk.slips(batch));
        for (int k = 0; k < want.length; k++) {
            for (int what = 0; what <= 2; what++) {
                int at = k;
                int w = what;
                due("17: " + name + ", slip " + k + ", " + what, want[k][what], () -> desk.slip(batch, at, w));
            }
        }
        for (int k : new int[] {-1, want.length, LEAST, MOST}) {
            for (int what = 0; what <= 2; what++) {
                int w = what;
                due("17: " + name + ", slip " + k, -1, () -> desk.slip(batch, k, w));
            }
        }
    }

    private static void slipsOf(String name, int told, int amount, int[][] want) {
        slipsAre(name, deskWith(new int[] {told}, new int[] {0}, new int[] {amount}), 0, want);
    }

    private static void slipKinds() {
        slipsOf("nothing is out", 500, 500, new int[][] {});
        slipsOf("nothing is out, and nothing told", 0, 0, new int[][] {});
        slipsOf("a digit", 1000, 1010, new int[][] {{0, 0, 1000}});
        slipsOf("a digit, below", 1090, 1010, new int[][] {{0, 0, 1090}, {3, -1, 80}});
        slipsOf("two digits", 1000, 1230, new int[][] {});
        slipsOf("neighbours", 1243, 1234, new int[][] {{1, 0, 1243}, {3, -1, 9}});
        slipsOf("neighbours, above", 1324, 2314, new int[][] {});
        slipsOf("neighbours, first two", 3214567, 2314567, new int[][] {{1, 0, 3214567}, {3, -1, 900000}});
        slipsOf("neighbours with a 0 ahead", 1000, 100, new int[][] {{1, 0, 1000}, {3, -1, 900}});
        slipsOf("neighbours that are a digit less long", 100, 1000, new int[][] {{1, 0, 100}});
        slipsOf("no neighbours", 3214, 1234, new int[][] {{3, -1, 1980}});
        slipsOf("it came twice", 0, 1230, new int[][] {{2, 0, 0}});
        slipsOf("it came twice, or one digit", 0, 400, new int[][] {{0, 0, 0}, {2, 0, 0}});
        slipsOf("a digit ahead", 9000001, 1, new int[][] {{0, 0, 9000001}, {3, -1, 9000000}});
    }

    /** 900, 90 and 100 where 1,000 is told are 90 too much. */
    private static void slipOrder() {
        ChequeDesk desk = deskWith(new int[] {100, 1000, 0}, new int[] {1, 0, 1, 1},
            new int[] {900, 110, 90, 100});
        slipsAre("paper by paper", desk, 1, new int[][] {{0, 2, 0}, {2, 2, 0}, {1, 3, 10}});
        slipsAre("another batch", desk, 0, new int[][] {{0, 1, 100}});
        slipsAre("none in it", desk, 2, new int[][] {});
    }

    private static void slipEdges() {
        ChequeDesk desk = deskWith(new int[] {9_999_999, 10_000_000, 1_000_000_000, 1}, new int[] {}, new int[] {});
        slipsAre("a paper of most lacks", desk, 0, new int[][] {{3, -1, 9_999_999}});
        slipsAre("more than a paper lacks", desk, 1, new int[][] {});
        slipsAre("all lacks", desk, 2, new int[][] {});
        slipsAre("1 lacks", desk, 3, new int[][] {{3, -1, 1}});
        slipsOf("it would be no amount", 10_999_999, 9_999_999, new int[][] {{3, -1, 1_000_000}});
        slipsOf("most", 9_999_999, 9_999_990, new int[][] {{0, 0, 9_999_999}, {3, -1, 9}});
        slipsAre("less than 0", deskWith(new int[] {0}, new int[] {0, 0}, new int[] {5, 5}), 0, new int[][] {});
        slipsAre("nothing twice", deskWith(new int[] {0}, new int[] {0, 0}, new int[] {0, 20}), 0,
            new int[][] {{0, 1, 0}, {2, 1, 0}});
    }

    private static void count() {
        ChequeDesk desk = Lines.taughtDesk();
        desk.batch(1);
        desk.batch(1);
        Lines.readLine(desk, "1234", "123451", "0042");
        desk.paper(0, 1);
        desk.tick(3);
        desk.tick(3);
        desk.tick(3);
        due("18: signs", 12, () -> desk.count(0));
        due("18: ticks", 3, () -> desk.count(1));
        due("18: batches", 2, () -> desk.count(2));
        due("18: papers", 1, () -> desk.count(3));
        for (int what : new int[] {-1, 4, LEAST, MOST}) {
            due("18: count(" + what + ")", -1, () -> desk.count(what));
        }
    }
}
