/** Helps tests to bring taught desks, lines and ticks about. */
final class Lines {
    static final int[] ALPHABET = {
        111222, 112122, 112212, 112221, 121122, 121212, 121221, 122112, 122121, 122211, 333111, 313131
    };

    private Lines() {
    }

    static ChequeDesk taughtDesk() {
        ChequeDesk desk = new ChequeDesk();
        teachAll(desk);
        return desk;
    }

    static void teachAll(ChequeDesk desk) {
        for (int sign = 0; sign < 12; sign++) {
            desk.teach(sign, ALPHABET[sign]);
        }
    }

    static int width(int[] alphabet, int sign, int i) {
        return String.valueOf(alphabet[sign]).charAt(i) - '0';
    }

    /** The ticks of these SIGNS, all at one SPEED. */
    static int[] ticksOf(int[] signs, int speed) {
        int[] ticks = new int[signs.length * 6];
        for (int i = 0; i < ticks.length; i++) {
            ticks[i] = speed * width(ALPHABET, signs[i / 6], i % 6);
        }
        return ticks;
    }

    static int[] turned(int[] ticks) {
        int[] back = new int[ticks.length];
        for (int i = 0; i < ticks.length; i++) {
            back[i] = ticks[ticks.length - 1 - i];
        }
        return back;
    }

    /** The SIGNS of a LINE; the texts are digits, A is the mark 10 and B the mark 11 where a digit is due. */
    static int[] line(String bank, String account, String number) {
        return signs("A" + bank + "B" + account + "B" + number + "A");
    }

    static int[] signs(String text) {
        int[] signs = new int[text.length()];
        for (int i = 0; i < signs.length; i++) {
            signs[i] = Character.digit(text.charAt(i), 12);
        }
        return signs;
    }

    static void feed(ChequeDesk desk, int[] ticks) {
        for (int tick : ticks) {
            desk.tick(tick);
        }
    }

    static int readLine(ChequeDesk desk, String bank, String account, String number) {
        feed(desk, ticksOf(line(bank, account, number), 8));
        return desk.read();
    }
}
