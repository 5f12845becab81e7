/** Helps tests to bring lines and ticks about. */
final class Lines {
    static final int[] ALPHABET = {
        111222, 112122, 112212, 112221, 121122, 121212, 121221, 122112, 122121, 122211, 333111, 313131
    };

    private Lines() {
    }

    static int width(int[] alphabet, int sign, int i) {
        return String.valueOf(alphabet[sign]).charAt(i) - '0';
    }

    /** The ticks of these SIGNS, all at one SPEED. */
    static int[] ticksOf(int[] signs, int speed) {
        int[] ticks = new int[signs.length * 6];
        for (int i = 0; i < ticks.length; i++) {
            ticks[i] = speed * width(ALPHABET, signs[i / 6], i % 6);
        }
        return ticks;
    }

    static int[] turned(int[] ticks) {
        int[] back = new int[ticks.length];
        for (int i = 0; i < ticks.length; i++) {
            back[i] = ticks[ticks.length - 1 - i];
        }
        return back;
    }

    /** The SIGNS of a LINE; the texts are digits, A is the mark 10 and B the mark 11 where a digit is due. */
    static int[] line(String bank, String account, String number) {
        return signs("A" + bank + "B" + account + "B" + number + "A");
    }

    static int[] signs(String text) {
        int[] signs = new int[text.length()];
        for (int i = 0; i < signs.length; i++) {
            signs[i] = Character.digit(text.charAt(i), 12);
        }
        return signs;
    }

    static void feed(ChequeDesk desk, int[] ticks) {
        for (int tick : ticks) {
            desk.tick(tick);
        }
    }

    /** The alphabet with a 0 of six widths of 1, and a 1 of six widths of 2. */
    static int[] flatZero() {
        int[] widths = ALPHABET.clone();
        widths[0] = 111111;
        widths[1] = 222222;
        return widths;
    }

    /** A line with such a 0 at each of its digits, at SPEED 8. */
    static int[] flatZeros() {
        int[] signs = signs("A0000B000000B0000A");
        int[] ticks = ticksOf(signs, 8);
        for (int i = 0; i < ticks.length; i++) {
            ticks[i] = signs[i / 6] == 0 ? 8 : ticks[i];
        }
        return ticks;
    }
}
