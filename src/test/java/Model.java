import java.util.ArrayList;
import java.util.Collections;
import java.util.List;

/** The document written a second time, slowly and in other ways than the class, to compare answers with. */
final class Model {
    private final int[] alphabet = new int[12];
    private List<Integer> stripes = new ArrayList<>();
    private Seen latest = null;
    private final List<Integer> told = new ArrayList<>();
    private final List<Taken> papers = new ArrayList<>();

    private record Taken(int batch, int[] amount, String key) {
    }

    private record Slip(int kind, int paper, int amount) {
    }

    private record Other(int place, int sign) {
    }

    /** A prefix of a reading, or a whole one. Texts have a letter for each place, so that they compare in order. */
    record Row(int cost, String signs, String speeds) implements Comparable<Row> {
        public int compareTo(Row row) {
            if (cost != row.cost) {
                return Integer.compare(cost, row.cost);
            }
            int bySigns = signs.compareTo(row.signs);
            return bySigns != 0 ? bySigns : speeds.compareTo(row.speeds);
        }

        int sign(int place) {
            return signs.charAt(place) - 'a';
        }

        int speed(int place) {
            return speeds.charAt(place) - 'a';
        }

        Row and(int more, int sign, int speed) {
            return new Row(cost + more, signs + (char) ('a' + sign), speeds + (char) ('a' + speed));
        }
    }

    /** What a reading keeps: the ticks the way they were read, and the alphabet of that time. */
    private static final class Seen {
        List<Integer> ticks;
        int[] alphabet;
        int cost;
        int gap;
        boolean turned;
        int[] signs;
        int[] speeds;
    }

    private interface Allowed {
        boolean at(int place, int sign);
    }

    private static int distance(List<Integer> ticks, int[] alphabet, int place, int sign, int speed) {
        int sum = 0;
        for (int i = 0; i < 6; i++) {
            sum += Math.abs(ticks.get(place * 6 + i) - speed * Lines.width(alphabet, sign, i));
        }
        return sum;
    }

    /** For each SPEED of the last place the first of the cheapest prefixes is enough: what follows is the same for all. */
    private static Row best(List<Integer> ticks, int[] alphabet, Allowed allowed) {
        Row[] ends = null;
        for (int place = 0; place < ticks.size() / 6; place++) {
            Row[] next = new Row[13];
            for (int speed = 4; speed <= 12; speed++) {
                Row start = ends == null ? new Row(0, "", "") : null;
                for (int near = Math.max(4, speed - 1); ends != null && near <= Math.min(12, speed + 1); near++) {
                    if (start == null || ends[near].compareTo(start) < 0) {
                        start = ends[near];
                    }
                }
                for (int sign = 0; sign < 12; sign++) {
                    if (allowed.at(place, sign)) {
                        Row row = start.and(distance(ticks, alphabet, place, sign, speed), sign, speed);
                        if (next[speed] == null || row.compareTo(next[speed]) < 0) {
                            next[speed] = row;
                        }
                    }
                }
            }
            ends = next;
        }
        Row best = ends[4];
        for (int speed = 5; speed <= 12; speed++) {
            best = ends[speed].compareTo(best) < 0 ? ends[speed] : best;
        }
        return best;
    }

    private static int gap(List<Integer> ticks, int[] alphabet, Row best) {
        int least = Integer.MAX_VALUE;
        for (int p = 0; p < ticks.size() / 6; p++) {
            int there = p;
            Row beside = best(ticks, alphabet, (place, sign) -> place != there || sign != best.sign(there));
            least = Math.min(least, beside.cost() - best.cost());
        }
        return least;
    }

    int teach(int sign, int widths) {
        if (sign < 0 || sign > 11 || !String.valueOf(widths).matches("[123]{6}")) {
            throw new IllegalArgumentException();
        }
        boolean other = alphabet[sign] != widths;
        alphabet[sign] = widths;
        return other ? 1 : 0;
    }

    int tick(int n) {
        if (n < 1 || n > 60) {
            throw new IllegalArgumentException();
        }
        if (stripes.size() == 120) {
            return -1;
        }
        stripes.add(n);
        return stripes.size();
    }

    int read() {
        for (int widths : alphabet) {
            if (widths == 0) {
                return -1;
            }
        }
        if (stripes.isEmpty() || stripes.size() % 6 != 0) {
            return -2;
        }
        List<Integer> back = new ArrayList<>(stripes);
        Collections.reverse(back);
        Row plain = best(stripes, alphabet, (place, sign) -> true);
        Row turned = best(back, alphabet, (place, sign) -> true);
        Seen seen = new Seen();
        seen.turned = turned.cost() < plain.cost();
        seen.ticks = seen.turned ? back : stripes;
        seen.alphabet = alphabet.clone();
        Row best = seen.turned ? turned : plain;
        seen.cost = best.cost();
        seen.gap = gap(seen.ticks, seen.alphabet, best);
        seen.signs = new int[stripes.size() / 6];
        seen.speeds = new int[stripes.size() / 6];
        for (int i = 0; i < seen.signs.length; i++) {
            seen.signs[i] = best.sign(i);
            seen.speeds[i] = best.speed(i);
        }
        latest = seen;
        stripes = new ArrayList<>();
        return seen.cost;
    }

    private static void require(boolean held) {
        if (!held) {
            throw new IllegalArgumentException();
        }
    }

    private static String text(int[] signs) {
        StringBuilder text = new StringBuilder();
        for (int sign : signs) {
            text.append(Character.toUpperCase(Character.forDigit(sign, 12)));
        }
        return text.toString();
    }

    private static boolean fits(int[] signs) {
        String text = text(signs);
        if (!text.matches("A[0-9]{4}B[0-9]{6}B[0-9]{4}A")) {
            return false;
        }
        int sum = 7 * signs[6] + 3 * signs[7] + signs[8] + 7 * signs[9] + 3 * signs[10] + signs[11];
        return sum % 10 == 0;
    }

    private boolean latestFits() {
        return latest != null && fits(latest.signs);
    }

    int about(int what) {
        require(what >= 0 && what <= 4);
        if (latest == null) {
            return -1;
        }
        return new int[] {
            latest.signs.length, latest.cost, latest.gap, latest.turned ? 1 : 0, latestFits() ? 1 : 0
        }[what];
    }

    int place(int k, int what) {
        require(what == 0 || what == 1);
        if (latest == null || k < 0 || k >= latest.signs.length) {
            return -1;
        }
        return what == 0 ? latest.signs[k] : latest.speeds[k];
    }

    int field(int what) {
        require(what >= 0 && what <= 2);
        return latestFits() ? Integer.parseInt(text(latest.signs).split("[AB]")[what + 1]) : -1;
    }

    private List<Other> allOthers() {
        List<Other> all = new ArrayList<>();
        if (latest == null || latest.signs.length != 18) {
            return all;
        }
        for (int place = 0; place < 18; place++) {
            for (int sign = 0; sign < 12; sign++) {
                if (sign != latest.signs[place] && fits(with(place, sign))) {
                    all.add(new Other(place, sign));
                }
            }
        }
        return all;
    }

    private int[] with(int place, int sign) {
        int[] row = latest.signs.clone();
        row[place] = sign;
        return row;
    }

    private int costOf(Other other) {
        int[] row = with(other.place(), other.sign());
        return best(latest.ticks, latest.alphabet, (place, sign) -> sign == row[place]).cost();
    }

    int others() {
        return allOthers().size();
    }

    int other(int k, int what) {
        require(what >= 0 && what <= 2);
        List<Other> all = allOthers();
        if (k < 0 || k >= all.size()) {
            return -1;
        }
        Other other = all.get(k);
        return what == 0 ? other.place() : what == 1 ? other.sign() : costOf(other) - latest.cost;
    }

    int choose(int k) {
        List<Other> all = allOthers();
        if (k < 0 || k >= all.size()) {
            return 0;
        }
        Other other = all.get(k);
        latest.cost = costOf(other);
        latest.gap = 0;
        latest.signs = with(other.place(), other.sign());
        return 1;
    }

    int batch(int sum) {
        require(sum >= 0 && sum <= 1_000_000_000);
        if (told.size() == 20) {
            throw new IllegalStateException();
        }
        told.add(sum);
        return told.size() - 1;
    }

    private void requireBatch(int batch) {
        if (batch < 0 || batch >= told.size()) {
            throw new IndexOutOfBoundsException();
        }
    }

    int paper(int batch, int amount) {
        requireBatch(batch);
        require(amount >= 0 && amount <= 9_999_999);
        if (!latestFits()) {
            return -1;
        }
        if (twin() != -1) {
            return -2;
        }
        if (papers.size() == 100) {
            return -3;
        }
        papers.add(new Taken(batch, new int[] {amount}, text(latest.signs)));
        latest = null;
        return papers.size() - 1;
    }

    int amount(int paper, int amount) {
        if (paper < 0 || paper >= papers.size()) {
            throw new IndexOutOfBoundsException();
        }
        require(amount >= 0 && amount <= 9_999_999);
        int was = papers.get(paper).amount()[0];
        papers.get(paper).amount()[0] = amount;
        return was;
    }

    int twin() {
        for (int i = 0; i < papers.size(); i++) {
            if (latestFits() && papers.get(i).key().equals(text(latest.signs))) {
                return i;
            }
        }
        return -1;
    }

    long out(int batch) {
        requireBatch(batch);
        long out = -told.get(batch);
        for (Taken paper : papers) {
            out += paper.batch() == batch ? paper.amount()[0] : 0;
        }
        return out;
    }

    /** Every slip is made and tried: what would the batch come to with it? */
    private List<Slip> allSlips(int batch) {
        List<Slip> all = new ArrayList<>();
        long out = out(batch);
        for (int i = 0; i < papers.size() && out != 0; i++) {
            if (papers.get(i).batch() == batch) {
                slipsOf(all, i, papers.get(i).amount()[0], out);
            }
        }
        if (out < 0 && out >= -9_999_999) {
            all.add(new Slip(3, -1, (int) -out));
        }
        return all;
    }

    private static void slipsOf(List<Slip> all, int paper, int amount, long out) {
        String digits = String.format("%07d", amount);
        for (int i = 0; i < 7; i++) {
            for (char c = '0'; c <= '9'; c++) {
                int due = Integer.parseInt(digits.substring(0, i) + c + digits.substring(i + 1));
                if (due == amount - out) {
                    all.add(new Slip(0, paper, due));
                }
            }
        }
        for (int i = 0; i < 6; i++) {
            int due = Integer.parseInt(digits.substring(0, i) + digits.charAt(i + 1) + digits.charAt(i)
                + digits.substring(i + 2));
            if (due == amount - out) {
                all.add(new Slip(1, paper, due));
            }
        }
        if (amount == out) {
            all.add(new Slip(2, paper, 0));
        }
    }

    int slips(int batch) {
        requireBatch(batch);
        return allSlips(batch).size();
    }

    int slip(int batch, int k, int what) {
        requireBatch(batch);
        require(what >= 0 && what <= 2);
        List<Slip> all = allSlips(batch);
        if (k < 0 || k >= all.size()) {
            return -1;
        }
        Slip slip = all.get(k);
        return what == 0 ? slip.kind() : what == 1 ? slip.paper() : slip.amount();
    }

    int count(int what) {
        int taught = 0;
        for (int widths : alphabet) {
            taught += widths == 0 ? 0 : 1;
        }
        switch (what) {
            case 0: return taught;
            case 1: return stripes.size();
            case 2: return told.size();
            case 3: return papers.size();
            default: return -1;
        }
    }
}
