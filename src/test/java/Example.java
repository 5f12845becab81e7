/** The program that README.md shows, with what it prints: ReadmeTest compares the two. */
public final class Example {
    private Example() {
    }

    public static void main(String[] args) {
        // README begins
        ChequeDesk desk = new ChequeDesk();
        int[] widths = {111222, 112122, 112212, 112221, 121122, 121212, 121221, 122112, 122121, 122211, 333111, 313131};
        for (int sign = 0; sign < 12; sign++) {
            desk.teach(sign, widths[sign]);
        }
        int[] line = {10, 1, 2, 3, 4, 11, 1, 2, 3, 4, 5, 7, 11, 0, 0, 4, 2, 10};
        for (int sign : line) {
            for (int rank = 100000; rank > 0; rank = rank / 10) {
                desk.tick(8 * (widths[sign] / rank % 10));
            }
        }
        System.out.println("read: cost " + desk.read() + ", gap " + desk.about(2) + ", fits " + desk.about(4));
        for (int k = 0; k < desk.others(); k++) {
            System.out.println("other " + k + ": place " + desk.other(k, 0) + ", sign " + desk.other(k, 1)
                + ", costs " + desk.other(k, 2) + " more");
        }
        desk.choose(5);
        System.out.println("chosen: " + desk.field(0) + " " + desk.field(1) + " " + desk.field(2));
        int batch = desk.batch(1243);
        int paper = desk.paper(batch, 1234);
        System.out.println("paper " + paper + " of batch " + batch + ": out " + desk.out(batch));
        for (int k = 0; k < desk.slips(batch); k++) {
            System.out.println("slip " + k + ": kind " + desk.slip(batch, k, 0) + ", paper " + desk.slip(batch, k, 1)
                + ", amount " + desk.slip(batch, k, 2));
        }
        desk.amount(paper, 1243);
        System.out.println("mended: out " + desk.out(batch));
        // README ends
    }
}
