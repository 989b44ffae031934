/** Promises 36 to 39: shares, means, the checksum, the truth of the table. */
final class SumsTest {
    private static final Class<ArithmeticException> ARITHMETIC = ArithmeticException.class;

    public static void main(String[] args) {
        shares();
        means();
        checksums();
        truth();
        Check.end("SumsTest");
    }

    private static void shares() {
        WhiteclothTable t = new WhiteclothTable();
        Check.fails(t, "ownedShare() of none", ARITHMETIC, () -> t.ownedShare());
        t.addPlayer(9, 0);
        t.setBell(10, true);
        t.setBell(11, true);
        t.note(0, 10, 1, 'r');
        Check.same("ownedShare()", t.ownedShare(), 0.0f);
        t.note(5, 10, 1, 'r');
        t.note(5, 11, 1, 'r');
        t.give(10, 0);
        Check.same("ownedShare()", t.ownedShare(), (float) 2 / 3);
        t.give(11, 0);
        Check.same("ownedShare()", t.ownedShare(), 1.0f);
        t.give(10, -1);
        Check.same("ownedShare()", t.ownedShare(), (float) 1 / 3);
    }

    private static void means() {
        WhiteclothTable t = new WhiteclothTable();
        Check.fails(t, "meanLoad() of none", ARITHMETIC, () -> t.meanLoad());
        t.addPlayer(9, 0);
        Check.same("meanLoad()", t.meanLoad(), 0.0);
        t.setBell(0, true);
        t.setBell(59, true);
        t.note(0, 0, 1, 'r');
        t.note(0, 59, 1, 'r');
        Check.same("meanLoad() of nobody's", t.meanLoad(), 0.0);
        t.give(0, 0);
        Check.same("meanLoad()", t.meanLoad(), 9.0);
        t.addPlayer(1, 0);
        t.addPlayer(1, 0);
        t.give(59, 2);
        Check.same("meanLoad()", t.meanLoad(), 10.0 / 3);
    }

    private static long fold(long... parts) {
        long sum = 7;
        for (long part : parts) {
            sum = 31 * sum + part;
        }
        return sum;
    }

    private static void checksums() {
        WhiteclothTable t = new WhiteclothTable();
        Check.same("checksum()", t.checksum(), fold(2));
        t.setRest(5);
        Check.same("checksum()", t.checksum(), fold(5));
        t.setBell(20, true);
        t.setBell(10, true);
        Check.same("checksum()", t.checksum(), fold(-1, 0, -1, 0, 5));
        t.addPlayer(9, 0);
        t.addPlayer(8, 0);
        t.addPlayer(7, 0);
        t.swap(0, 2);
        Check.same("checksum()", t.checksum(), fold(-1, 0, -1, 0, 2, 1, 0, 5));
        t.give(20, 1);
        t.give(10, 0);
        t.note(30, 20, 4, 's');
        t.slip(0, -6);
        t.note(30, 10, 2, 'r');
        t.perform();
        Check.same("checksum()", t.checksum(), fold(30, 10, 2, 0, 30, 20, 4, -6, 0, 1, 1, 3, 2, 1, 0, 5));
        t.addChoir(3, 3);
        t.endPage(3);
        Check.same("checksum()", t.checksum(), fold(30, 10, 2, 0, 30, 20, 4, -6, 0, 1, 1, 3, 2, 1, 0, 5));
    }

    private static void truth() {
        WhiteclothTable t = new WhiteclothTable();
        Check.yes("isTrue() of a new one", t.isTrue());
        t.addPlayer(2, 0);
        t.addPlayer(9, 0);
        for (int pitch = 40; pitch < 60; pitch++) {
            t.setBell(pitch, true);
            t.give(pitch, pitch < 50 ? 1 : 0);
            t.note(3 * pitch, pitch, 4, 'r');
        }
        Check.yes("isTrue()", t.isTrue());
        t.setRest(8);
        Check.no("hasPlan(0)", t.hasPlan(0));
        Check.yes("isTrue() without plans", t.isTrue());
        t.setRest(0);
        t.swap(0, 1);
        Check.yes("hasPlan(0)", t.hasPlan(0));
        Check.yes("isTrue()", t.isTrue());
    }
}
