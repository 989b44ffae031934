/** Promises 36 to 39: shares, means, the checksum, the truth of the table. */
final class SumsTest {
    private static final Class<ArithmeticException> ARITHMETIC = ArithmeticException.class;

    public static void main(String[] args) {
        shares();
        everyShareOfSixty();
        means();
        meansOfEveryCount();
        checksums();
        checksumWrapsAround();
        truth();
        truthOfRefusedPlans();
        Check.end("SumsTest");
    }

    private static void shares() {
        WhiteclothTable t = new WhiteclothTable();
        Check.fails(t, "ownedShare() of none", ARITHMETIC, () -> t.ownedShare());
        t.addPlayer(9, 0);
        t.setBell(10, true);
        t.setBell(11, true);
        t.note(0, 10, 1, 'r');
        Check.same("ownedShare()", t.ownedShare(), 0.0f);
        t.note(5, 10, 1, 'r');
        t.note(5, 11, 1, 'r');
        t.give(10, 0);
        Check.same("ownedShare()", t.ownedShare(), (float) 2 / 3);
        t.give(11, 0);
        Check.same("ownedShare()", t.ownedShare(), 1.0f);
        t.give(10, -1);
        Check.same("ownedShare()", t.ownedShare(), (float) 1 / 3);
    }

    private static void means() {
        WhiteclothTable t = new WhiteclothTable();
        Check.fails(t, "meanLoad() of none", ARITHMETIC, () -> t.meanLoad());
        t.addPlayer(9, 0);
        Check.same("meanLoad()", t.meanLoad(), 0.0);
        t.setBell(0, true);
        t.setBell(59, true);
        t.note(0, 0, 1, 'r');
        t.note(0, 59, 1, 'r');
        Check.same("meanLoad() of nobody's", t.meanLoad(), 0.0);
        t.give(0, 0);
        Check.same("meanLoad()", t.meanLoad(), 9.0);
        t.addPlayer(1, 0);
        t.addPlayer(1, 0);
        t.give(59, 2);
        Check.same("meanLoad()", t.meanLoad(), 10.0 / 3);
    }

    private static void everyShareOfSixty() {
        for (int all = 1; all <= 60; all++) {
            WhiteclothTable t = Tables.withBells(30, 31);
            t.addPlayer(9, 0);
            t.give(31, 0);
            for (int i = 0; i < all; i++) {
                t.note(2 * i, i % 7 == 3 ? 30 : 31, 1, 'r');
            }
            int owned = all - (all + 3) / 7;
            Check.same("ownedShare() of " + all, t.ownedShare(), (float) owned / (float) all);
            t.give(30, 0);
            Check.same("ownedShare() of all " + all, t.ownedShare(), 1.0f);
            t.give(30, -1);
            t.give(31, -1);
            Check.same("ownedShare() of none of " + all, t.ownedShare(), 0.0f);
        }
    }

    private static void meansOfEveryCount() {
        WhiteclothTable t = Tables.withBells(4, 59);
        for (int players = 1; players <= 12; players++) {
            t.addPlayer(9, 0);
            t.note(3 * players, 59, 1, 'r');
            Check.same("meanLoad() of nobody's", t.meanLoad(), 0.0);
            t.give(59, players - 1);
            Check.same("meanLoad() of " + players, t.meanLoad(), 1.0);
            t.note(0, 4, 1, 'r');
            t.give(4, 0);
            Check.same("meanLoad() of " + players, t.meanLoad(), (8.0 + players) / players);
            t.drop(0);
            t.give(59, -1);
        }
    }

    /** With sixty notes and bells the sum has gone around a long many times. */
    private static void checksumWrapsAround() {
        WhiteclothTable t = Tables.withAllBells();
        long[] parts = new long[60 * 4 + 60 * 2 + 12 + 1];
        int count = 0;
        for (int i = 0; i < 60; i++) {
            t.note(400 - i, i, 64 - i, 'r');
        }
        for (int i = 0; i < 60; i++) {
            t.slip(i, i - 50);
            for (int part : new int[] {341 + i, 59 - i, 5 + i, i - 50}) {
                parts[count++] = part;
            }
        }
        for (int i = 0; i < 12; i++) {
            t.addPlayer(9, 0);
        }
        t.swap(0, 11);
        for (int pitch = 0; pitch < 60; pitch++) {
            t.give(pitch, 11 - pitch % 12);
            parts[count++] = 11 - pitch % 12;
            parts[count++] = 0;
        }
        for (int i = 0; i < 12; i++) {
            parts[count++] = i == 0 ? 11 : i == 11 ? 0 : i;
        }
        t.setRest(8);
        parts[count] = 8;
        Check.same("checksum()", t.checksum(), fold(parts));
    }

    private static void truthOfRefusedPlans() {
        Check.yes("isTrue() of an empty one", Tables.EMPTY.make().isTrue());
        Check.yes("isTrue() of a small one", Tables.SMALL.make().isTrue());
        Check.yes("isTrue() without a plan", Tables.STUCK.make().isTrue());
        Check.yes("isTrue() with a worn bell", Tables.WORN.make().isTrue());
        Check.yes("isTrue() of a full one", Tables.FULL.make().isTrue());
        WhiteclothTable t = Tables.withAllBells();
        for (int strength = 1; strength <= 9; strength++) {
            t.addPlayer(strength, 0);
            t.give(Traces.HEAVIEST[9 - strength], strength - 1);
        }
        Check.yes("isTrue(), each as strong as its bell weighs", t.isTrue());
    }

    private static long fold(long... parts) {
        long sum = 7;
        for (long part : parts) {
            sum = 31 * sum + part;
        }
        return sum;
    }

    private static void checksums() {
        WhiteclothTable t = new WhiteclothTable();
        Check.same("checksum()", t.checksum(), fold(2));
        t.setRest(5);
        Check.same("checksum()", t.checksum(), fold(5));
        t.setBell(20, true);
        t.setBell(10, true);
        Check.same("checksum()", t.checksum(), fold(-1, 0, -1, 0, 5));
        t.addPlayer(9, 0);
        t.addPlayer(8, 0);
        t.addPlayer(7, 0);
        t.swap(0, 2);
        Check.same("checksum()", t.checksum(), fold(-1, 0, -1, 0, 2, 1, 0, 5));
        t.give(20, 1);
        t.give(10, 0);
        t.note(30, 20, 4, 's');
        t.slip(0, -6);
        t.note(30, 10, 2, 'r');
        t.perform();
        Check.same("checksum()", t.checksum(), fold(30, 10, 2, 0, 30, 20, 4, -6, 0, 1, 1, 3, 2, 1, 0, 5));
        t.addChoir(3, 3);
        t.endPage(3);
        Check.same("checksum()", t.checksum(), fold(30, 10, 2, 0, 30, 20, 4, -6, 0, 1, 1, 3, 2, 1, 0, 5));
    }

    private static void truth() {
        WhiteclothTable t = new WhiteclothTable();
        Check.yes("isTrue() of a new one", t.isTrue());
        t.addPlayer(2, 0);
        t.addPlayer(9, 0);
        for (int pitch = 40; pitch < 60; pitch++) {
            t.setBell(pitch, true);
            t.give(pitch, pitch < 50 ? 1 : 0);
            t.note(3 * pitch, pitch, 4, 'r');
        }
        Check.yes("isTrue()", t.isTrue());
        t.setRest(8);
        Check.no("hasPlan(0)", t.hasPlan(0));
        Check.yes("isTrue() without plans", t.isTrue());
        t.setRest(0);
        t.swap(0, 1);
        Check.yes("hasPlan(0)", t.hasPlan(0));
        Check.yes("isTrue()", t.isTrue());
    }
}
