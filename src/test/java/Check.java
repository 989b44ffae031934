/** Counts the answers that are not due, and ends a test with exit code 1 if there was one. */
final class Check {
    private static int wrong = 0;
    private static int asked = 0;

    interface Call {
        void run();
    }

    private Check() {
    }

    static void same(String call, long got, long due) {
        asked++;
        if (got != due) {
            wrong++;
            System.out.println(call + " answered " + got + ", due is " + due);
        }
    }

    static void same(String call, double got, double due) {
        asked++;
        if (Double.compare(got, due) != 0) {
            wrong++;
            System.out.println(call + " answered " + got + ", due is " + due);
        }
    }

    static void same(String call, String got, String due) {
        asked++;
        if (!got.equals(due)) {
            wrong++;
            System.out.println(call + ": " + got + ", due is " + due);
        }
    }

    static void yes(String call, boolean got) {
        same(call, got ? 1 : 0, 1);
    }

    static void no(String call, boolean got) {
        same(call, got ? 1 : 0, 0);
    }

    /** The call must throw exactly this, and leave the table as it was. */
    static void fails(WhiteclothTable table, String name, Class<? extends RuntimeException> due, Call call) {
        long before = table.checksum();
        String got = "nothing";
        try {
            call.run();
        } catch (RuntimeException e) {
            got = thrown(e);
        }
        same(name, got, "throws." + due.getSimpleName());
        same(name + " leaves the checksum", table.checksum(), before);
    }

    /** The exception's name; with a mark if not the program threw it, but the machine or the library. */
    static String thrown(RuntimeException e) {
        StackTraceElement[] frames = e.getStackTrace();
        boolean isOwn = frames.length > 0 && frames[0].getClassName().startsWith("WhiteclothTable");
        return "throws." + e.getClass().getSimpleName() + (isOwn ? "" : ", and not by itself");
    }

    static void end(String test) {
        System.out.println(test + ": " + asked + " asked, " + wrong + " wrong");
        if (wrong != 0) {
            System.exit(1);
        }
    }
}
