/** What the tests share: how a check is made and counted, and how a run of calls is told by a text. */
abstract class Checks {
    interface Call {
        Object answer();
    }

    interface OfNumber {
        Object answer(int number);
    }

    static final int MANY = Integer.MAX_VALUE;
    static final int FEW = Integer.MIN_VALUE;

    private static String title = "";
    private static int tests;
    private static int checks;
    private static int wrong;
    private static int checksBefore;

    // ---- how tests are run and counted

    /** A test of its own: it is wrong too if it ends by an exception, or if it checks nothing. */
    static void test(String name, Runnable body) {
        title = name;
        tests++;
        checksBefore = checks;
        try {
            body.run();
        } catch (RuntimeException e) {
            wrong++;
            System.out.println(title + ": ended by " + e);
            e.printStackTrace(System.out);
        }
        if (checks == checksBefore) {
            wrong++;
            System.out.println(title + ": nothing was checked");
        }
    }

    static void end() {
        System.out.println(tests + " tests, " + checks + " checks, " + wrong + " things that are not due");
        if (wrong != 0) {
            System.exit(1);
        }
    }

    static void due(Object got, Object want) {
        checks++;
        if (!want.equals(got)) {
            wrong++;
            System.out.println(title + ", line " + lineOfTest() + ": answered " + got + ", due is " + want);
        }
    }

    /** The line in the test itself, past the helpers that stand in this class. */
    private static int lineOfTest() {
        for (StackTraceElement step : new Throwable().getStackTrace()) {
            if (!step.getClassName().startsWith("Checks")) {
                return step.getLineNumber();
            }
        }
        return 0;
    }

    // ---- calls that are refused

    private static String nameOf(Class<?> kind) {
        return "throws." + kind.getSimpleName();
    }

    /** The call throws this very kind, and changes nothing that the digest could tell. */
    static void refused(VoteLogs x, Class<? extends RuntimeException> kind, Call call) {
        long before = x.digest();
        Object got;
        try {
            got = call.answer();
        } catch (RuntimeException e) {
            got = nameOf(e.getClass());
        }
        due(got, nameOf(kind));
        due(x.digest(), before);
    }

    static void noIndex(VoteLogs x, Call call) {
        refused(x, IndexOutOfBoundsException.class, call);
    }

    static void noArgument(VoteLogs x, Call call) {
        refused(x, IllegalArgumentException.class, call);
    }

    static void noState(VoteLogs x, Call call) {
        refused(x, IllegalStateException.class, call);
    }

    /** No number from 0 to the last is refused, and those past them are. */
    static void numbersTo(VoteLogs x, int last, OfNumber call) {
        for (int number = 0; number <= last; number++) {
            due(call.answer(number) != null, true);
        }
        noNumbersPast(x, last, call);
    }

    static void noNumbersPast(VoteLogs x, int last, OfNumber call) {
        for (int number : new int[] {-1, last + 1, 32, FEW, MANY}) {
            noIndex(x, () -> call.answer(number));
        }
    }

    // ---- runs as texts

    static void type(VoteLogs x, String text) {
        for (int i = 0; i < text.length(); i++) {
            x.append(text.charAt(i));
        }
    }

    static int run(VoteLogs x, String text) {
        x.clearBuffer();
        type(x, text);
        return x.runCourse();
    }

    /** A new object on which a course was run to its end. */
    static VoteLogs after(String text) {
        VoteLogs x = new VoteLogs();
        int parts = text.split(";").length;
        due(run(x, text), parts);
        return x;
    }

    /** So many transfers of the size 1, each from the store 0 to all others: four messages each wait. */
    static VoteLogs afterBegins(int count) {
        VoteLogs x = new VoteLogs();
        for (int i = 0; i < count; i++) {
            x.begin(0, 14, 1);
        }
        return x;
    }

    /** The row that waits, each message as kind, transfer, store. */
    static String row(VoteLogs x) {
        StringBuilder text = new StringBuilder();
        for (int place = 0; place < x.waiting(); place++) {
            text.append(place == 0 ? "" : " ").append(x.kindOf(place)).append(x.transferOf(place)).append(x.storeOf(place));
        }
        return text.toString();
    }

    /** The log of a site, each record as kind, transfer. */
    static String log(VoteLogs x, int site) {
        StringBuilder text = new StringBuilder();
        for (int place = 0; place < x.records(site); place++) {
            text.append(place == 0 ? "" : " ").append(x.recordKind(site, place)).append(x.recordTransfer(site, place));
        }
        return text.toString();
    }

    static String amounts(VoteLogs x) {
        return x.amount(0) + " " + x.amount(1) + " " + x.amount(2) + " " + x.amount(3);
    }

    /** The place of the first such message that waits; -1 if none does. */
    static int placeOf(VoteLogs x, int kind, int transfer, int store) {
        for (int place = 0; place < x.waiting(); place++) {
            if (x.kindOf(place) == kind && x.transferOf(place) == transfer && x.storeOf(place) == store) {
                return place;
            }
        }
        return -1;
    }
}
