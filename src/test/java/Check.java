/** Counts the answers of one test that are not as due. */
final class Check {
    private static final long MILLISECONDS_MOST = 600_000;

    private final String name;
    private int asked = 0;
    private int wrong = 0;

    Check(String name) {
        this.name = name;
        Thread watch = new Thread(this::endLate);
        watch.setDaemon(true);
        watch.start();
    }

    /** No call may fail to end: then neither does the test, which takes seconds. */
    private void endLate() {
        try {
            Thread.sleep(MILLISECONDS_MOST);
        } catch (InterruptedException early) {
            return;
        }
        System.out.println(name + ": a call does not end");
        Runtime.getRuntime().halt(1);
    }

    void due(String call, long got, long want) {
        asked++;
        if (got != want) {
            wrong++;
            System.out.println(name + ": " + call + " answered " + got + ", due is " + want);
        }
    }

    /** Types a text, letter by letter. */
    static void type(GravelWords x, String text) {
        for (int i = 0; i < text.length(); i++) {
            x.type(text.charAt(i));
        }
    }

    /** A new object that a text has told. */
    GravelWords told(String text, int items) {
        GravelWords x = new GravelWords();
        type(x, text);
        due("suburb() of " + text, x.suburb(), items);
        return x;
    }

    void end() {
        System.out.println(name + ": " + asked + " answers, " + wrong + " of them wrong");
        if (wrong != 0 || asked == 0) {
            System.exit(1);
        }
    }
}
