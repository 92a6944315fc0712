/** Counts and prints the calls whose answer is not the one that is due. */
final class Due {
    private static int asked;
    private static int wrong;
    private static int sentences;
    private static volatile String sentence = "";

    private static final long MOST_SECONDS = 300;

    static {
        Thread watch = new Thread(Due::waitAndFail);
        watch.setDaemon(true);
        watch.start();
    }

    private Due() {
    }

    /** A call that does not end fails its test. */
    private static void waitAndFail() {
        try {
            Thread.sleep(MOST_SECONDS * 1000);
            System.out.println(sentence + "a call did not end");
            Runtime.getRuntime().halt(1);
        } catch (InterruptedException e) {
            Thread.currentThread().interrupt();
        }
    }

    /** What follows tests a sentence of the document: its promise and its words, which stand before what is printed. */
    static void sentence(String promiseAndWords) {
        sentence = promiseAndWords + ": ";
        sentences++;
    }

    static void due(Object call, long got, long want) {
        asked++;
        if (got != want) {
            wrong++;
            if (wrong <= 50) {
                System.out.println(sentence + call + " answered " + got + ", due is " + want);
            }
        }
    }

    static void due(Object call, boolean got, boolean want) {
        due(call, got ? 1 : 0, want ? 1 : 0);
    }

    static void finish() {
        System.out.println((sentences > 0 ? sentences + " sentences, " : "") + asked + " answers, " + wrong + " not as due");
        if (wrong != 0) {
            System.exit(1);
        }
    }
}
