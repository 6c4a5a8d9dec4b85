/** Compares answers with those that are due, tells the wrong ones, and ends a test. */
final class Check {
    private final String test;
    private int looked;
    private int wrong;

    Check(String test) {
        this.test = test;
    }

    void due(String call, long got, long want) {
        looked++;
        if (got != want) {
            wrong++;
            if (wrong <= 50) {
                System.out.println(test + ": " + call + " answered " + got + ", due is " + want);
            }
        }
    }

    void due(String call, String got, String want) {
        looked++;
        if (!got.equals(want)) {
            wrong++;
            System.out.println(test + ": " + call + " is " + got + ", due is " + want);
        }
    }

    boolean isClean() {
        return wrong == 0;
    }

    void finish() {
        System.out.println(test + ": " + looked + " answers, " + wrong + " not as due");
        if (wrong != 0 || looked == 0) {
            System.exit(1);
        }
    }

    static void feed(NestedDeeds x, String text) {
        for (int i = 0; i < text.length(); i++) {
            x.feed(text.charAt(i), 1);
        }
    }

    static String paper(NestedDeeds x) {
        StringBuilder text = new StringBuilder();
        for (int i = 0; i < x.count(2); i++) {
            text.append((char) x.byteAt(i));
        }
        return text.toString();
    }

    /** Reads a text that is put in place of what is on paper. */
    static int readText(NestedDeeds x, String text) {
        x.tear();
        feed(x, text);
        return x.read();
    }

    static String written(NestedDeeds x, int deed) {
        x.write(deed);
        return paper(x);
    }
}
