/** What tests of single sentences of the document share: each is called by its sentence, and holds or fails alone. */
abstract class Sentences {
    static final int NONE = -1, BAD = -2, STATE = -3, FULL = -4, NOT_ANY = -5;
    static final int NOTHING = -11, CAST = -12, PLACE = -13, SIZE = -14;
    static final long NO = Long.MIN_VALUE;

    private static final int SECONDS = 120;

    private static String current = "";
    private static int tests;
    private static int failed;
    private static int answers;
    private static int wrongInThis;

    static {
        Watch.start(SECONDS);
    }

    /** Tests one sentence; the body says what is due. */
    static void sentence(String words, Runnable body) {
        tests++;
        current = words;
        wrongInThis = 0;
        int before = answers;
        try {
            body.run();
        } catch (RuntimeException e) {
            wrong("it threw " + e);
        }
        if (answers == before) wrong("nothing was looked at");
        if (wrongInThis > 0) failed++;
    }

    static void due(String call, long got, long want) {
        answers++;
        if (got != want) wrong(call + " answered " + got + ", due is " + want);
    }

    private static void wrong(String what) {
        wrongInThis++;
        if (wrongInThis <= 20) System.out.println("[" + current + "] " + what);
    }

    static void end() {
        System.out.println(tests + " sentences, " + answers + " answers, " + failed + " sentences broken");
        if (failed > 0) System.exit(1);
    }

    static int cells(int... numbers) {
        int bits = 0;
        for (int n : numbers) bits |= 1 << n;
        return bits;
    }

    static int[] upTo(int least, int most) {
        int[] all = new int[most - least + 1];
        for (int k = 0; k < all.length; k++) all[k] = least + k;
        return all;
    }

    static String repeat(String text, int n) {
        return text.repeat(n);
    }
}
