import java.util.ArrayList;

/** What the tests share: texts are fed, answers compared, wrong ones told. */
class Checks {
    // With this crew and seed 7 the draws of watches 0 .. 4 are 2034, 2134, 4102, 0341, 4230 (POSTS 0 to 3).
    static final String FIVE =
        "man a 1 2 3 4 1; man b 5 0 1 2 0; man c 3 3 3 3 2; man d 0 9 8 7 0; man e 2 4 6 8 9; seed 7;";
    static int wrong = 0;
    static int promise = 0;
    private static String words = "";

    /** The document's words that the answers to come are taken from. */
    static void sentence(int number, String quoted) {
        promise = number;
        words = quoted;
    }

    static void due(String call, long got, long want) {
        if (got == want) return;
        wrong++;
        String where = words.isEmpty() ? "" : " \"" + words + "\"";
        System.out.println("promise " + promise + where + ": " + call + " answered " + got + ", due is " + want);
    }

    static void yes(String call, boolean got) { due(call, got ? 1 : 0, 1); }

    static void no(String call, boolean got) { due(call, got ? 1 : 0, 0); }

    /** A text as feed() takes it: rows of five ints, the last one filled with blanks. */
    static int[][] twenties(String text) {
        int[][] rows = new int[(text.length() + 19) / 20][5];
        for (int i = 0; i < 20 * rows.length; i++) {
            int sign = i < text.length() ? text.charAt(i) & 255 : ' ';
            rows[i / 20][i % 20 / 4] |= sign << 24 - 8 * (i % 4);
        }
        return rows;
    }

    static void feed(StrawWatch x, String text) {
        int[][] rows = twenties(text);
        for (int[] f : rows) x.feed(f[0], f[1], f[2], f[3], f[4]);
        x.back(20 * rows.length - text.length());
    }

    static StrawWatch with(String text) {
        StrawWatch x = new StrawWatch();
        feed(x, text);
        due("read() of " + text, x.read(), 0);
        due("place() of " + text, x.place(), -1);
        return x;
    }

    static void fault(String text, int number, int place) {
        StrawWatch x = new StrawWatch();
        feed(x, text);
        due("read() of " + text, x.read(), number);
        due("place() of " + text, x.place(), place);
    }

    static void good(String text) { fault(text, 0, -1); }

    static void fraction(String call, int up, int down, int wantUp, int wantDown) {
        due(call + " above", up, wantUp);
        due(call + " below", down, wantDown);
    }

    /** A crew of so many MEN, a, b, c .., all with these five numbers. */
    static String crew(int men, String numbers) {
        StringBuilder s = new StringBuilder();
        for (int m = 0; m < men; m++) s.append("man ").append((char) ('a' + m)).append(' ').append(numbers).append(";");
        return s.toString();
    }

    /** LOT in longs, each step cut to 32 bits, as the document tells it. */
    static int lot(int n, long seed, long which) {
        long h = seed;
        for (long it : new long[] {81, which}) {
            h = ((h ^ it) * 1103515245L + 12345L) & 0xffffffffL;
            h = h ^ h / 32768;
        }
        return (int) (h / 2 % n);
    }

    /** Who is drawn for POSTS 0 to 3. */
    static int[] draw(int men, long seed, int watch) {
        ArrayList<Integer> left = new ArrayList<>();
        for (int man = 0; man < men; man++) left.add(man);
        int[] who = {-2, -2, -2, -2};
        for (int post = 0; post < 4 && !left.isEmpty(); post++) who[post] = left.remove(lot(left.size(), seed, 64L * watch + post));
        return who;
    }

    static void finish(String right) {
        System.out.println(wrong == 0 ? right : wrong + " answers are not as due");
        if (wrong != 0) System.exit(1);
    }
}
