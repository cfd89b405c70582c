import java.util.Arrays;
import java.util.Random;

/** An object of the class and one of the Oracle, on which the same calls are made: every answer must be alike. */
final class Twins {
    static int wrong = 0;
    static int calls = 0;

    final Random random;
    final StrawWatch x = new StrawWatch();
    final Oracle o = new Oracle();
    /** How many calls were made on this object. */
    int made = 0;
    private final String name;

    Twins(String name, Random random) {
        this.name = name;
        this.random = random;
    }

    static void finish() {
        System.out.println(calls + " calls as the oracle's, but " + wrong);
        if (wrong != 0) System.exit(1);
    }

    void due(String call, long got, long want) {
        calls++;
        made++;
        if (got == want) return;
        wrong++;
        if (wrong < 40) System.out.println(name + ", call " + made + ": " + call + " answered " + got + ", the oracle " + want);
    }

    private static int bit(boolean b) { return b ? 1 : 0; }

    int one(int least, int most) { return least + random.nextInt(most - least + 1); }

    // ---------------------------------------------------------------- texts and what is seen

    /** How many calls it takes to give a text. */
    static int cost(String text) { return (text.length() + 19) / 20 + 3; }

    void give(String text) {
        int[][] rows = Checks.twenties(text);
        for (int[] f : rows) due("feed", x.feed(f[0], f[1], f[2], f[3], f[4]), o.feed(f[0], f[1], f[2], f[3], f[4]));
        int tooMany = 20 * rows.length - text.length(), back = some(tooMany, tooMany);
        if (one(0, 4) > 0) due("back(" + back + ")", x.back(back), o.back(back));
        due("read() of " + text, x.read(), o.read());
        due("place() of " + text, x.place(), o.place);
    }

    /** How many calls lookAtAll() makes at most. */
    static final int LOOKS = 14 + 12 + 6 + 88;

    void lookAtAll() {
        for (int what = -1; what < 13; what++) due("count(" + what + ")", x.count(what), o.count(what));
        for (int what = -1; what < 11; what++) due("ship(" + what + ")", x.ship(what), o.ship(what));
        for (int post = -1; post < 5; post++) due("post(" + post + ")", x.post(post), o.post(post));
        for (int man = -1; man < 7; man++)
            for (int what = -1; what < 10; what++) due("man(" + man + ", " + what + ")", x.man(man, what), o.man(man, what));
    }

    // ---------------------------------------------------------------- calls

    void call() {
        switch (one(0, 7)) {
            case 0, 1, 2 -> act();
            case 3, 4, 5 -> ask();
            default -> look();
        }
    }

    /** From least to most, which is what the document names and a little more; now and then any number at all. */
    private int some(int least, int most) {
        int usual = one(least, most);
        if (one(0, 79) > 0) return usual;
        return random.nextBoolean() ? random.nextInt() : random.nextBoolean() ? Integer.MIN_VALUE : Integer.MAX_VALUE;
    }

    private int man() { return some(-1, 6); }

    private int post() { return some(-2, 4); }

    void act() {
        switch (one(0, 9)) {
            case 0, 1 -> hide();
            case 2, 3 -> stand();
            case 4, 5, 6 -> watches(one(0, 9) == 0 ? some(-1, 62) : one(0, 6));
            case 7 -> undo();
            case 8 -> hold(some(-1, 3));
            default -> restore(some(-1, 3));
        }
    }

    void hide() {
        int man = man();
        boolean yes = random.nextBoolean();
        due("hide(" + man + ", " + yes + ")", bit(x.hide(man, yes)), bit(o.hide(man, yes)));
    }

    /** A MAN, if there are some, is to HIDE who was not, or the other way round: a thing done each time. */
    void changeHiding() {
        int man = one(0, Math.max(0, o.text.men.size() - 1));
        boolean yes = man >= o.now.hides.length || !o.now.hides[man];
        due("hide(" + man + ", " + yes + ")", bit(x.hide(man, yes)), bit(o.hide(man, yes)));
    }

    void stand() {
        int top = o.text.men.size();
        int[] w = {some(-1, top), some(-1, top), some(-1, top), some(-1, top)};
        due("stand(" + Arrays.toString(w) + ")", x.stand(w[0], w[1], w[2], w[3]), o.stand(w));
    }

    void watches(int n) { due("watches(" + n + ")", x.watches(n), o.watches(n)); }

    void undo() { due("undo()", bit(x.undo()), bit(o.undo())); }

    void hold(int slot) { due("hold(" + slot + ")", bit(x.hold(slot)), bit(o.hold(slot))); }

    void restore(int slot) { due("restore(" + slot + ")", bit(x.restore(slot)), bit(o.restore(slot))); }

    void ask() {
        int man = man(), post = post(), what = some(-1, 4);
        boolean yes = random.nextBoolean();
        int n = one(0, 9) == 0 ? some(-1, 202) : one(0, 30), s = one(0, 3) == 0 ? some(0, 21) : one(1, 4);
        switch (one(0, 15)) {
            case 0 -> due("likely(" + man + ", " + post + ", " + yes + ")", x.likely(man, post, yes), o.likely(man, post, yes));
            case 1 -> due("orders(" + man + ")", x.orders(man), o.orders(man));
            case 2 -> due("mean(" + what + ", " + post + ", " + yes + ")", x.mean(what, post, yes), o.mean(what, post, yes));
            case 3 -> due("most(" + what + ", " + post + ", " + yes + ")", x.most(what, post, yes), o.most(what, post, yes));
            case 4 -> {
                int d = some(-1, 10);
                due("risk(" + d + ", " + post + ", " + yes + ")", x.risk(d, post, yes), o.risk(d, post, yes));
            }
            case 5 -> askSafest(yes);
            case 6 -> due("roster(" + post + ")", x.roster(post), o.roster(post));
            case 7 -> due("handy(" + post + ")", x.handy(post), o.handy(post));
            case 8 -> due("better(" + yes + ")", x.better(yes), o.better(yes));
            case 9 -> {
                int which = some(-1, 10);
                due("then(" + n + ", " + which + ")", x.then(n, which), o.then(n, which));
            }
            case 10 -> due("often(" + man + ", " + what + ", " + n + ")", x.often(man, what, n), o.often(man, what, n));
            case 11 -> due("ends(" + what + ")", x.ends(what), o.ends(what));
            case 12 -> due("steady(" + post + ", " + what + ")", x.steady(post, what), o.steady(post, what));
            case 13 -> due("spared(" + man + ", " + n + ")", x.spared(man, n), o.spared(man, n));
            case 14 -> due("broom()", x.broom(), o.broom());
            default -> {
                if (yes) due("year(" + post + ", " + s + ")", x.year(post, s), o.year(post, s));
                else due("weds(" + man + ", " + s + ")", x.weds(man, s), o.weds(man, s));
            }
        }
    }

    private void askSafest(boolean yes) {
        // The oracle tries each pair of draws, which is slow for many MEN.
        boolean few = o.text.men.size() < 5 || one(0, 9) == 0;
        int n = few ? some(0, 3) : one(0, 1), i = some(-1, 2);
        if (random.nextBoolean()) due("safest(" + n + ", " + i + ")", x.safest(n, i), o.safest(n, i));
        else due("safe(" + n + ", " + yes + ")", x.safe(n, yes), o.safe(n, yes));
    }

    void look() {
        int man = man(), what = some(-1, 12);
        boolean yes = random.nextBoolean();
        switch (one(0, 10)) {
            case 0 -> due("man(" + man + ", " + what + ")", x.man(man, what), o.man(man, what));
            case 1 -> due("post(" + (what - 2) + ")", x.post(what - 2), o.post(what - 2));
            case 2 -> due("ship(" + what + ")", x.ship(what), o.ship(what));
            case 3 -> due("tell(" + man + ")", x.tell(man), o.tell(man));
            case 4 -> {
                int k = some(-1, o.told.size() + 1);
                due("cheats(" + man + ", " + k + ", " + yes + ")", x.cheats(man, k, yes), o.cheats(man, k, yes));
            }
            case 5 -> {
                int p = some(-1, 101);
                due("surely(" + p + ")", x.surely(p), o.surely(p));
            }
            case 6, 7 -> log();
            case 8 -> {
                int k = some(-1, o.logged.size() + 1), i = some(-2, 5);
                due("began(" + k + ", " + i + ")", x.began(k, i), o.began(k, i));
            }
            case 9 -> {
                if (one(0, 5) == 0) due("forget()", x.forget(), o.forget());
            }
            default -> due("count(" + what + ")", x.count(what), o.count(what));
        }
    }

    /** Mostly what could be so, or no league would be left. */
    void log() {
        int n = one(0, 5) == 0 ? some(-1, 61) : one(0, 8), league = one(0, 8) == 0 ? one(-1, 1000) : one(0, 12);
        if (one(0, 1) == 0 && n >= 0 && n <= 61) {
            Oracle.Voyage v = o.fresh(Math.min(o.text.goal, 5));
            o.run(v, n, o.text.seed, -1);
            league = v.league + one(-1, 1);
        }
        int at = some(league, league);
        due("log(" + n + ", " + at + ")", x.log(n, at), o.log(n, at));
    }
}
