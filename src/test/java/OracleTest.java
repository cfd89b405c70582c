import java.util.Arrays;
import java.util.Random;

/** Long runs of calls, made up by seeds, on the class and on the Oracle: every answer must be alike. */
public final class OracleTest {
    private static final String[] VARS = {"watch", "league", "skill", "helm", "look", "cook", "sail", "blows", "near"};
    private static final String[] LAWS = {"wind", "danger", "orders", "runs", "strikes", "eats", "moods"};
    private static final String SPOILS = "abz09;=+-*/<()A.\t\n\r \u00ff{`/:";
    private static final String[] WORDS = {"man", "wind", "ship", "goal", "seed", "if", "then", "else", "watch", "near", "ann", "1", "12345",
        "abcdefgh", "abcdefghi", "strikes"};
    private static int wrong = 0;
    private static int calls = 0;

    private final Random random;
    private final int run;
    private final StrawWatch x = new StrawWatch();
    private final Oracle o = new Oracle();

    private OracleTest(int run) {
        this.run = run;
        random = new Random(run * 7919L + 13);
    }

    public static void main(String[] args) {
        int runs = args.length > 0 ? Integer.parseInt(args[0]) : 1500;
        for (int run = 0; run < runs; run++) new OracleTest(run).go();
        System.out.println(calls + " calls as the oracle's, but " + wrong);
        if (wrong != 0) System.exit(1);
    }

    private void go() {
        int texts = 1 + random.nextInt(3);
        for (int t = 0; t < texts; t++) {
            give(text());
            int many = 20 + random.nextInt(60);
            for (int i = 0; i < many; i++) call();
        }
        for (int what = -1; what < 13; what++) due("count(" + what + ")", x.count(what), o.count(what));
        for (int what = -1; what < 11; what++) due("ship(" + what + ")", x.ship(what), o.ship(what));
        for (int man = -1; man < 7; man++)
            for (int what = -1; what < 10; what++) due("man(" + man + ", " + what + ")", x.man(man, what), o.man(man, what));
    }

    private void due(String call, long got, long want) {
        calls++;
        if (got == want) return;
        wrong++;
        if (wrong < 40) System.out.println("run " + run + ": " + call + " answered " + got + ", the oracle " + want);
    }

    private static int bit(boolean b) { return b ? 1 : 0; }

    private int one(int least, int most) { return least + random.nextInt(most - least + 1); }

    // ---------------------------------------------------------------- texts

    private void give(String text) {
        byte[] bytes = new byte[(text.length() + 19) / 20 * 20];
        Arrays.fill(bytes, (byte) ' ');
        for (int i = 0; i < text.length(); i++) bytes[i] = (byte) text.charAt(i);
        for (int i = 0; i < bytes.length; i += 20) {
            int[] f = new int[5];
            for (int j = 0; j < 20; j++) f[j / 4] = f[j / 4] << 8 | bytes[i + j] & 255;
            due("feed", x.feed(f[0], f[1], f[2], f[3], f[4]), o.feed(f[0], f[1], f[2], f[3], f[4]));
        }
        if (one(0, 4) > 0) due("back", x.back(bytes.length - text.length()), o.back(bytes.length - text.length()));
        due("read() of " + text, x.read(), o.read());
        due("place() of " + text, x.place(), o.place);
    }

    private String text() {
        StringBuilder s = new StringBuilder();
        int men = one(0, 9) == 0 ? 7 : one(0, 6);
        for (int m = 0; m < men; m++) {
            s.append("man ").append(one(0, 30) == 0 ? "ann" : "m" + (char) ('a' + m));
            for (int k = 0; k < 5; k++) s.append(' ').append(one(0, 200) == 0 ? 10 : one(0, 9));
            s.append(";");
        }
        for (String law : LAWS) {
            int times = one(0, 5) < 4 ? 1 : one(0, 2);
            for (int i = 0; i < times; i++) s.append(law).append(" = ").append(law(law)).append(";");
        }
        if (one(0, 2) > 0) s.append("ship ").append(one(1, 25)).append(' ').append(one(0, 19) == 0 ? 0 : one(0, 120)).append(' ').append(one(0, 30)).append(";");
        if (one(0, 2) > 0) s.append("goal ").append(one(0, 60) == 0 ? 0 : one(0, 1) == 0 ? one(1, 40) : one(1, 999)).append(";");
        if (one(0, 2) > 0) s.append("broom ").append(one(0, 40)).append(";");
        if (one(0, 2) > 0) s.append("seed ").append(one(0, 9999)).append(";");
        return one(0, 3) == 0 ? spoilt(s.toString()) : s.toString();
    }

    private String law(String name) {
        StringBuilder s = new StringBuilder();
        int ifs = one(0, 3) > 0 ? 0 : one(0, 12) == 0 ? 5 : one(1, 4);
        for (int i = 0; i < ifs; i++) s.append("if ").append(sum(1)).append('<').append(sum(1)).append(" then ").append(sum(1)).append(" else ");
        if (one(0, 1) == 0) s.append(tame(name));
        else s.append(sum(one(0, 9) == 0 ? 7 : 2));
        return s.toString();
    }

    /** Laws by which voyages last a while. */
    private String tame(String name) {
        switch (name) {
            case "orders": return "skill + blows";
            case "runs": return one(0, 1) == 0 ? "sail + helm / 3" : "blows - helm / 2";
            case "strikes": return "(near + sail - look) / 2";
            case "eats": return "3 - cook / 3";
            case "moods": return "cook / 2 - sail - " + one(0, 4);
            default: return "(watch * 7 + league) / 3 - " + one(0, 6);
        }
    }

    private String sum(int depth) {
        StringBuilder s = new StringBuilder(unit(depth));
        int more = one(0, 2);
        for (int i = 0; i < more; i++) s.append("+-*/".charAt(one(0, 3))).append(unit(depth));
        return s.toString();
    }

    private String unit(int depth) {
        int kind = one(0, 9);
        if (kind < 3 && depth > 0 || depth > 4) return "(" + sum(depth - 1) + ")";
        if (kind < 6) return Integer.toString(one(0, 9) == 0 ? one(0, 9999) : one(0, 9));
        return " " + VARS[one(0, VARS.length - 1)] + " ";
    }

    private String spoilt(String s) {
        StringBuilder t = new StringBuilder(s);
        int times = one(1, 3);
        for (int i = 0; i < times && t.length() > 0; i++) {
            int at = one(0, t.length() - 1);
            char sign = SPOILS.charAt(one(0, SPOILS.length() - 1));
            int how = one(0, 4);
            if (how == 0) t.deleteCharAt(at);
            else if (how == 1) t.insert(at, sign);
            else if (how == 2) t.setCharAt(at, sign);
            else if (how == 3) t.insert(at, " " + WORDS[one(0, WORDS.length - 1)] + " ");
            else t.setLength(at);
        }
        return t.toString();
    }

    // ---------------------------------------------------------------- calls

    private void call() {
        int a = one(-1, 6), b = one(-2, 4), c = one(-1, 3);
        boolean yes = random.nextBoolean();
        switch (one(0, 7)) {
            case 0, 1, 2 -> act(a, c, yes);
            case 3, 4, 5 -> ask(a, b, c, yes);
            default -> look(a, b, yes);
        }
    }

    private void act(int a, int c, boolean yes) {
        int n = one(0, 9) == 0 ? one(-1, 62) : one(0, 6);
        switch (one(0, 9)) {
            case 0, 1 -> due("hide", bit(x.hide(a, yes)), bit(o.hide(a, yes)));
            case 2, 3 -> {
                int top = o.text.men.size();
                int[] w = {one(-1, top), one(-1, top), one(-1, top), one(-1, top)};
                due("stand", x.stand(w[0], w[1], w[2], w[3]), o.stand(w));
            }
            case 4, 5, 6 -> due("watches(" + n + ")", x.watches(n), o.watches(n));
            case 7 -> due("undo", bit(x.undo()), bit(o.undo()));
            case 8 -> due("hold", bit(x.hold(c)), bit(o.hold(c)));
            default -> due("restore", bit(x.restore(c)), bit(o.restore(c)));
        }
    }

    private void ask(int a, int b, int c, boolean yes) {
        int n = one(0, 9) == 0 ? one(-1, 202) : one(0, 30), s = one(0, 3) == 0 ? one(0, 21) : one(1, 4);
        boolean few = o.text.men.size() < 5 || one(0, 5) == 0;
        switch (one(0, 17)) {
            case 0 -> due("likely", x.likely(a, b, yes), o.likely(a, b, yes));
            case 1 -> due("orders", x.orders(a), o.orders(a));
            case 2 -> due("mean", x.mean(c, b, yes), o.mean(c, b, yes));
            case 3 -> due("most", x.most(c, b, yes), o.most(c, b, yes));
            case 4 -> {
                int d = one(-1, 10);
                due("risk", x.risk(d, b, yes), o.risk(d, b, yes));
            }
            case 5 -> {
                int k = few ? one(0, 3) : one(0, 1), i = one(-1, 2);
                due("safest(" + k + ", " + i + ")", x.safest(k, i), o.safest(k, i));
            }
            case 6 -> {
                int k = few ? one(0, 3) : one(0, 1);
                due("safe(" + k + ")", x.safe(k, yes), o.safe(k, yes));
            }
            case 7 -> due("roster", x.roster(b), o.roster(b));
            case 8 -> due("handy", x.handy(b), o.handy(b));
            case 9 -> due("better", x.better(yes), o.better(yes));
            case 10 -> {
                int what = one(-1, 10);
                due("then(" + n + ", " + what + ")", x.then(n, what), o.then(n, what));
            }
            case 11 -> due("often", x.often(a, c, n), o.often(a, c, n));
            case 12 -> due("ends", x.ends(c), o.ends(c));
            case 13 -> due("steady", x.steady(b, c), o.steady(b, c));
            case 14 -> due("spared", x.spared(a, n), o.spared(a, n));
            case 15 -> due("broom", x.broom(), o.broom());
            case 16 -> due("year", x.year(b, s), o.year(b, s));
            default -> due("weds", x.weds(a, s), o.weds(a, s));
        }
    }

    private void look(int a, int b, boolean yes) {
        switch (one(0, 10)) {
            case 0 -> due("man", x.man(a, b + 3), o.man(a, b + 3));
            case 1 -> due("post", x.post(b), o.post(b));
            case 2 -> {
                int what = one(-1, 10);
                due("ship(" + what + ")", x.ship(what), o.ship(what));
            }
            case 3 -> due("tell", x.tell(a), o.tell(a));
            case 4 -> due("cheats", x.cheats(a, b + 2, yes), o.cheats(a, b + 2, yes));
            case 5 -> {
                int p = one(-1, 101);
                due("surely(" + p + ")", x.surely(p), o.surely(p));
            }
            case 6, 7 -> log();
            case 8 -> {
                int k = one(-1, o.logged.size() + 1), i = one(-2, 5);
                due("began(" + k + ", " + i + ")", x.began(k, i), o.began(k, i));
            }
            case 9 -> {
                if (one(0, 5) == 0) due("forget", x.forget(), o.forget());
            }
            default -> {
                int what = one(-1, 12);
                due("count(" + what + ")", x.count(what), o.count(what));
            }
        }
    }

    /** Mostly what could be so, or no league would be left. */
    private void log() {
        int n = one(0, 5) == 0 ? one(-1, 61) : one(0, 8), league = one(0, 8) == 0 ? one(-1, 1000) : one(0, 12);
        if (one(0, 1) == 0 && n >= 0) {
            Oracle.Voyage v = o.fresh(Math.min(o.text.goal, 5));
            o.run(v, n, o.text.seed, -1);
            league = v.league + one(-1, 1);
        }
        due("log(" + n + ", " + league + ")", x.log(n, league), o.log(n, league));
    }
}
