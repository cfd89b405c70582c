import java.util.ArrayDeque;
import java.util.ArrayList;
import java.util.Arrays;
import java.util.Deque;
import java.util.HashMap;
import java.util.List;
import java.util.Map;

/**
 * The document again, written for the tests in another way: laws are trees, texts are checked by a table of the
 * grammar, every draw is tried. It is slow and makes as many objects as it likes.
 */
final class Oracle {
    interface Expr { Integer of(Map<String, Integer> vars); }

    record Man(String name, int[] skill, int sleeve) { }

    static final class Text {
        final List<Man> men = new ArrayList<>();
        final Map<String, Expr> laws = new HashMap<>();
        int hull = 20, food = 99, mood = 50, goal = 60, broom = 999, seed = 0;
    }

    static final class Voyage implements Cloneable {
        int league, hull, food, mood, mutiny, straws, watch, mutinies, married = -2;
        int[] at = {-2, -2, -2, -2};
        int[] sleeve, captain;
        boolean[] hides;

        Voyage copy() {
            try {
                Voyage v = (Voyage) clone();
                v.at = at.clone();
                v.sleeve = sleeve.clone();
                v.captain = captain.clone();
                v.hides = hides.clone();
                return v;
            } catch (CloneNotSupportedException e) {
                throw new IllegalStateException(e);
            }
        }
    }

    static final List<String> WORDS = List.of("man", "wind", "danger", "orders", "runs", "strikes", "eats", "moods", "ship",
        "goal", "broom", "seed", "if", "then", "else", "watch", "league", "skill", "helm", "look", "cook", "sail", "blows",
        "near");
    static final List<String> LAWS = List.of("wind", "danger", "orders", "runs", "strikes", "eats", "moods");
    static final List<String> VARS = WORDS.subList(15, 24);
    static final Map<String, List<String>> SEEN = Map.of(
        "wind", List.of(), "danger", List.of(), "orders", List.of("skill", "blows", "near"),
        "runs", List.of("sail", "blows", "near", "helm", "skill"),
        "strikes", List.of("sail", "blows", "near", "helm", "look", "skill"),
        "eats", List.of("cook", "skill"), "moods", List.of("cook", "sail", "skill"));

    final StringBuilder tape = new StringBuilder();
    int place = -1;
    Text text = new Text();
    Voyage now = fresh(0);
    final Deque<Voyage> past = new ArrayDeque<>();
    Voyage[] slots = new Voyage[3];
    final List<Integer> told = new ArrayList<>();
    final List<int[]> logged = new ArrayList<>();

    // ---------------------------------------------------------------- the tape and the text

    int feed(int a, int b, int c, int d, int e) {
        if (tape.length() > 1980) return -1;
        for (int four : new int[] {a, b, c, d, e})
            for (int shift = 24; shift >= 0; shift -= 8) tape.append((char) (four >> shift & 255));
        return tape.length();
    }

    int back(int n) {
        if (n < 0 || n > tape.length()) return -1;
        tape.setLength(tape.length() - n);
        return tape.length();
    }

    /** A token's kind: NAME, INT, a word or a sign as it stands, VAR, END or BAD. */
    record Token(String kind, String sign, int place) { }

    static List<Token> tokens(String s) {
        List<Token> all = new ArrayList<>();
        int i = 0;
        while (true) {
            while (i < s.length() && " \t\n\r".indexOf(s.charAt(i)) >= 0) i++;
            if (i == s.length()) {
                all.add(new Token("END", "", i));
                return all;
            }
            int j = i;
            while (j < s.length() && s.substring(i, j + 1).matches("[a-z]+|[0-9]+")) j++;
            if (j == i) j++;
            String t = s.substring(i, j);
            String kind = "BAD";
            if (VARS.contains(t)) kind = "VAR";
            else if (WORDS.contains(t)) kind = t;
            else if (t.matches("[a-z]{1,8}")) kind = "NAME";
            else if (t.matches("[0-9]{1,4}")) kind = "INT";
            else if (";=+-*/<()".contains(t)) kind = t;
            all.add(new Token(kind, t, i));
            i = j;
        }
    }

    /** What stands for a symbol of the grammar, if the next token is of a kind; null: no text goes on so. */
    static List<String> rule(String symbol, String kind) {
        switch (symbol) {
            case "text":
                if (kind.equals("END")) return List.of("END");
                if (kind.equals("man")) return List.of("man", "NAME", "INT", "INT", "INT", "INT", "INT", ";", "text");
                if (LAWS.contains(kind)) return List.of(kind, "=", "law", ";", "text");
                if (kind.equals("ship")) return List.of("ship", "INT", "INT", "INT", ";", "text");
                if (List.of("goal", "broom", "seed").contains(kind)) return List.of(kind, "INT", ";", "text");
                return null;
            case "law":
                return kind.equals("if") ? List.of("if", "e", "<", "e", "then", "e", "else", "law") : List.of("e");
            case "e":
                return List.of("unit", "more");
            case "more":
                return "+-*/".contains(kind) ? List.of(kind, "unit", "more") : List.of();
            case "unit":
                if (kind.equals("INT") || kind.equals("VAR")) return List.of(kind);
                return kind.equals("(") ? List.of("(", "e", ")") : null;
            default:
                return symbol.equals(kind) ? List.of() : null;
        }
    }

    /** {number, place} of the fault, or null. */
    static int[] fault(List<Token> all) {
        Deque<String> stack = new ArrayDeque<>(List.of("text"));
        int men = 0, ifs = 0, open = 0, many = 0;
        for (Token t : all) {
            boolean taken = false;
            while (!taken) {
                String symbol = stack.pop();
                List<String> by = rule(symbol, t.kind);
                if (by == null) return new int[] {1, t.place};
                taken = symbol.equals(t.kind);
                for (int i = by.size() - 1; i >= 0; i--) stack.push(by.get(i));
            }
            if (t.kind.equals("END")) break;
            many++;
            if (t.kind.equals("man")) men++;
            if (t.kind.equals("=")) ifs = 0;
            if (t.kind.equals("if")) ifs++;
            if (t.kind.equals("(")) open++;
            if (t.kind.equals(")")) open--;
            if (many > 400 || men > 6 || ifs > 4 || open > 6) return new int[] {2, t.place};
        }
        List<String> names = new ArrayList<>();
        for (int i = 0; i < all.size(); i++) {
            String kind = all.get(i).kind;
            int[][] bounds = {};
            int from = i + 1;
            if (kind.equals("man")) {
                Token name = all.get(i + 1);
                if (names.contains(name.sign)) return new int[] {3, name.place};
                names.add(name.sign);
                bounds = new int[][] {{0, 9}, {0, 9}, {0, 9}, {0, 9}, {0, 9}};
                from = i + 2;
            }
            if (kind.equals("ship")) bounds = new int[][] {{1, 99}, {0, 999}, {0, 99}};
            if (kind.equals("goal")) bounds = new int[][] {{1, 999}};
            for (int b = 0; b < bounds.length; b++) {
                Token n = all.get(from + b);
                int v = Integer.parseInt(n.sign);
                if (v < bounds[b][0] || v > bounds[b][1]) return new int[] {5, n.place};
            }
        }
        return null;
    }

    List<Token> rest;

    Token next() { return rest.remove(0); }

    int number() { return Integer.parseInt(next().sign); }

    boolean comes(String kinds) { return List.of(kinds.split(" ")).contains(rest.get(0).kind); }

    int read() {
        List<Token> all = tokens(tape.toString());
        tape.setLength(0);
        int[] fault = fault(all);
        place = fault == null ? -1 : fault[1];
        if (fault != null) return fault[0];
        rest = new ArrayList<>(all);
        text = new Text();
        while (!comes("END")) tell();
        now = fresh(0);
        past.clear();
        told.clear();
        slots = new Voyage[3];
        return 0;
    }

    void tell() {
        String kind = next().kind;
        switch (kind) {
            case "man" -> text.men.add(new Man(next().sign, new int[] {number(), number(), number(), number()}, number()));
            case "ship" -> {
                text.hull = number();
                text.food = number();
                text.mood = number();
            }
            case "goal" -> text.goal = number();
            case "broom" -> text.broom = number();
            case "seed" -> text.seed = number();
            default -> {
                next();
                text.laws.put(kind, law(kind));
            }
        }
        next();
    }

    Expr law(String name) {
        if (!comes("if")) return sum(name);
        next();
        Expr a = sum(name);
        next();
        Expr b = sum(name);
        next();
        Expr c = sum(name);
        next();
        Expr d = law(name);
        return v -> {
            Integer x = a.of(v), y = b.of(v);
            return x == null || y == null ? null : x < y ? c.of(v) : d.of(v);
        };
    }

    Expr sum(String name) {
        Expr left = part(name);
        while (comes("+ -")) left = join(next().kind, left, part(name));
        return left;
    }

    Expr part(String name) {
        Expr left = unit(name);
        while (comes("* /")) left = join(next().kind, left, unit(name));
        return left;
    }

    static Expr join(String op, Expr a, Expr b) {
        return v -> {
            Integer x = a.of(v), y = b.of(v);
            if (x == null || y == null || op.equals("/") && y == 0) return null;
            return switch (op) {
                case "+" -> x + y;
                case "-" -> x - y;
                case "*" -> x * y;
                default -> x / y;
            };
        };
    }

    Expr unit(String name) {
        Token t = next();
        if (t.kind.equals("INT")) return v -> Integer.parseInt(t.sign);
        if (t.kind.equals("VAR"))
            return v -> t.sign.equals("watch") || t.sign.equals("league") || SEEN.get(name).contains(t.sign) ? v.get(t.sign) : Integer.valueOf(0);
        Expr e = sum(name);
        next();
        return e;
    }

    // ---------------------------------------------------------------- laws and watches

    int value(String law, Map<String, Integer> v) {
        Expr e = text.laws.get(law);
        Integer raw;
        if (e != null) raw = e.of(v);
        else raw = switch (law) {
            case "wind" -> 2;
            case "orders", "eats" -> 1;
            case "runs" -> v.get("blows") + v.get("sail");
            default -> 0;
        };
        int n = raw == null ? 0 : raw;
        return switch (law) {
            case "orders" -> n < 0 ? 0 : n % 4;
            case "runs" -> Math.max(-9, Math.min(19, n));
            case "eats" -> Math.max(0, Math.min(99, n));
            case "moods" -> Math.max(-9, Math.min(9, n));
            default -> Math.max(0, Math.min(9, n));
        };
    }

    Map<String, Integer> weather(int watch, int league) {
        Map<String, Integer> v = new HashMap<>();
        for (String name : VARS) v.put(name, 0);
        v.put("watch", watch);
        v.put("league", league);
        int wind = value("wind", v), danger = value("danger", v);
        v.put("blows", wind);
        v.put("near", danger);
        return v;
    }

    int skill(int man, int post) { return man < 0 ? 0 : text.men.get(man).skill[post]; }

    Map<String, Integer> manned(int watch, int league, int[] at) {
        Map<String, Integer> v = weather(watch, league);
        v.put("skill", skill(at[0], 0));
        v.put("helm", skill(at[1], 1));
        v.put("look", skill(at[2], 2));
        v.put("cook", skill(at[3], 3));
        return v;
    }

    Voyage fresh(int league) {
        Voyage v = new Voyage();
        v.league = league;
        v.hull = text.hull;
        v.food = text.food;
        v.mood = text.mood;
        v.straws = text.broom;
        int men = text.men.size();
        v.sleeve = new int[men];
        v.captain = new int[men];
        v.hides = new boolean[men];
        for (int i = 0; i < men; i++) v.sleeve[i] = text.men.get(i).sleeve;
        return v;
    }

    static int lot(int n, int seed, int which) {
        long h = seed & 0xffffffffL;
        for (long it : new long[] {81, which}) {
            h = ((h ^ it) * 1103515245L + 12345L) & 0xffffffffL;
            h = h ^ (h / 32768);
        }
        return (int) (h / 2 % n);
    }

    void draw(Voyage v, int seed) {
        int men = text.men.size();
        if (v.straws < men) return;
        v.straws -= men;
        List<Integer> left = new ArrayList<>();
        for (int i = 0; i < men; i++) left.add(i);
        for (int p = 0; p < 4; p++)
            v.at[p] = left.isEmpty() ? -2 : left.remove(lot(left.size(), seed, 64 * v.watch + p));
        int c = v.at[0], h = v.at[1];
        if (c >= 0 && h >= 0 && v.hides[c] && v.sleeve[c] > 0) {
            v.sleeve[c]--;
            v.at[0] = h;
            v.at[1] = c;
        }
    }

    int go(Voyage v, int fixed) {
        Map<String, Integer> m = manned(v.watch, v.league, v.at);
        int sail = v.mutiny > 0 ? 0 : fixed >= 0 ? fixed : value("orders", m);
        m.put("sail", sail);
        v.league = Math.min(text.goal, Math.max(0, v.league + value("runs", m)));
        v.hull = Math.max(0, v.hull - value("strikes", m));
        v.food = Math.max(0, v.food - value("eats", m));
        v.mood = Math.min(99, Math.max(0, v.mood + value("moods", m)));
        v.watch++;
        if (v.at[0] >= 0) v.captain[v.at[0]]++;
        if (v.mutiny > 0) v.mutiny--;
        if (v.mutiny == 0 && v.mood == 0) {
            v.mutiny = 4;
            v.mutinies++;
        }
        if (over(v) == 1) v.married = v.at[0];
        return sail;
    }

    int over(Voyage v) { return v.league == text.goal ? 1 : v.hull == 0 ? 2 : v.food == 0 ? 3 : 0; }

    int run(Voyage v, int n, int seed, int fixed) {
        int gone = 0;
        for (; gone < n && over(v) == 0; gone++) {
            draw(v, seed);
            go(v, fixed);
        }
        return gone;
    }

    // ---------------------------------------------------------------- looking and doing

    boolean known(int man) { return man >= 0 && man < text.men.size(); }

    int man(int man, int what) {
        if (!known(man)) return -1;
        return switch (what) {
            case 0, 1, 2, 3 -> skill(man, what);
            case 4 -> now.sleeve[man];
            case 5 -> now.hides[man] ? 1 : 0;
            case 6 -> {
                int at = -2;
                for (int p = 0; p < 4; p++) if (now.at[p] == man) at = p;
                yield at;
            }
            case 7 -> now.captain[man];
            case 8 -> now.married == man ? 1 : 0;
            default -> -1;
        };
    }

    int post(int post) { return post < 0 || post > 3 ? -1 : now.at[post]; }

    int ship(int what) { return measure(now, what); }

    int measure(Voyage v, int what) {
        return switch (what) {
            case 0 -> v.league;
            case 1 -> v.hull;
            case 2 -> v.food;
            case 3 -> v.mood;
            case 4 -> v.mutiny;
            case 5 -> v.straws;
            case 6 -> over(v);
            case 7 -> v.watch;
            case 8 -> weather(v.watch, v.league).get("blows");
            case 9 -> weather(v.watch, v.league).get("near");
            default -> -1;
        };
    }

    void save() {
        past.push(now.copy());
        if (past.size() > 40) past.removeLast();
    }

    boolean hide(int man, boolean hides) {
        if (!known(man) || now.hides[man] == hides) return false;
        save();
        now.hides[man] = hides;
        return true;
    }

    int stand(int... who) {
        for (int i = 0; i < 4; i++) {
            if (who[i] != -1 && !known(who[i])) return -1;
            for (int j = 0; j < i; j++) if (who[i] == who[j] && who[i] != -1) return -1;
        }
        if (over(now) != 0) return -2;
        save();
        for (int i = 0; i < 4; i++) now.at[i] = who[i] == -1 ? -2 : who[i];
        return go(now, -1);
    }

    int watches(int n) {
        if (n < 0 || n > 60) return -1;
        if (over(now) != 0) return -2;
        if (n > 0) save();
        return run(now, n, text.seed, -1);
    }

    boolean undo() {
        if (past.isEmpty()) return false;
        now = past.pop();
        return true;
    }

    // ---------------------------------------------------------------- what would be

    List<int[]> draws() {
        List<int[]> all = new ArrayList<>();
        draws(new int[] {-2, -2, -2, -2}, 0, all);
        return all;
    }

    void draws(int[] at, int post, List<int[]> all) {
        if (post == Math.min(4, text.men.size())) {
            all.add(at.clone());
            return;
        }
        for (int m = 0; m < text.men.size(); m++) {
            final int who = m;
            if (Arrays.stream(at).limit(post).anyMatch(x -> x == who)) continue;
            at[post] = m;
            draws(at, post + 1, all);
        }
        at[post] = -2;
    }

    static int fraction(long up, long down, boolean below) {
        long g = down;
        while (g > 1 && (up % g != 0 || down % g != 0)) g--;
        return (int) ((below ? down : up) / g);
    }

    int likely(int man, int post, boolean below) {
        if (!known(man) || post < 0 || post > 3) return -1;
        List<int[]> all = draws();
        return fraction(all.stream().filter(d -> d[post] == man).count(), all.size(), below);
    }

    int orders(int man) {
        if (!known(man)) return -1;
        return value("orders", manned(now.watch, now.league, new int[] {man, -2, -2, -2}));
    }

    int[] values(int what, int sail) {
        String law = LAWS.get(3 + what);
        return draws().stream().mapToInt(d -> {
            Map<String, Integer> m = manned(now.watch, now.league, d);
            int s = sail == -1 ? value("orders", m) : sail;
            m.put("sail", s);
            return value(law, m);
        }).toArray();
    }

    int mean(int what, int sail, boolean below) {
        if (what < 0 || what > 3 || sail < -1 || sail > 3) return -100000;
        int[] all = values(what, sail);
        return fraction(Arrays.stream(all).sum(), all.length, below);
    }

    int most(int what, int sail, boolean greatest) {
        if (what < 0 || what > 3 || sail < -1 || sail > 3) return -100000;
        Arrays.stream(values(what, sail)).sum();
        int[] all = values(what, sail);
        Arrays.sort(all);
        return greatest ? all[all.length - 1] : all[0];
    }

    int risk(int d, int sail, boolean below) {
        if (d < 0 || d > 9 || sail < -1 || sail > 3) return -1;
        int[] all = values(1, sail);
        return fraction(Arrays.stream(all).filter(x -> x >= d).count(), all.length, below);
    }

    /** {first sail, second sail, ways, of how many}. */
    long[] safest(int n) {
        List<int[]> all = draws();
        long[] best = null;
        for (int a = 0; a < 4; a++)
            for (int b = 0; b < (n == 2 ? 4 : 1); b++) {
                long ways = 0;
                Map<Integer, int[]> second = new HashMap<>();
                for (int[] d : all) {
                    Voyage v = now.copy();
                    v.mutiny = 0;
                    v.at = d.clone();
                    if (over(v) == 0) go(v, a);
                    if (n == 1 || over(v) != 0) {
                        ways += v.hull > 0 ? (n == 2 ? all.size() : 1) : 0;
                        continue;
                    }
                    final int sail = b;
                    int[] hits = second.computeIfAbsent(v.league, l -> all.stream().mapToInt(e -> {
                        Map<String, Integer> m = manned(v.watch, l, e);
                        m.put("sail", sail);
                        return value("strikes", m);
                    }).toArray());
                    for (int hit : hits) if (v.hull - hit > 0) ways++;
                }
                if (best == null || ways > best[2]) best = new long[] {a, b, ways, n == 2 ? (long) all.size() * all.size() : all.size()};
            }
        return best;
    }

    int safest(int n, int i) {
        if (n < 1 || n > 2 || i < 0 || i >= n) return -1;
        return (int) safest(n)[i];
    }

    int safe(int n, boolean below) {
        if (n < 1 || n > 2) return -1;
        long[] best = safest(n);
        return fraction(best[2], best[3], below);
    }

    int skills(int[] d) {
        int sum = 0;
        for (int p = 0; p < 4; p++) sum += skill(d[p], p);
        return sum;
    }

    int roster(int post) {
        if (post < -1 || post > 3) return -100;
        int[] best = null;
        for (int[] d : draws()) if (best == null || skills(d) > skills(best)) best = d;
        return post == -1 ? skills(best) : best[post];
    }

    int handy(int post) {
        if (post < 0 || post > 3) return -1;
        int best = -2;
        for (int m = text.men.size() - 1; m >= 0; m--) if (best == -2 || skill(m, post) >= skill(best, post)) best = m;
        return best;
    }

    int better(boolean below) {
        long sum = 0;
        List<int[]> all = draws();
        for (int[] d : all) sum += skills(d);
        return fraction((long) roster(-1) * all.size() - sum, all.size(), below);
    }

    int then(int n, int what) {
        if (n < 0 || n > 200) return -1;
        Voyage v = now.copy();
        run(v, n, text.seed, -1);
        return measure(v, what);
    }

    int often(int man, int post, int n) {
        if (!known(man) || post < 0 || post > 3 || n < 0 || n > 200) return -1;
        Voyage v = now.copy();
        int times = 0;
        for (int i = 0; i < n && over(v) == 0; i++) {
            run(v, 1, text.seed, -1);
            if (v.at[post] == man) times++;
        }
        return times;
    }

    int ends(int what) { return end(what, -1); }

    int steady(int sail, int what) { return sail < 0 || sail > 3 ? -1 : end(what, sail); }

    int end(int what, int sail) {
        if (what < 0 || what > 1) return -1;
        Voyage v = now.copy();
        int gone = run(v, 200, text.seed, sail);
        return over(v) == 0 ? -2 : what == 0 ? gone : over(v);
    }

    int spared(int man, int n) {
        if (!known(man) || n < 0 || n > 200) return -100000;
        Voyage honest = now.copy(), sly = now.copy();
        honest.hides[man] = false;
        sly.hides[man] = true;
        run(honest, n, text.seed, -1);
        run(sly, n, text.seed, -1);
        return honest.captain[man] - sly.captain[man];
    }

    int broom() {
        if (text.men.isEmpty()) return 9999;
        int times = 0;
        for (int straws = now.straws; straws >= text.men.size(); straws -= text.men.size()) times++;
        return times;
    }

    int year(int how, int s) { return how < 1 || how > 3 || s < 1 || s > 20 ? -1 : year(how, -9, s); }

    int weds(int man, int s) { return !known(man) || s < 1 || s > 20 ? -1 : year(-9, man, s); }

    int year(int how, int man, int s) {
        int many = 0;
        for (int i = 0; i < s; i++) {
            Voyage v = now.copy();
            run(v, 200, text.seed + i, -1);
            if (over(v) == how || v.married == man) many++;
        }
        return many;
    }

    // ---------------------------------------------------------------- told, logged, held

    int tell(int captain) {
        if (!known(captain) || told.size() == 10) return -1;
        told.add(captain);
        return told.size() - 1;
    }

    int cheats(int man, int k, boolean below) {
        if (!known(man) || k < 0 || k > told.size()) return -1;
        if (told.subList(0, k).contains(man)) return below ? 1 : 0;
        long m = text.men.size(), a = 1, b = 1;
        for (int i = 0; i < k; i++) {
            a *= m;
            b *= m - 1;
        }
        return (int) (below ? a + b : a);
    }

    int surely(int p) {
        if (p < 0 || p > 100 || text.men.isEmpty()) return -1;
        long m = text.men.size(), a = 1, b = 1;
        for (int k = 0; k <= 10; k++) {
            if (a * 100 >= p * (a + b)) return k;
            a *= m;
            b *= m - 1;
        }
        return -2;
    }

    int log(int n, int league) {
        if (n < 0 || n > 60 || league < 0 || league > 999 || logged.size() == 20) return -1;
        logged.add(new int[] {n, league});
        return logged.size() - 1;
    }

    int began(int k, int i) {
        if (k < 0 || k > logged.size() || i < -1) return -1;
        List<Integer> may = new ArrayList<>();
        for (int l = 0; l <= 99 && l <= text.goal; l++) {
            boolean all = true;
            for (int[] one : logged.subList(0, k)) {
                Voyage v = fresh(l);
                run(v, one[0], text.seed, -1);
                all &= over(v) == 0 && v.watch == one[0] && Math.abs(v.league - one[1]) <= 2;
                if (!all) break;
            }
            if (all) may.add(l);
        }
        return i == -1 ? may.size() : i < may.size() ? may.get(i) : -1;
    }

    int forget() {
        int many = told.size() + logged.size();
        told.clear();
        logged.clear();
        return many;
    }

    boolean hold(int slot) {
        if (slot < 0 || slot > 2) return false;
        slots[slot] = now.copy();
        return true;
    }

    boolean restore(int slot) {
        if (slot < 0 || slot > 2 || slots[slot] == null) return false;
        now = slots[slot].copy();
        past.clear();
        return true;
    }

    int count(int what) {
        int bits = 0;
        for (int i = 0; i < now.hides.length; i++) if (now.hides[i]) bits += 1 << i;
        return switch (what) {
            case 0 -> text.men.size();
            case 1 -> text.goal;
            case 2 -> tape.length();
            case 3 -> past.size();
            case 4 -> told.size();
            case 5 -> logged.size();
            case 6 -> (int) Arrays.stream(slots).filter(x -> x != null).count();
            case 7 -> bits;
            case 8 -> Arrays.stream(now.sleeve).sum();
            case 9 -> now.mutinies;
            case 10 -> now.married;
            case 11 -> draws().size();
            default -> -1;
        };
    }
}
