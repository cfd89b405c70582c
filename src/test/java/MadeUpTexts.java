import java.util.Random;

/** Texts made up by a random source: plain ones, ones of many MEN and LAWS, spoilt ones. */
final class MadeUpTexts {
    private static final String[] VARS = {"watch", "league", "skill", "helm", "look", "cook", "sail", "blows", "near"};
    private static final String[] LAWS = {"wind", "danger", "orders", "runs", "strikes", "eats", "moods"};
    private static final String SPOILS = "abz09;=+-*/<()A.\t\n\r \u00ff{`/:";
    private static final String[] WORDS = {"man", "wind", "ship", "goal", "seed", "if", "then", "else", "watch", "near", "ann", "1", "12345",
        "abcdefgh", "abcdefghi", "strikes"};

    private final Random random;

    MadeUpTexts(Random random) { this.random = random; }

    private int one(int least, int most) { return least + random.nextInt(most - least + 1); }

    /** Any text, now and then a spoilt one. */
    String any() {
        StringBuilder s = new StringBuilder();
        int men = one(0, 9) == 0 ? 7 : one(0, 6);
        for (int m = 0; m < men; m++) {
            s.append("man ").append(one(0, 30) == 0 ? "ann" : "m" + (char) ('a' + m));
            for (int k = 0; k < 5; k++) s.append(' ').append(one(0, 200) == 0 ? 10 : one(0, 9));
            s.append(";");
        }
        for (String law : LAWS) {
            int times = one(0, 5) < 4 ? 1 : one(0, 2);
            for (int i = 0; i < times; i++) s.append(law).append(" = ").append(law(law)).append(";");
        }
        if (one(0, 2) > 0) s.append("ship ").append(one(1, 25)).append(' ').append(one(0, 19) == 0 ? 0 : one(0, 120)).append(' ').append(one(0, 30)).append(";");
        if (one(0, 2) > 0) s.append("goal ").append(one(0, 60) == 0 ? 0 : one(0, 1) == 0 ? one(1, 40) : one(1, 999)).append(";");
        if (one(0, 2) > 0) s.append("broom ").append(one(0, 40)).append(";");
        if (one(0, 2) > 0) s.append("seed ").append(one(0, 9999)).append(";");
        return one(0, 3) == 0 ? spoilt(s.toString()) : s.toString();
    }

    /** Four to six MEN and every one of the LAWS, most with ifs, some told twice; a voyage that lasts. */
    String rich() {
        StringBuilder s = new StringBuilder();
        int men = one(4, 6);
        for (int m = 0; m < men; m++) {
            s.append("man ").append((char) ('a' + m)).append("bcdefgh", 0, one(0, 7));
            for (int k = 0; k < 5; k++) s.append(' ').append(one(0, 9));
            s.append(";\n");
        }
        for (String law : LAWS) {
            if (one(0, 5) == 0) s.append(law).append('=').append(one(0, 9)).append(';');
            s.append(law).append('=');
            int ifs = one(0, 4);
            for (int i = 0; i < ifs; i++) s.append("if ").append(sum(1)).append('<').append(sum(1)).append(" then ").append(tame(law)).append(" else ");
            s.append(tame(law)).append(";\n");
        }
        s.append("ship ").append(one(1, 99)).append(' ').append(one(1, 999)).append(' ').append(one(0, 20)).append(';');
        s.append("goal ").append(one(20, 999)).append(";broom ").append(one(0, 600)).append(";seed ").append(one(0, 9999)).append(';');
        return s.toString();
    }

    private String law(String name) {
        StringBuilder s = new StringBuilder();
        int ifs = one(0, 3) > 0 ? 0 : one(0, 12) == 0 ? 5 : one(1, 4);
        for (int i = 0; i < ifs; i++) s.append("if ").append(sum(1)).append('<').append(sum(1)).append(" then ").append(sum(1)).append(" else ");
        if (one(0, 1) == 0) s.append(tame(name));
        else s.append(sum(one(0, 9) == 0 ? 7 : 2));
        return s.toString();
    }

    /** Laws by which voyages last a while. */
    private String tame(String name) {
        switch (name) {
            case "orders": return "skill + blows";
            case "runs": return one(0, 1) == 0 ? "sail + helm / 3" : "blows - helm / 2";
            case "strikes": return "(near + sail - look) / 2";
            case "eats": return "3 - cook / 3";
            case "moods": return "cook / 2 - sail - " + one(0, 4);
            default: return "(watch * 7 + league) / 3 - " + one(0, 6);
        }
    }

    private String sum(int depth) {
        StringBuilder s = new StringBuilder(unit(depth));
        int more = one(0, 2);
        for (int i = 0; i < more; i++) s.append("+-*/".charAt(one(0, 3))).append(unit(depth));
        return s.toString();
    }

    private String unit(int depth) {
        int kind = one(0, 9);
        if (kind < 3 && depth > 0 || depth > 4) return "(" + sum(depth - 1) + ")";
        if (kind < 6) return Integer.toString(one(0, 9) == 0 ? one(0, 9999) : one(0, 9));
        return " " + VARS[one(0, VARS.length - 1)] + " ";
    }

    String spoilt(String s) {
        StringBuilder t = new StringBuilder(s);
        int times = one(1, 3);
        for (int i = 0; i < times && t.length() > 0; i++) {
            int at = one(0, t.length() - 1);
            char sign = SPOILS.charAt(one(0, SPOILS.length() - 1));
            int how = one(0, 4);
            if (how == 0) t.deleteCharAt(at);
            else if (how == 1) t.insert(at, sign);
            else if (how == 2) t.setCharAt(at, sign);
            else if (how == 3) t.insert(at, " " + WORDS[one(0, WORDS.length - 1)] + " ");
            else t.setLength(at);
        }
        return t.toString();
    }
}
