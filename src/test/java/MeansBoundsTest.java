import java.util.Arrays;

/** Part III of the document and promises 13 to 30: each sentence that names a bound, on both sides of it. */
public final class MeansBoundsTest extends Checks {
    private static final int[] FAR = {Integer.MIN_VALUE, -1000, 1000, Integer.MAX_VALUE};
    // Skills as captain 0 to 5, at the helm 9 down to 4, and so on: means that have to be lessened.
    private static final String SIX = "man a 0 9 1 0 0;man b 1 8 2 0 0;man c 2 7 4 0 0;man d 3 6 8 0 0;man e 4 5 5 0 0;man f 5 4 4 9 0;";

    public static void main(String[] args) {
        waysStrawsCanFall();
        likelyAtAPost();
        ordersNone();
        meanNoSuchOnes();
        meanFractions();
        meanIsOfTheLaw();
        mostLeastAndGreatest();
        noMutiny();
        ofNowWhateverWasAsked();
        riskBounds();
        safestBounds();
        safestHullAboveZero();
        safestGreatHulls();
        safestAlikeOnes();
        safestOverAhead();
        safestByWhereSheIs();
        safeOfManyDraws();
        rosterAndBetter();
        rosterAlikeOnes();
        handyBounds();
        thenBounds();
        oftenBounds();
        endsBounds();
        endsAtTwoHundred();
        steadyBounds();
        sparedBounds();
        sparedBelowZero();
        broomBounds();
        yearBounds();
        yearWithinTwoHundred();
        yearSeedsFromTheTexts();
        nothingHappens();
        finish("the bounds of what would be hold");
    }

    // ---------------------------------------------------------------- DRAWS

    private static void waysStrawsCanFall() {
        sentence(39, "A DRAW: each way in which STRAWS can fall to POSTS .. 11 how many DRAWS there are");
        int[] many = {1, 1, 2, 6, 24, 120, 360};
        for (int men = 0; men <= 6; men++) due("count(11) of " + men, with(crew(men, "1 1 1 1 1")).count(11), many[men]);
    }

    private static void likelyAtAPost() {
        sentence(13, "POST, as a fraction; NONE: no such ones");
        for (int men = 0; men <= 6; men++) {
            StrawWatch x = with(crew(men, "1 1 1 1 1") + "broom 0;");
            for (int man = -2; man <= 7; man++) {
                for (int post = -2; post <= 5; post++) {
                    String call = men + " MEN: likely(" + man + ", " + post + ")";
                    boolean none = man < 0 || man >= men || post < 0 || post > 3;
                    int up = none ? -1 : post < men ? 1 : 0;
                    int down = none ? -1 : post < men ? men : 1;
                    fraction(call, x.likely(man, post, false), x.likely(man, post, true), up, down);
                }
            }
        }
    }

    private static void ordersNone() {
        sentence(14, "SAIL that a MAN would order as captain now, no mutiny; NONE: no such one");
        StrawWatch x = with("man a 1 0 0 0 0; man b 2 0 0 0 0; man c 3 0 0 0 0; orders = skill;");
        for (int man = -3; man <= 7; man++) due("orders(" + man + ")", x.orders(man), man < 0 || man > 2 ? -1 : man + 1);
        for (int far : FAR) due("orders(" + far + ")", x.orders(far), -1);
        due("orders(0) without MEN", new StrawWatch().orders(0), -1);
    }

    // ---------------------------------------------------------------- the next WATCH

    private static void meanNoSuchOnes() {
        sentence(15, "MEAN (sail 0 .. 3; NONE: by ORDERS) of what 0 .. 3 .. -100000: no such ones");
        StrawWatch x = with("orders = 2; strikes = sail + 1; eats = 7; moods = 0 - sail;");
        int[][] wants = {{4, 2, 3, 4, 5}, {3, 1, 2, 3, 4}, {7, 7, 7, 7, 7}, {-2, 0, -1, -2, -3}};
        for (int what = -2; what <= 5; what++) {
            for (int sail = -3; sail <= 5; sail++) {
                boolean none = what < 0 || what > 3 || sail < -1 || sail > 3;
                int want = none ? -100000 : wants[what][sail + 1];
                String of = "(" + what + ", " + sail + ")";
                due("mean" + of + " above", x.mean(what, sail, false), want);
                due("mean" + of + " below", x.mean(what, sail, true), none ? -100000 : 1);
                due("most" + of + " least", x.most(what, sail, false), want);
                due("most" + of + " greatest", x.most(what, sail, true), want);
            }
        }
        for (int far : FAR) {
            due("mean(" + far + ", 0)", x.mean(far, 0, false), -100000);
            due("mean(0, " + far + ")", x.mean(0, far, true), -100000);
            due("most(" + far + ", 0)", x.most(far, 0, false), -100000);
            due("most(0, " + far + ")", x.most(0, far, true), -100000);
        }
    }

    private static void meanFractions() {
        sentence(15, "fractions that cannot be lessened (0 by 1); the upper line may be below 0");
        StrawWatch x = with(SIX + "wind = 0; runs = skill; strikes = look; eats = cook; moods = 0 - skill;");
        fraction("mean of 0 .. 5", x.mean(0, 0, false), x.mean(0, 0, true), 5, 2);
        fraction("mean of 1, 2, 4, 8, 5, 4", x.mean(1, 0, false), x.mean(1, 0, true), 4, 1);
        fraction("mean of 0, 0, 0, 0, 0, 9", x.mean(2, 0, false), x.mean(2, 0, true), 3, 2);
        fraction("mean of 0 .. -5", x.mean(3, 0, false), x.mean(3, 0, true), -5, 2);
        x = with(SIX + "wind = 0; runs = helm - 9; strikes = 0; eats = 0; moods = skill * 2 - 5;");
        fraction("mean of 0 .. -5", x.mean(0, 3, false), x.mean(0, 3, true), -5, 2);
        fraction("mean of nothing", x.mean(1, 3, false), x.mean(1, 3, true), 0, 1);
        fraction("mean of nothing", x.mean(2, -1, false), x.mean(2, -1, true), 0, 1);
        fraction("mean of -5, -3, -1, 1, 3, 5", x.mean(3, -1, false), x.mean(3, -1, true), 0, 1);
        x = with("man a 1 0 0 0 0;man b 0 0 0 0 0;man c 0 0 0 0 0;runs = skill; moods = 0 - skill;");
        fraction("one of three", x.mean(0, 0, false), x.mean(0, 0, true), 1, 3);
        fraction("one of three below 0", x.mean(3, 0, false), x.mean(3, 0, true), -1, 3);
        fraction("without MEN", new StrawWatch().mean(0, 0, false), new StrawWatch().mean(0, 0, true), 2, 1);
    }

    private static void meanIsOfTheLaw() {
        sentence(15, "MEAN of what she RUNS .. RUNS, held to -9 .. 19");
        StrawWatch x = with("man a 0 0 0 0 0; goal 5; ship 1 1 99; runs = 50; strikes = 50; eats = 500; moods = 50;");
        fraction("beyond GOAL", x.mean(0, 0, false), x.mean(0, 0, true), 19, 1);
        fraction("beyond HULL", x.mean(1, 0, false), x.mean(1, 0, true), 9, 1);
        fraction("beyond FOOD", x.mean(2, 0, false), x.mean(2, 0, true), 99, 1);
        fraction("beyond MOOD", x.mean(3, 0, false), x.mean(3, 0, true), 9, 1);
        x = with("runs = 0 - 50; moods = 0 - 50; ship 9 9 0;");
        fraction("below LEAGUE 0", x.mean(0, 0, false), x.mean(0, 0, true), -9, 1);
        fraction("below MOOD 0", x.mean(3, 0, false), x.mean(3, 0, true), -9, 1);
    }

    private static void mostLeastAndGreatest() {
        sentence(16, "Of these (likewise) the least (greatest: the greatest)");
        StrawWatch x = with(SIX + "wind = 0; runs = skill - helm; strikes = look; eats = cook * skill; moods = 0 - skill;");
        // a as captain with b at the helm: -8; f with e: 0. She may have f as cook and e as captain: 36.
        int[][] wants = {{-8, 0}, {1, 8}, {0, 36}, {-5, 0}};
        for (int what = 0; what < 4; what++) {
            due("the least of " + what, x.most(what, 0, false), wants[what][0]);
            due("the greatest of " + what, x.most(what, 0, true), wants[what][1]);
        }
        due("by the second MAN's ORDERS", with("man a 0 0 0 0 0; man b 3 0 0 0 0; orders = skill;").most(0, -1, true), 5);
        due("by the first MAN's ORDERS", with("man a 0 0 0 0 0; man b 3 0 0 0 0; orders = skill;").most(0, -1, false), 2);
    }

    private static void noMutiny() {
        sentence(15, "with ORDERS, or a SAIL told, and no mutiny");
        StrawWatch x = with("man a 3 0 0 0 0; ship 9 99 0; goal 99; orders = skill; runs = sail; strikes = 4 - sail;");
        x.watches(1);
        due("a mutiny", x.ship(4), 4);
        due("mean(0, -1)", x.mean(0, -1, false), 3);
        due("mean(0, 2)", x.mean(0, 2, false), 2);
        due("most(0, -1)", x.most(0, -1, true), 3);
        fraction("risk(2, -1)", x.risk(2, -1, false), x.risk(2, -1, true), 0, 1);
        fraction("risk(1, -1)", x.risk(1, -1, false), x.risk(1, -1, true), 1, 1);
        due("orders(0)", x.orders(0), 3);
    }

    /** The LAWS are looked at as of now, whatever was asked for just ahead. */
    private static void ofNowWhateverWasAsked() {
        sentence(15, "Of the next WATCH by a DRAW");
        String text = "man a 0 0 0 0 0; goal 99; ship 99 99 50; wind = watch; danger = league / 2; orders = watch + blows; runs = 2; strikes = near + blows; eats = watch; moods = league / 2;";
        for (int gone = 0; gone < 4; gone++) {
            StrawWatch x = with(text);
            x.watches(gone);
            for (int ask = 0; ask < 9; ask++) {
                switch (ask) {
                    case 0 -> x.then(9, 8);
                    case 1 -> x.steady(3, 0);
                    case 2 -> x.year(1, 2);
                    case 3 -> x.began(0, 7);
                    case 4 -> x.safe(2, true);
                    case 5 -> x.spared(0, 9);
                    case 6 -> x.often(0, 0, 5);
                    case 7 -> x.ends(0);
                    default -> x.then(0, 8);
                }
                int which = (ask + gone) % 7;
                if (which == 0) due("orders(0)", x.orders(0), 2 * gone % 4);
                else if (which == 1) fraction("risk", x.risk(2 * gone, 0, false), x.risk(2 * gone, 0, true), 1, 1);
                else if (which == 2) fraction("risk", x.risk(2 * gone + 1, 0, false), x.risk(2 * gone + 1, 0, true), 0, 1);
                else if (which == 3) due("mean(1, 0)", x.mean(1, 0, false), 2 * gone);
                else if (which == 4) due("mean(2, 0)", x.mean(2, 0, false), gone);
                else if (which == 5) due("most(3, 0)", x.most(3, 0, true), gone);
                else due("ship(8)", x.ship(8), gone);
            }
        }
    }

    private static void riskBounds() {
        sentence(17, "RISK: how likely STRIKES are d or more (d 0 .. 9)");
        StrawWatch x = with(SIX + "strikes = skill + sail; orders = 4;");
        for (int d = -2; d <= 11; d++) {
            for (int sail = -3; sail <= 5; sail++) {
                boolean none = d < 0 || d > 9 || sail < -1 || sail > 3;
                // Skills 0 to 5, each of one MAN in six.
                int many = Math.max(0, Math.min(6, 6 - d + Math.max(sail, 0)));
                int[] up = {0, 1, 1, 1, 2, 5, 1}, down = {1, 6, 3, 2, 3, 6, 1};
                fraction("risk(" + d + ", " + sail + ")", x.risk(d, sail, false), x.risk(d, sail, true), none ? -1 : up[many], none ? -1 : down[many]);
            }
        }
        for (int far : FAR) {
            due("risk(" + far + ", 0)", x.risk(far, 0, false), -1);
            due("risk(0, " + far + ")", x.risk(0, far, true), -1);
        }
        x = with("strikes = 9;");
        fraction("risk(9, 0) of 9", x.risk(9, 0, false), x.risk(9, 0, true), 1, 1);
        x = with("strikes = 8;");
        fraction("risk(9, 0) of 8", x.risk(9, 0, false), x.risk(9, 0, true), 0, 1);
        x = with("strikes = 0;");
        fraction("risk(0, 0) of 0", x.risk(0, 0, false), x.risk(0, 0, true), 1, 1);
        fraction("risk(1, 0) of 0", x.risk(1, 0, false), x.risk(1, 0, true), 0, 1);
    }

    // ---------------------------------------------------------------- SAFEST

    private static void safestBounds() {
        sentence(18, "SAFEST for n WATCHES (1, 2): the i-th SAIL; NONE: no such ones, not so many");
        StrawWatch x = with("ship 9 99 50; strikes = 6 - sail * 2;");
        for (int n = -2; n <= 5; n++) {
            for (int i = -2; i <= 5; i++) {
                boolean none = n < 1 || n > 2 || i < 0 || i >= n;
                // One watch: 6 of 9 leaves her afloat; two: 6 and 2, or what is alike by the first, 6 and 0.
                due("safest(" + n + ", " + i + ")", x.safest(n, i), none ? -1 : n == 2 && i == 1 ? 2 : 0);
            }
        }
        for (int far : FAR) {
            due("safest(" + far + ", 0)", x.safest(far, 0), -1);
            due("safest(2, " + far + ")", x.safest(2, far), -1);
        }
        sentence(19, "How likely by it; NONE: no such n");
        for (int n = -2; n <= 5; n++) fraction("safe(" + n + ")", x.safe(n, false), x.safe(n, true), n < 1 || n > 2 ? -1 : 1, n < 1 || n > 2 ? -1 : 1);
        for (int far : FAR) due("safe(" + far + ")", x.safe(far, true), -1);
    }

    private static void safestHullAboveZero() {
        sentence(19, "that HULL is above 0 behind them");
        for (int hull = 1; hull <= 12; hull++) {
            for (int strikes = 0; strikes <= 6; strikes++) {
                StrawWatch x = with("man a 0 0 0 0 0; ship " + hull + " 99 50; strikes = " + strikes + ";");
                fraction("safe(1), HULL " + hull + ", STRIKES " + strikes, x.safe(1, false), x.safe(1, true), hull > strikes ? 1 : 0, 1);
                fraction("safe(2), HULL " + hull + ", STRIKES " + strikes, x.safe(2, false), x.safe(2, true), hull > 2 * strikes ? 1 : 0, 1);
            }
        }
    }

    private static void safestGreatHulls() {
        sentence(19, "STRIKES, held to 0 .. 9: HULL above 0 behind one and behind two");
        for (int hull : new int[] {8, 9, 10, 11, 17, 18, 19, 20, 99}) {
            StrawWatch x = with(crew(3, "1 1 1 1 1") + "ship " + hull + " 99 50; strikes = if sail < 3 then 99 else 8;");
            due("safest(1, 0), HULL " + hull, x.safest(1, 0), hull == 9 ? 3 : 0);
            fraction("safe(1), HULL " + hull, x.safe(1, false), x.safe(1, true), hull > 8 ? 1 : 0, 1);
            // 9 and 9, 9 and 8, 8 and 8 for two of them
            int first = hull == 17 ? 3 : 0;
            int second = hull == 17 || hull == 18 ? 3 : 0;
            due("safest(2, 0), HULL " + hull, x.safest(2, 0), first);
            due("safest(2, 1), HULL " + hull, x.safest(2, 1), second);
            fraction("safe(2), HULL " + hull, x.safe(2, false), x.safe(2, true), hull > 16 ? 1 : 0, 1);
        }
    }

    private static void safestAlikeOnes() {
        sentence(18, "of alike ones the first by the first SAIL, then the next one's");
        for (int mask = 0; mask < 16; mask++) {
            // The SAILS of the mask wreck her in one watch, the others do not strike.
            StringBuilder law = new StringBuilder();
            for (int sail = 0; sail < 3; sail++) law.append("if sail < ").append(sail + 1).append(" then ").append((mask >> sail & 1) * 9).append(" else ");
            law.append((mask >> 3 & 1) * 9);
            StrawWatch x = with("ship 9 99 50; strikes = " + law + ";");
            int first = mask == 15 ? 0 : Integer.numberOfTrailingZeros(~mask);
            due("safest(1, 0) of " + mask, x.safest(1, 0), first);
            due("safest(2, 0) of " + mask, x.safest(2, 0), first);
            due("safest(2, 1) of " + mask, x.safest(2, 1), first);
            fraction("safe(1) of " + mask, x.safe(1, false), x.safe(1, true), mask == 15 ? 0 : 1, 1);
            fraction("safe(2) of " + mask, x.safe(2, false), x.safe(2, true), mask == 15 ? 0 : 1, 1);
        }
        // What one watch loses the other may spare: 0 and 3, 1 and 2, 2 and 1, 3 and 0 are alike.
        StrawWatch x = with("ship 4 99 50; strikes = sail; runs = sail; goal 99; danger = 0; moods = 0;");
        due("safest(2, 0)", x.safest(2, 0), 0);
        due("safest(2, 1)", x.safest(2, 1), 0);
        x = with("ship 4 99 50; strikes = if watch < 1 then 3 - sail else if league < 1 then sail * 9 else 9; runs = if sail < 3 then 0 else 1; goal 99;");
        // SAIL 0 strikes 3 and leaves her at LEAGUE 0, where SAIL 0 does not strike.
        due("safest(2, 0): the first SAIL that is alike", x.safest(2, 0), 0);
        due("safest(2, 1)", x.safest(2, 1), 0);
    }

    private static void safestOverAhead() {
        sentence(19, "if the voyage is over ahead of that, HULL stays as it is");
        for (int goal = 1; goal <= 6; goal++) {
            StrawWatch x = with("ship 5 99 50; strikes = 3; runs = 4; goal " + goal + ";");
            fraction("safe(2), GOAL " + goal + " by 4", x.safe(2, false), x.safe(2, true), goal <= 4 ? 1 : 0, 1);
        }
        for (int food = 1; food <= 6; food++) {
            StrawWatch x = with("ship 5 " + food + " 50; strikes = 3; eats = 4;");
            fraction("safe(2), FOOD " + food + " by 4", x.safe(2, false), x.safe(2, true), food <= 4 ? 1 : 0, 1);
        }
        // WRECKED at GOAL or STARVED is HULL 0 too.
        StrawWatch x = with("ship 3 4 50; strikes = 3; runs = 4; eats = 4; goal 4;");
        fraction("safe(2), HULL 0 at GOAL", x.safe(2, false), x.safe(2, true), 0, 1);
        fraction("safe(1), HULL 0 at GOAL", x.safe(1, false), x.safe(1, true), 0, 1);
        // Over already: at GOAL with HULL left, and WRECKED.
        x = with("ship 3 99 50; runs = 4; goal 4; strikes = if watch < 1 then 0 else 9;");
        x.watches(1);
        fraction("safe(1) at GOAL", x.safe(1, false), x.safe(1, true), 1, 1);
        fraction("safe(2) at GOAL", x.safe(2, false), x.safe(2, true), 1, 1);
        due("safest(1, 0) at GOAL", x.safest(1, 0), 0);
        due("safest(2, 1) at GOAL", x.safest(2, 1), 0);
        x = with("ship 3 99 50; strikes = if watch < 1 then 9 else 0;");
        x.watches(1);
        fraction("safe(1) of a wreck", x.safe(1, false), x.safe(1, true), 0, 1);
        fraction("safe(2) of a wreck", x.safe(2, false), x.safe(2, true), 0, 1);
        due("safest(2, 0) of a wreck", x.safest(2, 0), 0);
        // In half of the draws she is over ahead of the second watch: a as captain brings her to GOAL.
        x = with("man a 9 0 0 0 0; man b 0 0 0 0 0; ship 5 99 50; strikes = 3; runs = skill; goal 9;");
        fraction("safe(2), one of two at GOAL", x.safe(2, false), x.safe(2, true), 1, 2);
        x = with("man a 9 0 0 0 0; man b 0 0 0 0 0; ship 5 9 50; strikes = 3; eats = skill; goal 9;");
        fraction("safe(2), one of two STARVED", x.safe(2, false), x.safe(2, true), 1, 2);
    }

    private static void safestByWhereSheIs() {
        sentence(18, "one SAIL each, told ahead, by two DRAWS one after the other");
        // She is at LEAGUE 9, and runs back by SAIL: 0, 5 or (held) 9 leagues.
        StrawWatch x = with("goal 99; ship 9 99 50; orders = 0; runs = if watch < 1 then 9 else 0 - sail * 5; strikes = if watch < 2 then 0 else if league < 1 then 2 else 9;");
        x.watches(1);
        due("safest(2, 0): back to LEAGUE 0", x.safest(2, 0), 2);
        fraction("safe(2)", x.safe(2, false), x.safe(2, true), 1, 1);
        // The least and the greatest that she can run in one watch.
        x = with("goal 99; ship 9 99 50; runs = if watch < 1 then 12 else 0 - 50; strikes = if watch < 2 then 0 else if league < 3 then 9 else if league < 4 then 1 else 9;");
        x.watches(1);
        fraction("safe(2) at LEAGUE 3", x.safe(2, false), x.safe(2, true), 1, 1);
        x = with("goal 99; ship 9 99 50; runs = 50; strikes = if watch < 1 then 0 else if league < 19 then 9 else if league < 20 then 1 else 9;");
        fraction("safe(2) at LEAGUE 19", x.safe(2, false), x.safe(2, true), 1, 1);
        x = with("goal 99; ship 9 99 50; runs = 0 - 9; strikes = if 0 < league then 9 else if league < 0 then 9 else 4;");
        fraction("safe(2) at LEAGUE 0", x.safe(2, false), x.safe(2, true), 1, 1);
        // WIND and DANGER of the second watch are its own.
        x = with("goal 99; ship 9 99 50; wind = watch; danger = league; runs = 2; strikes = near * 3 + blows;");
        fraction("safe(2): 0, then 7", x.safe(2, false), x.safe(2, true), 1, 1);
        x = with("goal 99; ship 7 99 50; wind = watch; danger = league; runs = 2; strikes = near * 3 + blows;");
        fraction("safe(2): 7 of 7", x.safe(2, false), x.safe(2, true), 0, 1);
    }

    private static void safeOfManyDraws() {
        sentence(19, "as fractions that cannot be lessened (0 by 1)");
        // Strikes are the captain's skill, 0 to 5; in how many of 6, and of 36, is the sum below HULL?
        int[] one = {0, 1, 2, 3, 4, 5, 6}, two = {0, 1, 3, 6, 10, 15, 21, 26, 30, 33, 35, 36};
        for (int hull = 1; hull <= 11; hull++) {
            StrawWatch x = with(SIX + "ship " + hull + " 99 50; strikes = skill; goal 99;");
            int a = one[Math.min(hull, 6)], b = two[hull];
            int da = gcd(a, 6), db = gcd(b, 36);
            fraction("safe(1), HULL " + hull, x.safe(1, false), x.safe(1, true), a / da, 6 / da);
            fraction("safe(2), HULL " + hull, x.safe(2, false), x.safe(2, true), b / db, 36 / db);
        }
        // By the lookout: 1, 2, 4, 8, 5, 4.
        StrawWatch x = with(SIX + "ship 5 99 50; strikes = look; goal 99;");
        fraction("safe(1) by the lookout", x.safe(1, false), x.safe(1, true), 2, 3);
        // below 5 together: 1+1, 1+2, 2+1, 2+2 of 36
        fraction("safe(2) by the lookout", x.safe(2, false), x.safe(2, true), 1, 9);
        // By captain and helm both: in one draw of 30 is a at 0 and f at the helm.
        x = with(SIX + "ship 5 99 50; strikes = skill + helm;");
        fraction("safe(1) by two", x.safe(1, false), x.safe(1, true), 1, 30);
        x = with(SIX + "ship 9 99 50; strikes = skill + helm;");
        // 4 + 4 is below 9; no other sum of two is
        fraction("safe(2) by two", x.safe(2, false), x.safe(2, true), 1, 900);
    }

    private static int gcd(int a, int b) { return b == 0 ? a : gcd(b, a % b); }

    // ---------------------------------------------------------------- ROSTER

    private static void rosterAndBetter() {
        sentence(20, "ROSTER: the sum (post NONE), else who is at a POST (-2: nobody); -100: no such one");
        String[] men = {"man a 9 0 0 0 0;", "man b 0 9 0 0 0;", "man c 0 0 9 0 0;", "man d 0 0 0 9 0;", "man e 0 0 0 0 0;", "man f 8 8 8 8 0;"};
        StringBuilder text = new StringBuilder();
        int[] sums = {0, 9, 18, 27, 36, 36, 36};
        // Means: 9 by 1; 2 * 9 / 2; 3 * 9 / 3; 4 * 9 / 4; 36 / 5; (36 + 32) / 6.
        int[][] better = {{0, 1}, {0, 1}, {9, 1}, {18, 1}, {27, 1}, {144, 5}, {74, 3}};
        for (int many = 0; many <= 6; many++) {
            StrawWatch x = with(text.toString());
            for (int post = -3; post <= 6; post++) {
                int want = post == -1 ? sums[many] : post < -1 || post > 3 ? -100 : post < many ? post : -2;
                due(many + " MEN: roster(" + post + ")", x.roster(post), want);
            }
            for (int far : FAR) due("roster(" + far + ")", x.roster(far), -100);
            sentence(22, "How much more it is than by a DRAW in the mean");
            fraction(many + " MEN: better", x.better(false), x.better(true), better[many][0], better[many][1]);
            sentence(20, "ROSTER: the sum (post NONE), else who is at a POST (-2: nobody); -100: no such one");
            if (many < 6) text.append(men[many]);
        }
        sentence(22, "fractions that cannot be lessened (0 by 1)");
        StrawWatch x = with(crew(6, "3 3 3 3 3"));
        fraction("better, all alike", x.better(false), x.better(true), 0, 1);
        x = with(crew(6, "9 9 9 9 9"));
        due("the greatest sum", x.roster(-1), 36);
        x = with("man a 1 0 0 0 0;man b 0 0 0 0 0;man c 0 0 0 0 0;");
        fraction("better: 1 less 1 by 3", x.better(false), x.better(true), 2, 3);
    }

    private static void rosterAlikeOnes() {
        sentence(20, "of alike ones the first by POST 0's MAN, then the next one's");
        for (int men = 1; men <= 6; men++) {
            StrawWatch x = with(crew(men, "5 5 5 5 0"));
            for (int post = 0; post < 4; post++) due(men + " alike: roster(" + post + ")", x.roster(post), post < men ? post : -2);
        }
        // Each DRAW in its turn, from the first to the last, is the one with most SKILLS.
        for (int men = 1; men <= 6; men++) {
            int[] who = {0, 1, 2, 3};
            for (int d = 0; d < (men < 4 ? 6 : 360); d++) {
                StringBuilder text = new StringBuilder();
                for (int man = 0; man < men; man++) {
                    text.append("man ").append((char) ('a' + man));
                    for (int post = 0; post < 4; post++) text.append(who[post] == man ? " 9" : " 1");
                    text.append(" 0;");
                }
                if (men < 4 || d % 7 == 0 || d < 3) {
                    StrawWatch x = with(text.toString());
                    for (int post = 0; post < 4; post++) due(text + " roster(" + post + ")", x.roster(post), post < men ? who[post] : -2);
                    due(text + " roster(-1)", x.roster(-1), 9 * Math.min(men, 4));
                }
                if (!nextDraw(who, men)) break;
            }
        }
        // b at POST 1 and c at POST 0, or a at POST 0 and c at POST 1, are alike: a at POST 0 is the first.
        StrawWatch x = with("man a 5 5 0 0 0;man b 0 5 0 0 0;man c 5 5 0 0 0;man d 0 0 0 0 0;");
        int[] who = {0, 1, 2, 3};
        for (int post = 0; post < 4; post++) due("roster(" + post + ")", x.roster(post), who[post]);
        x = with("man a 0 0 0 5 0;man b 0 0 5 5 0;man c 0 5 0 5 0;man d 5 0 0 5 0;man e 0 0 0 5 0;");
        int[] turned = {3, 2, 1, 0};
        for (int post = 0; post < 4; post++) due("turned: roster(" + post + ")", x.roster(post), turned[post]);
        due("turned: roster(-1)", x.roster(-1), 20);
    }

    /** The next way in which so many MEN can be at POSTS, in order; false behind the last. */
    private static boolean nextDraw(int[] who, int men) {
        int posts = Math.min(men, 4);
        do {
            int post = posts - 1;
            while (post >= 0 && who[post] == men - 1) who[post--] = 0;
            if (post < 0) return false;
            who[post]++;
        } while (Arrays.stream(who, 0, posts).distinct().count() < posts);
        return true;
    }

    private static void handyBounds() {
        sentence(21, "The MAN with most SKILL for a POST, of alike ones the first; -2: there are no MEN; NONE: no such POST");
        StrawWatch x = with("man a 0 1 9 5 0;man b 0 2 9 6 0;man c 0 2 9 7 0;man d 0 0 9 7 0;man e 0 2 9 0 0;man f 0 1 9 8 0;");
        int[] wants = {0, 1, 0, 5};
        for (int post = -3; post <= 6; post++) {
            boolean none = post < 0 || post > 3;
            due("handy(" + post + ")", x.handy(post), none ? -1 : wants[post]);
            if (!none) due("handy(" + post + ") without MEN", new StrawWatch().handy(post), -2);
        }
        for (int far : FAR) due("handy(" + far + ")", x.handy(far), -1);
    }

    // ---------------------------------------------------------------- IN n WATCHES

    private static void thenBounds() {
        sentence(23, "IN n WATCHES (0 .. 200): what as for ship(); NONE: no such ones");
        StrawWatch x = with("man a 0 0 0 0 0; goal 999; ship 99 999 99; wind = watch / 30; danger = league / 50; runs = 2; eats = 3; moods = 0 - 1; broom 100; strikes = watch / 100;");
        for (int n : new int[] {-2, -1, 0, 1, 100, 199, 200, 201, 202, 1000}) {
            boolean none = n < 0 || n > 200;
            int[] wants = {2 * n, n < 101 ? 99 : 199 - n, 999 - 3 * n, Math.max(0, 99 - n), n < 99 ? 0 : 4 - (n - 99) % 4, Math.max(0, 100 - n), n < 199 ? 0 : 2, n, n / 30, Math.min(9, 2 * n / 50)};
            if (n == 200) {
                // WRECKED behind 199: 99 of HULL go in watches 100 .. 198.
                wants = new int[] {398, 0, 402, 0, 4, 0, 2, 199, 6, 7};
            }
            for (int what = -1; what <= 10; what++) {
                due("then(" + n + ", " + what + ")", x.then(n, what), none || what < 0 || what > 9 ? -1 : wants[what]);
            }
        }
        due("nothing happened", x.ship(7), 0);
        sentence(23, "or till the voyage is over");
        x = with("goal 7;");
        int[] leagues = {0, 3, 6, 7, 7, 7};
        int[] watches = {0, 1, 2, 3, 3, 3};
        for (int n = 0; n < 6; n++) {
            due("then(" + n + ", 0)", x.then(n, 0), leagues[n]);
            due("then(" + n + ", 7)", x.then(n, 7), watches[n]);
            due("then(" + n + ", 6)", x.then(n, 6), n >= 3 ? 1 : 0);
        }
    }

    private static void oftenBounds() {
        sentence(24, "IN n WATCHES (0 .. 200): how often more a MAN is at a POST; NONE: no such ones");
        StrawWatch x = with(crew(5, "1 1 1 1 1") + "goal 999; runs = 0; eats = 0; broom 9999; seed 77;");
        int[][] times = new int[5][4];
        for (int n = 0; n <= 200; n++) {
            if (n == 0 || n == 1 || n == 2 || n == 50 || n == 199 || n == 200)
                for (int man = 0; man < 5; man++)
                    for (int post = 0; post < 4; post++) due("often(" + man + ", " + post + ", " + n + ")", x.often(man, post, n), times[man][post]);
            int[] who = draw(5, 77, n);
            for (int post = 0; post < 4; post++) times[who[post]][post]++;
        }
        for (int man : new int[] {-2, -1, 5, 6}) due("often(" + man + ", 0, 1)", x.often(man, 0, 1), -1);
        for (int post : new int[] {-2, -1, 4, 5}) due("often(0, " + post + ", 1)", x.often(0, post, 1), -1);
        for (int n : new int[] {-2, -1, 201, 202}) due("often(0, 0, " + n + ")", x.often(0, 0, n), -1);
        for (int far : FAR) due("often(0, 0, " + far + ")", x.often(0, 0, far), -1);
        sentence(24, "Without STRAWS all POSTS stay as they are");
        x = with(crew(5, "1 1 1 1 1") + "goal 999; runs = 0; eats = 0; broom 4;");
        x.stand(3, -1, -1, 1);
        due("often(3, 0, 200)", x.often(3, 0, 200), 200);
        due("often(1, 3, 7)", x.often(1, 3, 7), 7);
        due("often(0, 0, 200)", x.often(0, 0, 200), 0);
    }

    private static void endsBounds() {
        sentence(25, "ENDS: what 0 behind how many WATCHES, 1 how (1 .. 3); -2: not by then; NONE for others");
        String[] texts = {"goal 7;", "ship 5 99 50; strikes = 2; goal 99;", "ship 5 5 50; eats = 2; goal 99;", "goal 999; ship 9 999 50;"};
        int[][] wants = {{3, 1}, {3, 2}, {3, 3}, {-2, -2}};
        for (int t = 0; t < 4; t++) {
            StrawWatch x = with(texts[t]);
            for (int what = -3; what <= 5; what++) due("ends(" + what + ") of " + texts[t], x.ends(what), what < 0 || what > 1 ? -1 : wants[t][what]);
            for (int far : FAR) due("ends(" + far + ")", x.ends(far), -1);
        }
        StrawWatch x = with("goal 7;");
        for (int gone = 0; gone <= 3; gone++) {
            due("ends(0) behind " + gone, x.ends(0), 3 - gone);
            due("ends(1) behind " + gone, x.ends(1), 1);
            x.watches(1);
        }
        x = with("ship 9 0 9;");
        due("ends(0) of FOOD 0", x.ends(0), 0);
        due("ends(1) of FOOD 0", x.ends(1), 3);
    }

    private static void endsAtTwoHundred() {
        sentence(25, "behind how many WATCHES (0 .. 200) the voyage is over");
        for (int food : new int[] {198, 199, 200, 201, 202}) {
            StrawWatch x = with("goal 999; runs = 0; ship 9 " + food + " 50;");
            due("ends(0), FOOD " + food, x.ends(0), food <= 200 ? food : -2);
            due("ends(1), FOOD " + food, x.ends(1), food <= 200 ? 3 : -2);
            due("steady(2, 0), FOOD " + food, x.steady(2, 0), food <= 200 ? food : -2);
            due("steady(2, 1), FOOD " + food, x.steady(2, 1), food <= 200 ? 3 : -2);
            x.watches(1);
            due("ends(0) one later, FOOD " + food, x.ends(0), food <= 201 ? food - 1 : -2);
        }
    }

    private static void steadyBounds() {
        sentence(26, "STEADY (sail 0 .. 3): as for ends(); NONE: no such ones");
        StrawWatch x = with("wind = 0; goal 12; orders = 1; ship 9 99 50;");
        int[][] wants = {{99, 3}, {12, 1}, {6, 1}, {4, 1}};
        for (int sail = -3; sail <= 6; sail++) {
            for (int what = -2; what <= 3; what++) {
                boolean none = sail < 0 || sail > 3 || what < 0 || what > 1;
                due("steady(" + sail + ", " + what + ")", x.steady(sail, what), none ? -1 : wants[sail][what]);
            }
        }
        for (int far : FAR) {
            due("steady(" + far + ", 0)", x.steady(far, 0), -1);
            due("steady(0, " + far + ")", x.steady(0, far), -1);
        }
        sentence(26, "with one SAIL in each WATCH whoever orders (0 in a mutiny)");
        x = with("man a 1 0 0 0 0; man b 2 0 0 0 0; wind = 0; goal 12; orders = skill; ship 9 99 3; moods = if watch < 1 then 0 - 3 else 1;");
        // A watch of 3, four of 0 in the mutiny, three of 3.
        due("steady(3, 0)", x.steady(3, 0), 8);
        x.watches(1);
        due("a mutiny is on", x.ship(4), 4);
        int more = 12 - x.ship(0);
        due("steady(3, 0) in it", x.steady(3, 0), 4 + (more + 2) / 3);
        sentence(26, "STEADY leaves ENDS as they are");
        x = with("wind = 0; goal 12; orders = 1; ship 9 99 50;");
        x.steady(3, 0);
        due("ends(0)", x.ends(0), 12);
        due("then(3, 0)", x.then(3, 0), 3);
        due("watches(2)", x.watches(2), 2);
        due("LEAGUE", x.ship(0), 2);
    }

    private static void sparedBounds() {
        sentence(27, "SPARED (n 0 .. 200); -100000: no such ones");
        StrawWatch x = with(crew(3, "1 1 1 1 9") + "goal 999; runs = 0; eats = 0; seed 3; broom 9999;");
        for (int man : new int[] {-2, -1, 3, 4}) due("spared(" + man + ", 1)", x.spared(man, 1), -100000);
        for (int n : new int[] {-2, -1, 201, 202}) due("spared(0, " + n + ")", x.spared(0, n), -100000);
        for (int far : FAR) {
            due("spared(" + far + ", 0)", x.spared(far, 0), -100000);
            due("spared(0, " + far + ")", x.spared(0, far), -100000);
        }
        due("spared(0, 0) without MEN", new StrawWatch().spared(0, 0), -100000);
        for (int man = 0; man < 3; man++) {
            int captain = 0;
            for (int n = 0; n <= 200; n++) {
                // Nine straws spare him nine times; nobody else hides.
                if (n < 40 || n > 196) due("spared(" + man + ", " + n + ")", x.spared(man, n), Math.min(captain, 9));
                if (draw(3, 3, n)[0] == man) captain++;
            }
        }
        sentence(27, "if he is to HIDE all along than if not");
        StrawWatch hides = with(crew(3, "1 1 1 1 9") + "goal 999; runs = 0; eats = 0; seed 3; broom 9999;");
        hides.hide(1, true);
        due("alike whether he is to HIDE now", hides.spared(1, 30), x.spared(1, 30));
        due("he still is to HIDE", hides.count(7), 2);
        // One straw less in the SLEEVE now is one time less that he is spared.
        hides.watches(30);
        hides.hide(1, false);
        int left = hides.man(1, 4), often = hides.often(1, 0, 200);
        due("by what is up the SLEEVE now", hides.spared(1, 200), Math.min(left, often));
    }

    private static void sparedBelowZero() {
        sentence(27, "SPARED (may be below 0)");
        StrawWatch x = with("man a 9 0 0 0 1; man b 0 0 0 0 0; seed 2; runs = 0; eats = 0; strikes = if watch < 1 then skill else 0; ship 9 99 50; broom 9999;");
        due("a is drawn first", draw(2, 2, 0)[0], 0);
        due("and wrecks her", x.ends(0), 1);
        // If he hides she sails on, and he is captain whenever he is drawn behind that.
        int later = 0;
        for (int w = 1; w < 200; w++) {
            if (draw(2, 2, w)[0] == 0) later++;
            if (w < 20 || w == 199) due("spared(0, " + (w + 1) + ")", x.spared(0, w + 1), 1 - later);
        }
        yes("below 0", x.spared(0, 200) < 0);
    }

    private static void broomBounds() {
        sentence(28, "BROOM: how many WATCHES more straws can be drawn (if she sails on for ever) (9999: there are no MEN)");
        for (int men = 0; men <= 6; men++) {
            for (int straws : new int[] {0, 1, men - 1, men, men + 1, 2 * men - 1, 2 * men, 999, 9998, 9999}) {
                if (straws < 0) continue;
                StrawWatch x = with(crew(men, "1 1 1 1 1") + "broom " + straws + ";");
                due(men + " MEN, " + straws + " straws: broom()", x.broom(), men == 0 ? 9999 : straws / men);
            }
        }
        StrawWatch x = with(crew(2, "1 1 1 1 1") + "broom 9; goal 3;");
        x.watches(1);
        due("over", x.ship(6), 1);
        due("broom() if she sailed on for ever", x.broom(), 3);
    }

    // ---------------------------------------------------------------- YEAR

    private static void yearBounds() {
        sentence(29, "YEAR by s SEEDS (1 .. 20): in how many it ends so (1 .. 3); NONE: no such ones");
        String[] texts = {"goal 7;", "strikes = 9;", "eats = 99; goal 99;", "runs = 0; eats = 0;"};
        for (int t = 0; t < 4; t++) {
            StrawWatch x = with("man a 1 1 1 1 1;" + texts[t]);
            for (int how = -2; how <= 6; how++) {
                for (int s : new int[] {-1, 0, 1, 2, 19, 20, 21, 22}) {
                    boolean none = how < 1 || how > 3 || s < 1 || s > 20;
                    due("year(" + how + ", " + s + ") of " + texts[t], x.year(how, s), none ? -1 : how == t + 1 ? s : 0);
                }
            }
            sentence(30, "YEAR: in how many he is MARRIED; NONE: no such ones");
            for (int man = -2; man <= 3; man++) {
                for (int s : new int[] {-1, 0, 1, 2, 19, 20, 21, 22}) {
                    boolean none = man != 0 || s < 1 || s > 20;
                    due("weds(" + man + ", " + s + ") of " + texts[t], x.weds(man, s), none ? -1 : t == 0 ? s : 0);
                }
            }
            sentence(29, "YEAR by s SEEDS (1 .. 20): in how many it ends so (1 .. 3); NONE: no such ones");
            for (int far : FAR) {
                due("year(" + far + ", 1)", x.year(far, 1), -1);
                due("year(1, " + far + ")", x.year(1, far), -1);
                due("weds(" + far + ", 1)", x.weds(far, 1), -1);
                due("weds(0, " + far + ")", x.weds(0, far), -1);
            }
        }
    }

    private static void yearWithinTwoHundred() {
        sentence(29, "in how many of them the voyage ends in a told way within 200 WATCHES");
        for (int food : new int[] {199, 200, 201}) {
            StrawWatch x = with("goal 999; runs = 0; ship 9 " + food + " 50;");
            due("year(3, 5), FOOD " + food, x.year(3, 5), food <= 200 ? 5 : 0);
        }
        for (int goal : new int[] {599, 600, 601}) {
            StrawWatch x = with("man a 1 1 1 1 1; ship 9 999 50; goal " + goal + ";");
            due("year(1, 5), GOAL " + goal, x.year(1, 5), goal <= 600 ? 5 : 0);
            due("weds(0, 5), GOAL " + goal, x.weds(0, 5), goal <= 600 ? 5 : 0);
        }
    }

    private static void yearSeedsFromTheTexts() {
        sentence(29, "YEAR by s SEEDS from the text's SEED on");
        for (int seed : new int[] {0, 500, 9985, 9999}) {
            StrawWatch x = with("man a 1 0 0 0 0; man b 2 0 0 0 0; man c 3 0 0 0 0; seed " + seed + "; runs = if skill < 2 then 5 else 0; strikes = if skill < 2 then 0 else if skill < 3 then 9 else 0; eats = if skill < 3 then 0 else 99; goal 5; ship 9 99 50;");
            int[] how = new int[4];
            for (int s = 1; s <= 20; s++) {
                // One watch ends it: by a at GOAL, by b WRECKED, by c STARVED; behind SEED 9999 comes 10000.
                how[draw(3, seed + s - 1, 0)[0] + 1]++;
                for (int h = 1; h <= 3; h++) due("seed " + seed + ": year(" + h + ", " + s + ")", x.year(h, s), how[h]);
                due("seed " + seed + ": weds(0, " + s + ")", x.weds(0, s), how[1]);
                due("seed " + seed + ": weds(1, " + s + ")", x.weds(1, s), 0);
            }
            due("nothing happened", x.ship(7), 0);
            due("ends(1) by the text's SEED", x.ends(1), draw(3, seed, 0)[0] + 1);
        }
    }

    private static void nothingHappens() {
        sentence(23, "What would be (nothing happens)");
        StrawWatch x = with(FIVE + "goal 90; moods = 0 - 9; strikes = 1;");
        x.hide(2, true);
        x.watches(3);
        int[] ahead = seen(x);
        x.likely(0, 0, true);
        x.orders(1);
        x.mean(0, 3, true);
        x.most(3, 2, true);
        x.risk(1, 3, true);
        x.safest(2, 1);
        x.safe(2, true);
        x.roster(0);
        x.handy(2);
        x.better(true);
        x.then(200, 0);
        x.often(1, 1, 200);
        x.ends(0);
        x.steady(3, 1);
        x.spared(1, 200);
        x.broom();
        x.year(1, 20);
        x.weds(1, 20);
        int[] behind = seen(x);
        for (int i = 0; i < ahead.length; i++) due("what is seen, " + i, behind[i], ahead[i]);
    }

    private static int[] seen(StrawWatch x) {
        int[] row = new int[10 + 4 + 45 + 12];
        int at = 0;
        for (int what = 0; what < 10; what++) row[at++] = x.ship(what);
        for (int post = 0; post < 4; post++) row[at++] = x.post(post);
        for (int man = 0; man < 5; man++) for (int what = 0; what < 9; what++) row[at++] = x.man(man, what);
        for (int what = 0; what < 12; what++) row[at++] = x.count(what);
        return row;
    }
}
