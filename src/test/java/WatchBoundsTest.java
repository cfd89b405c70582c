import java.util.Arrays;

/** Part II of the document and promises 6 to 12: each sentence that names a bound, on both sides of it. */
public final class WatchBoundsTest extends Checks {
    private static final int LEAST = Integer.MIN_VALUE;
    private static final int GREATEST = Integer.MAX_VALUE;
    // She sails on for ever, wherever the laws under test do not say otherwise.
    private static final String FOR_EVER = "goal 999; runs = 0; eats = 0; ";
    private static final String FOUR = "man a 1 2 3 4 0; man b 5 6 7 8 0; man c 9 8 7 6 0; man d 2 4 6 8 0; ";

    public static void main(String[] args) {
        lessThan();
        theFirstIfThatHolds();
        intsThatWrap();
        roundedTowardsZero();
        dividedByZero();
        dividedByZeroInEachLaw();
        varsOfEachLaw();
        heldWindAndDanger();
        ordersByFour();
        heldRuns();
        heldStrikes();
        heldEats();
        heldMoods();
        postsNobodyIsAt();
        broomHasAsMany();
        noneIsLeft();
        lots();
        hiding();
        hidesOnlyWhenDrawn();
        withoutStraws();
        sailInAMutiny();
        leagueZeroAtLeast();
        noFurtherThanGoal();
        hullAndFoodZeroAtLeast();
        moodHeld();
        asTheWatchBegan();
        mutinyBegins();
        mutinyLasts();
        orderOfEnds();
        married();
        manOthers();
        postOthers();
        shipOthers();
        hideFalse();
        standNone();
        standOver();
        watchesBounds();
        watchesTillOver();
        lastForty();
        undoOfEachKind();
        calls512();
        finish("the bounds of watches hold");
    }

    // ---------------------------------------------------------------- LAWS

    /** Any int as an E: bytes one behind the other, in 32 bits that wrap. */
    private static String number(int v) {
        return "(((" + (v >>> 24) + "*256+" + (v >>> 16 & 255) + ")*256+" + (v >>> 8 & 255) + ")*256+" + (v & 255) + ")";
    }

    private static void value(String e, int want) {
        String n = number(want);
        StrawWatch x = with("wind = if " + e + " < " + n + " then 1 else if " + n + " < " + e + " then 2 else 3;");
        due(e + " against " + want + " (1 less, 2 more, 3 alike)", x.ship(8), 3);
    }

    private static int wind(String law) { return with("wind = " + law + ";").ship(8); }

    private static void lessThan() {
        sentence(8, "the first if that holds (one less than the other)");
        int[] row = {LEAST, LEAST + 1, -2, -1, 0, 1, 2, GREATEST - 1, GREATEST};
        for (int a = 0; a < row.length; a++)
            for (int b = 0; b < row.length; b++)
                due(row[a] + " < " + row[b], wind("if " + number(row[a]) + " < " + number(row[b]) + " then 5 else 6"), a < b ? 5 : 6);
    }

    private static void theFirstIfThatHolds() {
        sentence(8, "LAWS: the E of the first if that holds, else the last one");
        for (int ifs = 0; ifs <= 4; ifs++) {
            for (int bits = 0; bits < 1 << ifs; bits++) {
                StringBuilder law = new StringBuilder();
                for (int i = 0; i < ifs; i++) law.append((bits >> i & 1) == 1 ? "if 0 < 1" : "if 1 < 1").append(" then ").append(i + 1).append(" else ");
                int want = bits == 0 ? 9 : Integer.numberOfTrailingZeros(bits) + 1;
                due(law + "9", wind(law + "9"), want);
            }
        }
    }

    private static void intsThatWrap() {
        sentence(8, "ints of 32 bits that wrap");
        value("9999 * 9999", 99980001);
        value(number(GREATEST) + " + 1", LEAST);
        value(number(GREATEST) + " + 0", GREATEST);
        value(number(LEAST) + " - 1", GREATEST);
        value("0 - " + number(LEAST), LEAST);
        value("0 - " + number(GREATEST), -2147483647);
        value(number(GREATEST) + " * 2", -2);
        value("256 * 256 * 256 * 256", 0);
        value("256 * 256 * 256 * 128", LEAST);
        value("256 * 256 * 256 * 127", 2130706432);
        value("(9999 * 4 + 6344) * (9999 * 4 + 6344)", 2147395600);
        value("(9999 * 4 + 6345) * (9999 * 4 + 6345)", -2147479015);
        value(number(LEAST) + " * (0 - 1)", LEAST);
    }

    private static void roundedTowardsZero() {
        sentence(8, "/ rounded towards 0");
        int[][] rows = {{7, 2, 3}, {-7, 2, -3}, {7, -2, -3}, {-7, -2, 3}, {1, 2, 0}, {-1, 2, 0}, {1, -2, 0}, {6, 3, 2}, {-6, 3, -2},
            {5, 6, 0}, {6, 6, 1}, {0, 9, 0}, {LEAST, -1, LEAST}, {LEAST, 1, LEAST}, {LEAST, 2, -1073741824}, {GREATEST, -1, -GREATEST},
            {GREATEST, GREATEST, 1}, {LEAST, GREATEST, -1}, {GREATEST, LEAST, 0}, {LEAST, LEAST, 1}};
        for (int[] r : rows) value(number(r[0]) + " / " + number(r[1]), r[2]);
        sentence(8, "PART: UNIT {('*' | '/') UNIT}, one after the other");
        value("7 / 2 * 2", 6);
        value("2 * 7 / 4", 3);
        value("100 / 7 / 2", 7);
        value("1 - 2 - 3", -4);
        value("1 - 2 + 3", 2);
        value("2 + 3 * 4 - 6 / 2", 11);
        value("(2 + 3) * (4 - 6) / 2", -5);
        sentence(8, "six ( within one another");
        value("1 + 2 * (3 - 4 * (5 + 6 * (7 - 8 * (9 + 10 * (11 - 12 * (13 + 14 * 15))))))", 1 + 2 * (3 - 4 * (5 + 6 * (7 - 8 * (9 + 10 * (11 - 12 * 223))))));
        value("((((((7 - 2) * 3 - 1) / 2 + 5) * 4 - 3) / 5 + 1) * 2)", 20);
        value("2 - (2 - (2 - (2 - (2 - (2 - (1))))))", 1);
    }

    private static void dividedByZero() {
        sentence(8, "a LAW in which something that is looked at is divided by 0 is 0");
        String[] looked = {"5 / 0", "0 / 0", "5 + 1 / 0", "1 / 0 + 5", "(1 / 0) * 0 + 5", "5 / (3 - 3)", "5 / watch + 5", "5 / skill + 5", "5 - 0 * (2 / league)",
            "if 1 / 0 < 2 then 5 else 6", "if 2 < 1 / 0 then 5 else 6", "if 1 < 2 then 5 / 0 else 6", "if 2 < 1 then 5 else 6 / 0",
            "if 2 < 1 then 5 else if 1 / 0 < 2 then 6 else 7", "if 2 < 1 then 3 else if 2 < 1 then 4 else if 2 < 1 then 5 else if 1 < 6 / 0 then 7 else 8"};
        for (String law : looked) due(law, wind(law), 0);
        String[] not = {"if 1 < 2 then 5 else 6 / 0", "if 2 < 1 then 5 / 0 else 5", "if 1 < 2 then 5 else if 1 / 0 < 2 then 6 else 7",
            "if 1 < 2 then 5 else if 1 < 2 then 6 / 0 else 7 / 0", "if 2 < 1 then 6 / 0 else if 1 < 2 then 5 else 7 / 0", "0 / 5 + 5", "5 / (3 - 2)"};
        for (String law : not) due(law, wind(law), 5);
    }

    private static void dividedByZeroInEachLaw() {
        sentence(8, "a LAW in which something that is looked at is divided by 0 is 0");
        StrawWatch x = with("wind = 5 + 1 / 0; danger = 5 + 1 / 0; orders = 3 + 1 / 0; runs = 5 + 1 / 0; strikes = 5 + 1 / 0; eats = 5 + 1 / 0; moods = 5 + 1 / 0;");
        due("WIND", x.ship(8), 0);
        due("DANGER", x.ship(9), 0);
        due("SAIL", x.stand(-1, -1, -1, -1), 0);
        due("LEAGUE", x.ship(0), 0);
        due("HULL", x.ship(1), 20);
        due("FOOD", x.ship(2), 99);
        due("MOOD", x.ship(3), 50);
        // One LAW that is 0 leaves the others as they are.
        x = with("wind = 1 / 0; danger = 3; runs = 4 + near + blows; eats = 2;");
        x.watches(1);
        due("LEAGUE", x.ship(0), 7);
        due("FOOD", x.ship(2), 97);
    }

    /** What each VAR is in the second watch of this ship, and the LAWS that it is told for, as the document has them. */
    private static void varsOfEachLaw() {
        sentence(8, "a VAR not told for a LAW is 0 in it; watch and league for all");
        String[] vars = {"watch", "league", "skill", "helm", "look", "cook", "sail", "blows", "near"};
        int[] is = {1, 2, 3, 5, 7, 6, 2, 7, 9};
        String[] told = {"watch league", "watch league", "watch league skill blows near", "watch league sail blows near helm skill",
            "watch league sail blows near helm look skill", "watch league cook skill", "watch league cook sail skill"};
        String[] laws = {"wind", "danger", "orders", "runs", "strikes", "eats", "moods"};
        // None of these has the rest 0 by 4, so that each is seen in ORDERS too.
        String crew = "man a 3 0 0 0 0; man b 0 5 0 0 0; man c 0 0 7 0 0; man d 0 0 0 6 0; ship 50 50 50; goal 99; ";
        for (int law = 0; law < 7; law++) {
            for (int v = 0; v < 9; v++) {
                int want = (" " + told[law] + " ").contains(" " + vars[v] + " ") ? is[v] : 0;
                // The first watch brings her to LEAGUE 2; the LAW under test is in force from the second on.
                String text = crew + "wind = 7; danger = 9; orders = 2; runs = 2; strikes = 0; eats = 0; moods = 0; ";
                String base = new String[] {"7", "9", "2", "2", "0", "0", "0"}[law];
                StrawWatch x = with(text + laws[law] + " = if watch < 1 then " + base + " else " + vars[v] + ";");
                x.stand(0, 1, 2, 3);
                int[] ahead = {x.ship(0), x.ship(1), x.ship(2), x.ship(3)};
                int weather = x.ship(law == 1 ? 9 : 8);
                int sail = x.stand(0, 1, 2, 3);
                int[] got = {weather, weather, sail, x.ship(0) - ahead[0], ahead[1] - x.ship(1), ahead[2] - x.ship(2), x.ship(3) - ahead[3]};
                due(vars[v] + " in " + laws[law], got[law], law == 2 ? want % 4 : want);
            }
        }
    }

    private static void heldWindAndDanger() {
        sentence(8, "WIND, held to 0 .. 9; DANGER, held to 0 .. 9");
        for (int v : new int[] {LEAST, -10, -1, 0, 1, 8, 9, 10, 11, 9999, GREATEST}) {
            int want = v < 0 ? 0 : v > 9 ? 9 : v;
            StrawWatch x = with("wind = " + number(v) + "; danger = " + number(v) + "; runs = blows; strikes = near;");
            due("WIND of " + v, x.ship(8), want);
            due("DANGER of " + v, x.ship(9), want);
            x.watches(1);
            due("blows of " + v, x.ship(0), want);
            due("near of " + v, 20 - x.ship(1), want);
        }
    }

    private static void ordersByFour() {
        sentence(14, "its rest by 4 (below 0: 0) is SAIL");
        int[][] rows = {{LEAST, 0}, {-9, 0}, {-8, 0}, {-7, 0}, {-6, 0}, {-5, 0}, {-4, 0}, {-3, 0}, {-2, 0}, {-1, 0}, {0, 0}, {1, 1}, {2, 2}, {3, 3},
            {4, 0}, {5, 1}, {6, 2}, {7, 3}, {8, 0}, {9999, 3}, {GREATEST - 3, 0}, {GREATEST, 3}};
        for (int[] r : rows) {
            StrawWatch x = with("man a 0 0 0 0 0; goal 99; orders = " + number(r[0]) + ";");
            due("orders(0) of " + r[0], x.orders(0), r[1]);
            due("mean(0, -1) of " + r[0], x.mean(0, -1, false), 2 + r[1]);
            due("SAIL of " + r[0], x.stand(0, -1, -1, -1), r[1]);
            due("LEAGUE by " + r[0], x.ship(0), 2 + r[1]);
        }
    }

    private static void heldRuns() {
        sentence(8, "RUNS, held to -9 .. 19");
        for (int v : new int[] {LEAST, -100, -11, -10, -9, -8, -1, 0, 1, 18, 19, 20, 21, 9999, GREATEST}) {
            int want = v < -9 ? -9 : v > 19 ? 19 : v;
            StrawWatch x = with("goal 99; runs = if watch < 1 then 15 else " + number(v) + ";");
            x.watches(1);
            due("mean(0, 0) of " + v, x.mean(0, 0, false), want);
            due("most(0, 0) of " + v, x.most(0, 0, true), want);
            x.watches(1);
            due("LEAGUE by " + v, x.ship(0), 15 + want);
        }
    }

    private static void heldStrikes() {
        sentence(8, "STRIKES, held to 0 .. 9");
        for (int v : new int[] {LEAST, -10, -1, 0, 1, 8, 9, 10, 11, GREATEST}) {
            int want = v < 0 ? 0 : v > 9 ? 9 : v;
            StrawWatch x = with("strikes = " + number(v) + ";");
            due("mean(1, 0) of " + v, x.mean(1, 0, false), want);
            due("most(1, 0) of " + v, x.most(1, 0, false), want);
            x.watches(1);
            due("HULL by " + v, x.ship(1), 20 - want);
        }
    }

    private static void heldEats() {
        sentence(8, "EATS, held to 0 .. 99");
        for (int v : new int[] {LEAST, -10, -1, 0, 1, 98, 99, 100, 101, GREATEST}) {
            int want = v < 0 ? 0 : v > 99 ? 99 : v;
            StrawWatch x = with("ship 9 200 9; eats = " + number(v) + ";");
            due("mean(2, 0) of " + v, x.mean(2, 0, false), want);
            due("most(2, 0) of " + v, x.most(2, 0, false), want);
            x.watches(1);
            due("FOOD by " + v, x.ship(2), 200 - want);
        }
    }

    private static void heldMoods() {
        sentence(8, "MOODS, held to -9 .. 9");
        for (int v : new int[] {LEAST, -100, -11, -10, -9, -8, -1, 0, 1, 8, 9, 10, 11, GREATEST}) {
            int want = v < -9 ? -9 : v > 9 ? 9 : v;
            StrawWatch x = with("moods = " + number(v) + ";");
            due("mean(3, 0) of " + v, x.mean(3, 0, false), want);
            due("most(3, 0) of " + v, x.most(3, 0, true), want);
            x.watches(1);
            due("MOOD by " + v, x.ship(3), 50 + want);
        }
    }

    private static void postsNobodyIsAt() {
        sentence(10, "A POST nobody is at: skill 0");
        String laws = "goal 99; wind = 0; danger = 0; orders = skill; runs = helm; strikes = look; eats = cook; moods = skill;";
        for (int gone = -1; gone < 4; gone++) {
            StrawWatch x = with(FOUR + laws);
            int[] who = {0, 1, 2, 3};
            if (gone >= 0) who[gone] = -1;
            due("SAIL", x.stand(who[0], who[1], who[2], who[3]), gone == 0 ? 0 : 1);
            due("RUNS by the helm", x.ship(0), gone == 1 ? 0 : 6);
            due("STRIKES by the lookout", x.ship(1), gone == 2 ? 20 : 13);
            due("EATS by the cook", x.ship(2), gone == 3 ? 99 : 91);
            due("MOODS by the captain", x.ship(3), gone == 0 ? 50 : 51);
        }
    }

    // ---------------------------------------------------------------- STRAWS

    private static void broomHasAsMany() {
        sentence(11, "STRAWS are drawn, if the BROOM has as many as there are MEN (as many are gone then)");
        for (int men = 1; men <= 6; men++) {
            for (int broom = 0; broom <= 2 * men + 1; broom++) {
                StrawWatch x = with(crew(men, "1 1 1 1 1") + FOR_EVER + "broom " + broom + ";");
                due("broom() of " + broom, x.broom(), broom / men);
                for (int w = 1; w <= 3; w++) {
                    x.watches(1);
                    due(men + " MEN, " + broom + " straws, watch " + w, x.ship(5), broom - men * Math.min(w, broom / men));
                    due("somebody is captain", x.post(0) >= 0 ? 1 : 0, broom >= men ? 1 : 0);
                }
            }
        }
        StrawWatch x = with("broom 0;");
        due("watches(1) without MEN and straws", x.watches(1), 1);
        due("straws", x.ship(5), 0);
        x = with("broom 5;");
        x.watches(3);
        due("straws without MEN", x.ship(5), 5);
    }

    private static void noneIsLeft() {
        sentence(11, "when none is left, nobody");
        for (int men = 0; men <= 6; men++) {
            StrawWatch x = with(crew(men, "1 1 1 1 1") + FOR_EVER);
            for (int w = 0; w < 8; w++) {
                x.watches(1);
                int seen = 0;
                for (int post = 0; post < 4; post++) {
                    int who = x.post(post);
                    if (post >= men) {
                        due(men + " MEN: post(" + post + ")", who, -2);
                    } else {
                        yes(men + " MEN: post(" + post + ") is a MAN not drawn yet", who >= 0 && who < men && (seen >> who & 1) == 0);
                        seen |= 1 << who;
                    }
                }
            }
        }
    }

    private static void lots() {
        sentence(11, "the one behind LOT (how many they are) of the SEED and 64 * the watch and the POST others of them");
        for (int men = 1; men <= 6; men++) {
            for (int seed : new int[] {0, 1, 80, 81, 82, 4096, 9998, 9999}) {
                StrawWatch x = with(crew(men, "1 1 1 1 1") + FOR_EVER + "broom 9999; seed " + seed + ";");
                for (int w = 0; w < 40; w++) {
                    x.watches(1);
                    int[] want = draw(men, seed, w);
                    for (int post = 0; post < 4; post++) due(men + " MEN, seed " + seed + ", watch " + w + ", post " + post, x.post(post), want[post]);
                }
            }
        }
        // Far watches: 64 * the watch goes on growing.
        StrawWatch x = with(crew(6, "1 1 1 1 1") + FOR_EVER + "broom 9999; seed 5;");
        for (int i = 1; i <= 25; i++) {
            x.watches(60);
            int[] want = draw(6, 5, 60 * i - 1);
            for (int post = 0; post < 4; post++) due("watch " + (60 * i - 1) + ", post " + post, x.post(post), want[post]);
        }
    }

    private static void hiding() {
        sentence(9, "If the captain so drawn is to HIDE, has a straw up his SLEEVE, and there is one at the helm, he has 1 less there, and changes");
        for (int men = 1; men <= 6; men++) {
            for (int sleeve = 0; sleeve <= 3; sleeve++) {
                StrawWatch x = with(crew(men, "1 1 1 1 " + sleeve) + FOR_EVER + "seed 11;");
                for (int man = 0; man < men; man += 2) x.hide(man, true);
                int[] left = new int[men];
                Arrays.fill(left, sleeve);
                for (int w = 0; w < 12; w++) {
                    x.watches(1);
                    int[] want = draw(men, 11, w);
                    int captain = want[0];
                    if (captain % 2 == 0 && left[captain] > 0 && men > 1) {
                        left[captain]--;
                        want[0] = want[1];
                        want[1] = captain;
                    }
                    for (int post = 0; post < 4; post++) due(men + " MEN, " + sleeve + " up, watch " + w + ", post " + post, x.post(post), want[post]);
                    due("SLEEVE of the one drawn", x.man(captain, 4), left[captain]);
                }
                int all = 0;
                for (int n : left) all += n;
                due("count(8)", x.count(8), all);
            }
        }
    }

    private static void hidesOnlyWhenDrawn() {
        sentence(10, "no STRAWS are drawn, nobody hides");
        StrawWatch x = with(crew(2, "1 1 1 1 9") + FOR_EVER + "broom 3;");
        x.hide(0, true);
        x.hide(1, true);
        x.stand(0, 1, -1, -1);
        due("post(0) by hand", x.post(0), 0);
        due("SLEEVES", x.count(8), 18);
        due("straws", x.ship(5), 3);
        sentence(11, "If the captain so drawn is to HIDE");
        x.watches(1);
        due("SLEEVES: the one drawn hid", x.count(8), 17);
        int captain = x.post(0);
        x.watches(5);
        due("without STRAWS nobody hides", x.count(8), 17);
        due("and all stay", x.post(0), captain);
        due("straws", x.ship(5), 1);
    }

    private static void withoutStraws() {
        sentence(11, "Without STRAWS all POSTS stay as they are");
        StrawWatch x = with(crew(5, "1 1 1 1 1") + FOR_EVER + "broom 4;");
        x.watches(2);
        for (int post = 0; post < 4; post++) due("nobody yet: post(" + post + ")", x.post(post), -2);
        x.stand(4, -1, 2, 0);
        x.watches(3);
        int[] who = {4, -2, 2, 0};
        for (int post = 0; post < 4; post++) due("post(" + post + ")", x.post(post), who[post]);
        due("captain in each of them", x.man(4, 7), 4);
        due("straws", x.ship(5), 4);
        x.stand(-1, -1, -1, -1);
        x.watches(1);
        for (int post = 0; post < 4; post++) due("nobody again: post(" + post + ")", x.post(post), -2);
        due("captain no more", x.man(4, 7), 4);
    }

    // ---------------------------------------------------------------- what a watch does

    private static void sailInAMutiny() {
        sentence(10, "ORDERS are SAIL; in a mutiny SAIL is 0");
        StrawWatch x = with("man a 0 0 0 0 0; goal 99; ship 50 50 9; orders = 3; runs = sail * 2; strikes = sail; moods = if watch < 1 then 0 - 9 else sail + 1;");
        due("SAIL ahead of it", x.stand(0, -1, -1, -1), 3);
        for (int left = 4; left > 0; left--) {
            due("for how many more", x.ship(4), left);
            due("SAIL in a mutiny", x.stand(0, -1, -1, -1), 0);
        }
        due("no more", x.ship(4), 0);
        due("RUNS by SAIL 0", x.ship(0), 6);
        due("STRIKES by SAIL 0", x.ship(1), 47);
        due("MOODS by SAIL 0", x.ship(3), 4);
        due("SAIL behind it", x.stand(0, -1, -1, -1), 3);
        due("LEAGUE", x.ship(0), 12);
    }

    private static void leagueZeroAtLeast() {
        sentence(11, "to LEAGUE 0 at least");
        for (int at = 0; at <= 4; at++) {
            for (int back = 0; back <= 9; back++) {
                StrawWatch x = with("goal 50; runs = if watch < 1 then " + at + " else 0 - " + back + ";");
                x.watches(2);
                due("LEAGUE " + at + " less " + back, x.ship(0), at > back ? at - back : 0);
                due("not over", x.ship(6), 0);
            }
        }
    }

    private static void noFurtherThanGoal() {
        sentence(11, "no further than GOAL");
        for (int goal : new int[] {1, 5, 18, 19, 20}) {
            for (int runs : new int[] {goal - 1, goal, goal + 1, 19}) {
                StrawWatch x = with("goal " + goal + "; runs = " + runs + ";");
                x.watches(1);
                int held = Math.min(runs, 19);
                due("LEAGUE by " + runs + " of " + goal, x.ship(0), Math.min(held, goal));
                due("at GOAL by " + runs + " of " + goal, x.ship(6), held >= goal ? 1 : 0);
            }
        }
        StrawWatch x = with("goal 999; runs = 19; ship 9 999 9;");
        due("watches to the furthest GOAL", x.watches(60), 53);
        due("LEAGUE", x.ship(0), 999);
    }

    private static void hullAndFoodZeroAtLeast() {
        sentence(11, "STRIKES make HULL less, EATS make FOOD less (both 0 at least)");
        for (int hull = 1; hull <= 4; hull++) {
            for (int by = 0; by <= 6; by++) {
                StrawWatch x = with("ship " + hull + " 50 50; strikes = " + by + ";");
                x.watches(1);
                due("HULL " + hull + " less " + by, x.ship(1), Math.max(0, hull - by));
                due("WRECKED, HULL " + hull + " less " + by, x.ship(6), by >= hull ? 2 : 0);
                x = with("ship 50 " + hull + " 50; eats = " + by + ";");
                x.watches(1);
                due("FOOD " + hull + " less " + by, x.ship(2), Math.max(0, hull - by));
                due("STARVED, FOOD " + hull + " less " + by, x.ship(6), by >= hull ? 3 : 0);
            }
        }
        StrawWatch x = with("ship 99 999 99; strikes = 9; eats = 99;");
        x.watches(1);
        due("HULL", x.ship(1), 90);
        due("FOOD", x.ship(2), 900);
        sentence(8, "3 STARVED at FOOD 0");
        due("ship(6) of a text with FOOD 0", with("ship 9 0 9;").ship(6), 3);
        due("ship(6) of a text with FOOD 1", with("ship 9 1 9;").ship(6), 0);
        due("ship(6) of a text with HULL 1", with("ship 1 9 9;").ship(6), 0);
        due("ship(6) of a text with GOAL 1", with("goal 1;").ship(6), 0);
    }

    private static void moodHeld() {
        sentence(11, "MOODS change MOOD (held to 0 .. 99)");
        for (int mood : new int[] {0, 1, 2, 50, 97, 98, 99}) {
            for (int by : new int[] {-3, -2, -1, 0, 1, 2, 3}) {
                StrawWatch x = with("ship 9 9 " + mood + "; moods = 0 + " + number(by) + ";");
                x.watches(1);
                due("MOOD " + mood + " by " + by, x.ship(3), Math.max(0, Math.min(99, mood + by)));
            }
        }
    }

    private static void asTheWatchBegan() {
        sentence(11, "all by how it was as the watch began");
        StrawWatch x = with("goal 99; wind = league + watch; danger = league; orders = league + watch + 1; runs = 5; strikes = league + watch; eats = league * 2 + watch; moods = league + watch;");
        due("first SAIL", x.stand(-1, -1, -1, -1), 1);
        int[] first = {5, 20, 99, 50};
        for (int i = 0; i < 4; i++) due("ship(" + i + ") behind the first", x.ship(i), first[i]);
        due("WIND now", x.ship(8), 6);
        due("DANGER now", x.ship(9), 5);
        due("second SAIL", x.stand(-1, -1, -1, -1), 3);
        int[] second = {10, 14, 88, 56};
        for (int i = 0; i < 4; i++) due("ship(" + i + ") behind the second", x.ship(i), second[i]);
        sentence(11, "It is the next watch");
        due("the watch", x.ship(7), 2);
    }

    private static void mutinyBegins() {
        sentence(11, "if none is on then, and MOOD is 0, one begins, for 4 watches");
        for (int mood = 0; mood <= 10; mood++) {
            StrawWatch x = with("ship 9 99 " + mood + "; moods = 0 - 3;");
            due("none as the text is read, MOOD " + mood, x.ship(4), 0);
            x.watches(1);
            due("a mutiny, MOOD " + mood, x.ship(4), mood <= 3 ? 4 : 0);
            due("mutinies so far", x.count(9), mood <= 3 ? 1 : 0);
        }
        StrawWatch x = with("ship 9 99 0; moods = 1;");
        x.watches(1);
        due("MOOD 1 behind the watch: none", x.ship(4), 0);
        x = with("ship 9 99 0;");
        x.watches(1);
        due("MOOD 0 as the text tells, behind the first watch", x.ship(4), 4);
    }

    private static void mutinyLasts() {
        sentence(11, "A mutiny that is on is so for 1 watch less; if none is on then, and MOOD is 0, one begins");
        StrawWatch x = with("goal 999; ship 9 99 0;");
        int[] left = {4, 3, 2, 1, 4, 3, 2, 1, 4};
        int[] many = {1, 1, 1, 1, 2, 2, 2, 2, 3};
        for (int w = 0; w < left.length; w++) {
            x.watches(1);
            due("MOOD stays 0, behind watch " + w, x.ship(4), left[w]);
            due("mutinies so far", x.count(9), many[w]);
        }
        // MOOD comes back at once, and goes to 0 in the watch given here.
        for (int again = 2; again <= 7; again++) {
            x = with("goal 999; ship 9 99 9; moods = if watch < 1 then 0 - 9 else if watch < " + again + " then 1 else 0 - 9;");
            for (int w = 0; w < 9; w++) {
                x.watches(1);
                int start = Math.max(again, 4);
                int want = w < 4 ? 4 - w : w < start ? 0 : w < start + 4 ? 4 - (w - start) : 4;
                due("MOOD 0 again by watch " + again + ", behind watch " + w, x.ship(4), want);
            }
        }
    }

    // ---------------------------------------------------------------- ends

    private static void orderOfEnds() {
        sentence(8, "The voyage is over: 1 at GOAL, else 2 WRECKED at HULL 0, else 3 STARVED at FOOD 0");
        for (int bits = 0; bits < 8; bits++) {
            boolean goal = (bits & 1) == 1, wreck = (bits & 2) == 2, starve = (bits & 4) == 4;
            StrawWatch x = with("man a 1 1 1 1 0; runs = 5; strikes = 5; eats = 5; goal " + (goal ? 5 : 6) + "; ship " + (wreck ? 5 : 6) + " " + (starve ? 5 : 6) + " 50;");
            int want = goal ? 1 : wreck ? 2 : starve ? 3 : 0;
            due("ends(1) of " + bits, x.ends(1), want == 0 ? 1 : want);
            due("ends(0) of " + bits, x.ends(0), want == 0 ? 2 : 1);
            x.watches(1);
            due("ship(6) of " + bits, x.ship(6), want);
            due("LEAGUE of " + bits, x.ship(0), 5);
            due("HULL of " + bits, x.ship(1), wreck ? 0 : 1);
            due("FOOD of " + bits, x.ship(2), starve ? 0 : 1);
            due("MARRIED of " + bits, x.count(10), goal ? 0 : -2);
        }
    }

    private static void married() {
        sentence(8, "1 at GOAL (who is captain then is MARRIED)");
        StrawWatch x = with(FIVE + "goal 4;");
        x.hide(2, true);
        x.watches(9);
        // Draws 2034 and 2134: c hides twice, so a and then b are captains.
        due("count(10)", x.count(10), 1);
        for (int man = 0; man < 5; man++) due("man(" + man + ", 8)", x.man(man, 8), man == 1 ? 1 : 0);
        x = with(FIVE + "goal 3;");
        x.stand(-1, 0, 1, 2);
        due("over with nobody as captain", x.ship(6), 1);
        due("count(10)", x.count(10), -2);
        x = with(FIVE + "goal 3;");
        x.stand(3, 0, 1, 2);
        due("count(10) by hand", x.count(10), 3);
        x.undo();
        due("count(10) undone", x.count(10), -2);
        due("man(3, 8) undone", x.man(3, 8), 0);
        x = with(FIVE + "broom 4; goal 3;");
        x.watches(1);
        due("count(10) when nobody was ever drawn", x.count(10), -2);
    }

    // ---------------------------------------------------------------- promises 6 to 12

    private static void manOthers() {
        sentence(6, "NONE for others");
        StrawWatch x = with(crew(6, "1 2 3 4 5"));
        int[] wants = {1, 2, 3, 4, 5, 0, -2, 0, 0};
        for (int man = -2; man <= 7; man++)
            for (int what = -2; what <= 10; what++)
                due("man(" + man + ", " + what + ")", x.man(man, what), man < 0 || man > 5 || what < 0 || what > 8 ? -1 : wants[what]);
        for (int what = -2; what <= 10; what++) due("man(0, " + what + ") without MEN", new StrawWatch().man(0, what), -1);
    }

    private static void postOthers() {
        sentence(7, "Who is at a POST (-2: nobody); NONE: no such one");
        StrawWatch x = with(FOUR);
        for (int post = -3; post <= 6; post++) due("post(" + post + ")", x.post(post), post < 0 || post > 3 ? -1 : -2);
        x.stand(3, -1, 0, 2);
        int[] who = {3, -2, 0, 2};
        for (int post = -3; post <= 6; post++) due("post(" + post + ")", x.post(post), post < 0 || post > 3 ? -1 : who[post]);
        sentence(6, "6 his POST (-2: none)");
        int[] at = {2, -2, 3, 0};
        for (int man = 0; man < 4; man++) due("man(" + man + ", 6)", x.man(man, 6), at[man]);
    }

    private static void shipOthers() {
        sentence(8, "NONE for others");
        StrawWatch x = new StrawWatch();
        int[] wants = {0, 20, 99, 50, 0, 999, 0, 0, 2, 0};
        for (int what = -3; what <= 13; what++) due("ship(" + what + ")", x.ship(what), what < 0 || what > 9 ? -1 : wants[what]);
    }

    private static void hideFalse() {
        sentence(9, "false, and nothing happens: it is so, no such one");
        StrawWatch x = with(crew(6, "1 1 1 1 1"));
        for (int man = -2; man <= 7; man++) {
            boolean is = man >= 0 && man < 6;
            no("hide(" + man + ", false): it is so", x.hide(man, false));
            due("hide(" + man + ", true)", x.hide(man, true) ? 1 : 0, is ? 1 : 0);
            no("hide(" + man + ", true): it is so", x.hide(man, true));
        }
        due("count(7)", x.count(7), 63);
        due("count(3)", x.count(3), 6);
        for (int man = 0; man < 6; man++) {
            due("man(" + man + ", 5)", x.man(man, 5), 1);
            yes("hide(" + man + ", false)", x.hide(man, false));
            due("man(" + man + ", 5)", x.man(man, 5), 0);
        }
        due("count(7)", x.count(7), 0);
        no("hide(0, true) without MEN", new StrawWatch().hide(0, true));
        no("hide(0, false) without MEN", new StrawWatch().hide(0, false));
    }

    private static void standNone() {
        sentence(10, "NONE: no such ones, one twice");
        StrawWatch x = with(FOUR + "goal 999; ship 9 999 50;");
        for (int post = 0; post < 4; post++) {
            for (int bad : new int[] {LEAST, -3, -2, 4, 5, 6, GREATEST}) {
                int[] who = {0, 1, 2, 3};
                who[post] = bad;
                due("stand with " + bad + " at " + post, x.stand(who[0], who[1], who[2], who[3]), -1);
            }
        }
        for (int one = 0; one < 4; one++) {
            for (int other = one + 1; other < 4; other++) {
                int[] who = {-1, -1, -1, -1};
                who[one] = 2;
                who[other] = 2;
                due("stand with c at " + one + " and " + other, x.stand(who[0], who[1], who[2], who[3]), -1);
                who = new int[] {0, 1, 2, 3};
                who[other] = who[one];
                due("stand with one at " + one + " and " + other, x.stand(who[0], who[1], who[2], who[3]), -1);
            }
        }
        due("nothing happened", x.ship(7) + x.count(3), 0);
        sentence(10, "these MEN at POSTS 0 to 3 (NONE: nobody)");
        due("nobody at all", x.stand(-1, -1, -1, -1), 1);
        due("nobody at two", x.stand(-1, 3, -1, 0), 1);
        due("all of them", x.stand(3, 2, 1, 0), 1);
        int[] who = {3, 2, 1, 0};
        for (int post = 0; post < 4; post++) due("post(" + post + ")", x.post(post), who[post]);
        due("three watches", x.ship(7), 3);
        due("three things done", x.count(3), 3);
    }

    private static void standOver() {
        sentence(10, "-2, and nothing happens: the voyage is over");
        String[] ends = {"goal 3;", "strikes = 9; ship 9 9 9;", "eats = 9; ship 9 9 9;"};
        for (int i = 0; i < 3; i++) {
            StrawWatch x = with(FOUR + ends[i]);
            due("the last watch", x.stand(0, 1, 2, 3), 1);
            due("over", x.ship(6), i + 1);
            due("stand(3, 2, 1, 0)", x.stand(3, 2, 1, 0), -2);
            due("watches(1)", x.watches(1), -2);
            due("watches(0)", x.watches(0), -2);
            due("watches(60)", x.watches(60), -2);
            due("nothing happened", x.ship(7), 1);
            due("nothing happened", x.post(0), 0);
            due("nothing happened", x.count(3), 1);
        }
    }

    private static void watchesBounds() {
        sentence(11, "n WATCHES (0 .. 60; 0 is no thing done)");
        StrawWatch x = with(crew(3, "1 1 1 1 1") + FOR_EVER);
        due("watches(-1)", x.watches(-1), -1);
        due("watches(61)", x.watches(61), -1);
        due("watches(0)", x.watches(0), 0);
        due("the watch", x.ship(7), 0);
        due("no thing done", x.count(3), 0);
        due("watches(1)", x.watches(1), 1);
        due("one thing done", x.count(3), 1);
        due("watches(60)", x.watches(60), 60);
        due("the watch", x.ship(7), 61);
        due("one thing more", x.count(3), 2);
        due("watches(59)", x.watches(59), 59);
        due("the watch", x.ship(7), 120);
    }

    private static void watchesTillOver() {
        sentence(11, "or till the voyage is over: how many were");
        for (int n = 1; n <= 7; n++) {
            StrawWatch x = with("goal 15;");
            due("watches(" + n + ") of 5", x.watches(n), Math.min(n, 5));
            due("over", x.ship(6), n >= 5 ? 1 : 0);
            due("then watches(1)", x.watches(1), n >= 5 ? -2 : 1);
        }
    }

    private static void lastForty() {
        sentence(12, "false: there is none (the last 40 can be)");
        for (int things : new int[] {0, 1, 39, 40, 41, 79, 80, 81, 100}) {
            StrawWatch x = with(crew(2, "1 1 1 1 1") + FOR_EVER);
            for (int i = 0; i < things; i++) x.watches(1);
            int can = Math.min(things, 40);
            due("count(3) of " + things, x.count(3), can);
            for (int i = 1; i <= can; i++) {
                yes("undo() " + i + " of " + things, x.undo());
                due("the watch", x.ship(7), things - i);
            }
            no("undo() beyond " + can, x.undo());
            due("the watch", x.ship(7), things - can);
            due("count(3)", x.count(3), 0);
        }
        // Undone ones make room again.
        StrawWatch x = with(crew(2, "1 1 1 1 1") + FOR_EVER);
        for (int i = 0; i < 45; i++) x.watches(1);
        for (int i = 0; i < 10; i++) x.undo();
        for (int i = 0; i < 7; i++) x.watches(2);
        due("count(3)", x.count(3), 37);
        for (int i = 0; i < 37; i++) yes("undo()", x.undo());
        no("undo()", x.undo());
        due("the watch", x.ship(7), 5);
    }

    private static void undoOfEachKind() {
        sentence(12, "The last thing done (hide, stand, watches) is undone");
        StrawWatch x = with(FIVE + "goal 6; moods = 0 - 9; ship 9 9 9; strikes = 1; runs = 2;");
        x.hide(2, true);
        x.watches(1);
        x.hide(2, false);
        x.stand(3, 1, 0, -1);
        x.watches(5);
        due("over", x.ship(6), 1);
        due("MARRIED", x.count(10), 4);
        yes("undo() of watches", x.undo());
        int[] ship = {4, 7, 7, 0, 3, 994, 0, 2, 2, 0};
        for (int what = 0; what < 10; what++) due("ship(" + what + ")", x.ship(what), ship[what]);
        due("count(10)", x.count(10), -2);
        due("man(3, 7)", x.man(3, 7), 1);
        due("man(4, 7)", x.man(4, 7), 0);
        yes("undo() of stand", x.undo());
        int[] first = {0, 2, 3, 4};
        for (int post = 0; post < 4; post++) due("post(" + post + ")", x.post(post), first[post]);
        due("man(3, 7)", x.man(3, 7), 0);
        due("HULL", x.ship(1), 8);
        due("count(9)", x.count(9), 1);
        yes("undo() of hide", x.undo());
        due("count(7)", x.count(7), 4);
        yes("undo() of watches", x.undo());
        due("SLEEVE", x.man(2, 4), 2);
        due("count(9)", x.count(9), 0);
        due("mutiny", x.ship(4), 0);
        due("straws", x.ship(5), 999);
        due("man(0, 7)", x.man(0, 7), 0);
        yes("undo() of hide", x.undo());
        due("count(7)", x.count(7), 0);
        no("undo()", x.undo());
    }

    private static void calls512() {
        sentence(1, "An object is used for at most 512 calls after it has been made");
        StrawWatch x = new StrawWatch();
        feed(x, "man a 0 0 0 0 0;" + FOR_EVER);
        // 47 bytes: 3 times feed, and back; then read.
        due("read()", x.read(), 0);
        for (int i = 6; i < 512; i++) due("call " + i, x.hide(0, i % 2 == 0) ? 1 : 0, 1);
        due("call 512", x.count(3), 40);
    }
}
