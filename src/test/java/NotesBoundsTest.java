import java.math.BigInteger;

/** Part IV of the document and promises 31 to 39: each sentence that names a bound, on both sides of it. */
public final class NotesBoundsTest extends Checks {
    private static final int[] FAR = {Integer.MIN_VALUE, -1000, 2000, Integer.MAX_VALUE};

    public static void main(String[] args) {
        toldTenAtMost();
        toldNoSuchMan();
        cheatsBounds();
        cheatsByTheFirstK();
        cheatsIfHeWasOne();
        cheatsFractions();
        surelyBounds();
        surelyTenAtMost();
        surelyExactly();
        loggedTwentyAtMost();
        loggedNoSuchOnes();
        giveOrTakeTwo();
        beganLeagues();
        beganNoSuchOnes();
        beganByTheFirstK();
        didNotBegin();
        watchSixty();
        allElseAsTheText();
        forgetCountsBoth();
        holdBounds();
        restoreBounds();
        heldIsAllThatGoesOn();
        notHeld();
        thatStaysThere();
        countOthers();
        countsGoUpAndDown();
        newTextLeavesWhatIsLogged();
        finish("the bounds of what is told, logged and held hold");
    }

    // ---------------------------------------------------------------- TOLD

    private static void toldTenAtMost() {
        sentence(31, "It is TOLD: its number; NONE, and nothing happens: 10 are there");
        StrawWatch x = with(crew(3, "1 1 1 1 1"));
        for (int i = 0; i < 10; i++) {
            due("count(4)", x.count(4), i);
            due("tell", x.tell(i % 2), i);
        }
        due("the eleventh", x.tell(2), -1);
        due("the twelfth", x.tell(0), -1);
        due("count(4)", x.count(4), 10);
        // c was never captain, and would be if the eleventh had come.
        due("cheats(2, 10)", x.cheats(2, 10, false), 59049);
        due("cheats(2, 11)", x.cheats(2, 11, false), -1);
    }

    private static void toldNoSuchMan() {
        sentence(31, "NONE, and nothing happens: no such MAN");
        for (int men = 0; men <= 6; men++) {
            StrawWatch x = with(crew(men, "1 1 1 1 1"));
            int told = 0;
            for (int man = -3; man <= 8; man++) {
                boolean is = man >= 0 && man < men;
                due(men + " MEN: tell(" + man + ")", x.tell(man), is ? told : -1);
                if (is) told++;
                due("count(4)", x.count(4), told);
            }
            for (int far : FAR) due("tell(" + far + ")", x.tell(far), -1);
        }
    }

    private static void cheatsBounds() {
        sentence(32, "CHEATS; NONE: no such ones");
        StrawWatch x = with(crew(4, "1 1 1 1 1"));
        x.tell(0);
        x.tell(0);
        x.tell(0);
        for (int man = -2; man <= 6; man++) {
            for (int k = -2; k <= 5; k++) {
                boolean none = man < 0 || man > 3 || k < 0 || k > 3;
                boolean was = man == 0 && k > 0;
                int[] up = {1, 4, 16, 64}, down = {2, 7, 25, 91};
                fraction("cheats(" + man + ", " + k + ")", x.cheats(man, k, false), x.cheats(man, k, true),
                    none ? -1 : was ? 0 : up[k], none ? -1 : was ? 1 : down[k]);
            }
        }
        for (int far : FAR) {
            due("cheats(" + far + ", 1)", x.cheats(far, 1, false), -1);
            due("cheats(1, " + far + ")", x.cheats(1, far, true), -1);
        }
        due("cheats(0, 0) without MEN", new StrawWatch().cheats(0, 0, true), -1);
        due("cheats(0, 1), nothing is TOLD", with(crew(1, "1 1 1 1 1")).cheats(0, 1, true), -1);
    }

    private static void cheatsByTheFirstK() {
        sentence(32, "KNOWN by k: the first k");
        for (int at = 0; at < 10; at++) {
            StrawWatch x = with(crew(2, "1 1 1 1 1"));
            for (int i = 0; i < 10; i++) x.tell(i == at ? 1 : 0);
            for (int k = 0; k <= 10; k++) {
                int up = k > at ? 0 : 1 << k;
                fraction("captain as number " + at + ": cheats(1, " + k + ")", x.cheats(1, k, false), x.cheats(1, k, true), up, k > at ? 1 : up + 1);
            }
        }
    }

    private static void cheatsIfHeWasOne() {
        sentence(32, "(0, if he was one)");
        StrawWatch x = with(crew(1, "1 1 1 1 1"));
        fraction("one MAN, nothing KNOWN", x.cheats(0, 0, false), x.cheats(0, 0, true), 1, 2);
        x.tell(0);
        fraction("one MAN, he was", x.cheats(0, 1, false), x.cheats(0, 1, true), 0, 1);
        fraction("one MAN, nothing KNOWN", x.cheats(0, 0, false), x.cheats(0, 0, true), 1, 2);
    }

    private static void cheatsFractions() {
        sentence(32, "how likely a MAN is one who is never captain .. both alike likely ahead");
        for (int men = 2; men <= 6; men++) {
            StrawWatch x = with(crew(men, "1 1 1 1 1"));
            for (int i = 0; i < 10; i++) x.tell(0);
            for (int k = 0; k <= 10; k++) {
                // He is, and it falls to others surely; or he is not, and it falls so in (men - 1) of men.
                BigInteger is = BigInteger.valueOf(men).pow(k), not = BigInteger.valueOf(men - 1).pow(k), both = is.add(not), d = is.gcd(both);
                for (int man = 1; man < men; man++)
                    fraction(men + " MEN: cheats(" + man + ", " + k + ")", x.cheats(man, k, false), x.cheats(man, k, true),
                        is.divide(d).intValueExact(), both.divide(d).intValueExact());
            }
        }
    }

    private static void surelyBounds() {
        sentence(33, "SURELY (p 0 .. 100); NONE: no such p, there are no MEN");
        for (int men = 0; men <= 6; men++) {
            StrawWatch x = with(crew(men, "1 1 1 1 1"));
            for (int p : new int[] {-1000, -2, -1, 101, 102, 1000, Integer.MIN_VALUE, Integer.MAX_VALUE}) due(men + " MEN: surely(" + p + ")", x.surely(p), -1);
            due(men + " MEN: surely(0)", x.surely(0), men == 0 ? -1 : 0);
            due(men + " MEN: surely(50)", x.surely(50), men == 0 ? -1 : 0);
            due(men + " MEN: surely(51)", x.surely(51), men == 0 ? -1 : 1);
            due(men + " MEN: surely(100)", x.surely(100), men == 0 ? -1 : men == 1 ? 1 : -2);
        }
    }

    private static void surelyTenAtMost() {
        sentence(33, "the fewest DRAWS .. 10 at most; -2: not");
        // By ten draws: 1024 by 1025, 59049 by 60073, 1048576 by 1107625, 9765625 by 10814201, 60466176 by 70231801.
        int[] last = {0, 100, 99, 98, 94, 90, 86};
        int[] by = {0, 1, 7, 10, 10, 10, 10};
        for (int men = 1; men <= 6; men++) {
            StrawWatch x = with(crew(men, "1 1 1 1 1"));
            due(men + " MEN: surely(" + last[men] + ")", x.surely(last[men]), by[men]);
            if (men > 1) due(men + " MEN: surely(" + (last[men] + 1) + ")", x.surely(last[men] + 1), -2);
        }
        // What is TOLD does not matter.
        StrawWatch x = with(crew(2, "1 1 1 1 1"));
        x.tell(0);
        due("surely(99) with one TOLD", x.surely(99), 7);
    }

    private static void surelyExactly() {
        sentence(33, "by which he is one with p hundredths (0 .. 100) or more");
        StrawWatch three = with(crew(3, "1 1 1 1 1")), two = with(crew(2, "1 1 1 1 1"));
        due("3 by 5 is 60", three.surely(60), 1);
        due("and not 61", three.surely(61), 2);
        due("4 by 5 is 80", two.surely(80), 2);
        due("and not 81", two.surely(81), 3);
        for (int men = 1; men <= 6; men++) {
            StrawWatch x = with(crew(men, "1 1 1 1 1"));
            for (int p = 0; p <= 100; p++) {
                int want = -2;
                for (int k = 10; k >= 0; k--) {
                    BigInteger is = BigInteger.valueOf(men).pow(k), not = BigInteger.valueOf(men - 1).pow(k);
                    if (is.multiply(BigInteger.valueOf(100)).compareTo(is.add(not).multiply(BigInteger.valueOf(p))) >= 0) want = k;
                }
                due(men + " MEN: surely(" + p + ")", x.surely(p), want);
            }
        }
    }

    // ---------------------------------------------------------------- LOGGED

    private static void loggedTwentyAtMost() {
        sentence(34, "LOGGED: its number; NONE, and nothing happens: 20 are there");
        StrawWatch x = new StrawWatch();
        for (int i = 0; i < 20; i++) {
            due("count(5)", x.count(5), i);
            due("log", x.log(0, 5), i);
        }
        due("the twenty-first", x.log(0, 50), -1);
        due("count(5)", x.count(5), 20);
        due("began(20, -1)", x.began(20, -1), 5);
        due("began(21, -1)", x.began(21, -1), -1);
    }

    private static void loggedNoSuchOnes() {
        sentence(34, "as the watch n (0 .. 60) .. no such ones (LEAGUE 0 .. 999)");
        StrawWatch x = new StrawWatch();
        int many = 0;
        for (int n : new int[] {-2, -1, 0, 1, 59, 60, 61, 62}) {
            for (int league : new int[] {-1, 0, 1000, 999}) {
                boolean none = n < 0 || n > 60 || league < 0 || league > 999;
                due("log(" + n + ", " + league + ")", x.log(n, league), none ? -1 : many);
                if (!none) many++;
                due("count(5)", x.count(5), many);
            }
        }
        for (int far : FAR) {
            due("log(" + far + ", 0)", x.log(far, 0), -1);
            due("log(0, " + far + ")", x.log(0, far), -1);
        }
        // A LEAGUE beyond GOAL can be LOGGED: she was not there.
        x = with("goal 9;");
        due("log(0, 999)", x.log(0, 999), 0);
        due("began(1, -1)", x.began(1, -1), 0);
    }

    private static void giveOrTakeTwo() {
        sentence(35, "that she was at a LEAGUE, give or take 2, as the watch n began");
        for (int n : new int[] {0, 1, 7}) {
            StrawWatch x = with("goal 900; runs = 3;");
            x.log(n, 50);
            int from = 48 - 3 * n;
            due("began(1, -1), watch " + n, x.began(1, -1), 5);
            for (int i = 0; i < 5; i++) due("began(1, " + i + "), watch " + n, x.began(1, i), from + i);
            due("began(1, 5), watch " + n, x.began(1, 5), -1);
        }
        // Near LEAGUE 0 and near the furthest one, what is below 0 or beyond 99 does not count.
        int[][] rows = {{0, 3, 0}, {1, 4, 0}, {2, 5, 0}, {3, 5, 1}, {96, 5, 94}, {97, 5, 95}, {98, 4, 96}, {99, 3, 97}, {100, 2, 98}, {101, 1, 99}, {102, 0, -1}};
        for (int[] r : rows) {
            StrawWatch x = with("goal 900;");
            x.log(0, r[0]);
            due("log(0, " + r[0] + "): how many", x.began(1, -1), r[1]);
            due("log(0, " + r[0] + "): the least", x.began(1, 0), r[2]);
        }
        // Two logs of one watch: their ranges must meet.
        for (int apart = 0; apart <= 6; apart++) {
            StrawWatch x = with("goal 900;");
            x.log(4, 40);
            x.log(4, 40 + apart);
            due("two of one watch, " + apart + " apart", x.began(2, -1), Math.max(0, 5 - apart));
        }
    }

    private static void beganLeagues() {
        sentence(35, "LEAGUES 0 .. 99 (no more than GOAL)");
        for (int goal : new int[] {1, 2, 50, 97, 98, 99, 100, 101, 999}) {
            StrawWatch x = with("goal " + goal + ";");
            int most = Math.min(99, goal);
            due("GOAL " + goal + ": how many", x.began(0, -1), most + 1);
            due("GOAL " + goal + ": the least", x.began(0, 0), 0);
            due("GOAL " + goal + ": the greatest", x.began(0, most), most);
            due("GOAL " + goal + ": no more", x.began(0, most + 1), -1);
        }
    }

    private static void beganNoSuchOnes() {
        sentence(35, "how many (i NONE), else the i-th (the least first); NONE: no such ones, not so many");
        StrawWatch x = with("goal 900;");
        x.log(0, 20);
        x.log(1, 24);
        // 18 .. 22 by the first; 19 .. 23 by the second.
        int[][] rows = {{0, 100, 0}, {1, 5, 18}, {2, 4, 19}};
        for (int[] r : rows) {
            due("began(" + r[0] + ", -1)", x.began(r[0], -1), r[1]);
            for (int i = 0; i < 6; i++) due("began(" + r[0] + ", " + i + ")", x.began(r[0], i), i < r[1] ? r[2] + i : -1);
            for (int i : new int[] {-3, -2, 100, 101}) due("began(" + r[0] + ", " + i + ")", x.began(r[0], i), -1);
            for (int far : FAR) due("began(" + r[0] + ", " + far + ")", x.began(r[0], far), -1);
        }
        for (int k : new int[] {-2, -1, 3, 4, 20, 21}) {
            due("began(" + k + ", -1)", x.began(k, -1), -1);
            due("began(" + k + ", 0)", x.began(k, 0), -1);
        }
        for (int far : FAR) due("began(" + far + ", -1)", x.began(far, -1), -1);
    }

    private static void beganByTheFirstK() {
        sentence(35, "by k: the first k");
        StrawWatch x = with("goal 900;");
        for (int k = 0; k < 20; k++) x.log(k, 10 + 3 * k + (k < 15 ? 0 : k < 18 ? 3 : 40));
        int[] wants = new int[21];
        for (int k = 0; k <= 20; k++) wants[k] = k == 0 ? 100 : k <= 15 ? 5 : k <= 18 ? 2 : 0;
        for (int k = 0; k <= 20; k++) due("began(" + k + ", -1)", x.began(k, -1), wants[k]);
        // In no order: the earliest watch may be LOGGED last.
        x = with("goal 900;");
        x.log(9, 37);
        x.log(2, 15);
        x.log(0, 9);
        due("began(1, 0)", x.began(1, 0), 8);
        due("began(2, -1)", x.began(2, -1), 4);
        due("began(3, -1)", x.began(3, -1), 4);
        due("began(3, 3)", x.began(3, 3), 11);
    }

    private static void didNotBegin() {
        sentence(35, "as the watch n began (it did not, if the voyage was over by then)");
        // Three leagues a watch, GOAL 12: as watch 2 begins she is at 6 more; at GOAL it does not begin.
        for (int start = 0; start <= 12; start++) {
            for (int n = 0; n <= 4; n++) {
                StrawWatch x = with("goal 12;");
                int at = start + 3 * n;
                x.log(n, Math.min(at, 12));
                boolean may = false;
                int many = x.began(1, -1);
                for (int i = 0; i < many; i++) may |= x.began(1, i) == start;
                due("from " + start + " watch " + n + " begins", may ? 1 : 0, at < 12 ? 1 : 0);
            }
        }
        for (int n = 0; n <= 6; n++) {
            StrawWatch x = with("goal 900; ship 9 99 50; strikes = 3;");
            x.log(n, 30 + 3 * n);
            due("WRECKED behind 3: watch " + n, x.began(1, -1), n < 3 ? 5 : 0);
            x = with("goal 900; ship 9 4 50;");
            x.log(n, 30 + 3 * n);
            due("STARVED behind 4: watch " + n, x.began(1, -1), n < 4 ? 5 : 0);
            x = with("goal 900; ship 9 0 50;");
            x.log(n, 30 + 3 * n);
            due("STARVED at once: watch " + n, x.began(1, -1), 0);
        }
    }

    private static void watchSixty() {
        sentence(35, "the watch n (0 .. 60)");
        StrawWatch x = with("goal 900; ship 9 60 50;");
        x.log(60, 190);
        due("STARVED behind 60: watch 60", x.began(1, -1), 0);
        x = with("goal 900; ship 9 61 50;");
        x.log(60, 190);
        due("STARVED behind 61: watch 60", x.began(1, -1), 5);
        due("the least", x.began(1, 0), 8);
        x = with("goal 900; ship 9 60 50;");
        x.log(59, 190);
        due("STARVED behind 60: watch 59", x.began(1, -1), 5);
    }

    private static void allElseAsTheText() {
        sentence(35, "all else as the text");
        String text = FIVE + "goal 90; broom 12; ship 9 99 9; moods = if watch < 3 then 0 - 3 else 0; orders = 3; runs = sail * 2 + skill;";
        StrawWatch x = with(text);
        // Where she is as each watch begins, from LEAGUE 0 on, is what log and began() must agree in.
        int[] at = new int[8];
        for (int n = 0; n < 8; n++) {
            at[n] = x.ship(0);
            x.watches(1);
        }
        for (int n = 0; n < 8; n++) {
            StrawWatch y = with(text);
            y.hide(2, true);
            y.hide(4, true);
            y.stand(3, 1, 0, 2);
            y.watches(5);
            y.log(n, at[n] + 20);
            due("watch " + n + ": how many", y.began(1, -1), 5);
            due("watch " + n + ": the least", y.began(1, 0), 18);
            due("nothing happened", y.ship(7), 6);
        }
        // LAWS by LEAGUE make more than one beginning come to one place.
        x = with("goal 99; runs = if league < 10 then 10 - league else 1;");
        x.log(1, 10);
        due("0 .. 9 come to 10, and 10, 11 to 11 and 12", x.began(1, -1), 12);
    }

    private static void forgetCountsBoth() {
        sentence(36, "All that was TOLD and LOGGED is forgotten: how many there were of both");
        for (int told = 0; told <= 10; told += 5) {
            for (int logged = 0; logged <= 20; logged += 10) {
                StrawWatch x = with(crew(2, "1 1 1 1 1"));
                for (int i = 0; i < told; i++) x.tell(1);
                for (int i = 0; i < logged; i++) x.log(i, 3 * i);
                due("forget()", x.forget(), told + logged);
                due("count(4)", x.count(4), 0);
                due("count(5)", x.count(5), 0);
                due("forget() again", x.forget(), 0);
                due("cheats(0, 1)", x.cheats(0, 1, true), -1);
                due("began(1, -1)", x.began(1, -1), -1);
                due("began(0, -1)", x.began(0, -1), 61);
                due("tell(0): numbers from 0 on", x.tell(0), 0);
                due("log(0, 9): numbers from 0 on", x.log(0, 9), 0);
                due("cheats(0, 1)", x.cheats(0, 1, false), 0);
                due("began(1, 0)", x.began(1, 0), 7);
            }
        }
        StrawWatch x = with(FIVE);
        x.hide(1, true);
        x.watches(2);
        x.hold(1);
        x.tell(1);
        due("forget()", x.forget(), 1);
        due("the watch stays", x.ship(7), 2);
        due("things done stay", x.count(3), 2);
        due("SLOTS stay", x.count(6), 1);
    }

    // ---------------------------------------------------------------- SLOTS

    private static void holdBounds() {
        sentence(37, "held in a SLOT (0 .. 2): true; false: no such one");
        StrawWatch x = with(FIVE);
        for (int slot : new int[] {-2, -1, 3, 4}) no("hold(" + slot + ")", x.hold(slot));
        for (int far : FAR) no("hold(" + far + ")", x.hold(far));
        due("count(6)", x.count(6), 0);
        int held = 0;
        for (int slot : new int[] {2, 0, 1}) {
            yes("hold(" + slot + ")", x.hold(slot));
            held++;
            due("count(6)", x.count(6), held);
            yes("hold(" + slot + ") again", x.hold(slot));
            due("count(6)", x.count(6), held);
        }
    }

    private static void restoreBounds() {
        sentence(38, "false, and nothing happens: no such one, nothing is held");
        for (int kept = 0; kept < 3; kept++) {
            StrawWatch x = with(FIVE);
            x.watches(1);
            x.hold(kept);
            x.watches(1);
            for (int slot : new int[] {-2, -1, 3, 4}) no("restore(" + slot + ")", x.restore(slot));
            for (int far : FAR) no("restore(" + far + ")", x.restore(far));
            for (int slot = 0; slot < 3; slot++) if (slot != kept) no("restore(" + slot + "): nothing is held", x.restore(slot));
            due("nothing happened", x.ship(7), 2);
            due("nothing happened", x.count(3), 2);
            yes("restore(" + kept + ")", x.restore(kept));
            due("the watch", x.ship(7), 1);
            due("nothing can be undone", x.count(3), 0);
            no("undo()", x.undo());
        }
    }

    private static int[] goesOn(StrawWatch x) {
        int[] row = new int[10 + 4 + 45 + 4];
        int at = 0;
        for (int what = 0; what < 10; what++) row[at++] = x.ship(what);
        for (int post = 0; post < 4; post++) row[at++] = x.post(post);
        for (int man = 0; man < 5; man++) for (int what = 0; what < 9; what++) row[at++] = x.man(man, what);
        for (int what = 7; what < 11; what++) row[at++] = x.count(what);
        return row;
    }

    private static void heldIsAllThatGoesOn() {
        sentence(37, "All that goes on is held");
        StrawWatch x = with(FIVE + "goal 30; ship 20 30 9; moods = 0 - 3; strikes = 1; broom 27;");
        int[][] rows = new int[3][];
        for (int slot = 0; slot < 3; slot++) {
            x.hide(2 * slot, true);
            x.watches(2);
            x.hold(slot);
            rows[slot] = goesOn(x);
        }
        x.watches(60);
        yes("over", x.ship(6) != 0);
        for (int slot : new int[] {1, 0, 2}) {
            sentence(38, "It goes on from what a SLOT holds");
            yes("restore(" + slot + ")", x.restore(slot));
            int[] row = goesOn(x);
            for (int i = 0; i < row.length; i++) due("SLOT " + slot + ", number " + i, row[i], rows[slot][i]);
        }
        x.restore(1);
        due("then it goes on", x.watches(2), 2);
        x.hide(4, true);
        StrawWatch y = with(FIVE + "goal 30; ship 20 30 9; moods = 0 - 3; strikes = 1; broom 27;");
        y.hide(0, true);
        y.watches(2);
        y.hide(2, true);
        y.watches(4);
        y.hide(4, true);
        int[] one = goesOn(x), other = goesOn(y);
        for (int i = 0; i < one.length; i++) due("as if it had never been else, number " + i, one[i], other[i]);
    }

    private static void notHeld() {
        sentence(37, "not what is TOLD or LOGGED, nor the tape");
        StrawWatch x = with(FIVE);
        x.tell(3);
        x.log(0, 2);
        feed(x, "goal 7");
        x.hold(0);
        x.tell(4);
        x.log(1, 5);
        feed(x, "8;");
        yes("restore(0)", x.restore(0));
        due("TOLD", x.count(4), 2);
        due("LOGGED", x.count(5), 2);
        due("the tape", x.count(2), 8);
        due("cheats(4, 2)", x.cheats(4, 2, false), 0);
        due("began(2, -1)", x.began(2, -1), 5);
        due("read() of goal 78;", x.read(), 0);
        due("GOAL", x.count(1), 78);
        x = with(FIVE);
        x.hold(0);
        x.tell(1);
        x.log(0, 1);
        x.forget();
        x.restore(0);
        due("what is forgotten stays so", x.count(4) + x.count(5), 0);
    }

    private static void thatStaysThere() {
        sentence(38, "that stays there; nothing can be undone then");
        StrawWatch x = with(FIVE);
        x.watches(2);
        x.hold(1);
        for (int i = 0; i < 3; i++) {
            x.watches(3);
            x.hide(0, i % 2 == 0);
            yes("restore(1)", x.restore(1));
            due("the watch", x.ship(7), 2);
            due("count(6)", x.count(6), 1);
            due("count(3)", x.count(3), 0);
            no("undo()", x.undo());
        }
        x.watches(1);
        due("things done behind it can be", x.count(3), 1);
        yes("undo()", x.undo());
        due("the watch", x.ship(7), 2);
        no("undo()", x.undo());
        // undo() leaves what SLOTS hold.
        x = with(FIVE);
        x.watches(3);
        x.hold(0);
        x.undo();
        due("the watch", x.ship(7), 0);
        yes("restore(0)", x.restore(0));
        due("the watch", x.ship(7), 3);
    }

    // ---------------------------------------------------------------- counts

    private static void countOthers() {
        sentence(39, "NONE for others");
        StrawWatch x = new StrawWatch();
        int[] wants = {0, 60, 0, 0, 0, 0, 0, 0, 0, 0, -2, 1};
        for (int what = -3; what <= 15; what++) due("count(" + what + ")", x.count(what), what < 0 || what > 11 ? -1 : wants[what]);
        for (int far : FAR) due("count(" + far + ")", x.count(far), -1);
    }

    private static void countsGoUpAndDown() {
        sentence(39, "7 MEN who are to HIDE (bits), 8 short straws up all SLEEVES");
        StrawWatch x = with(crew(6, "0 0 0 0 9"));
        due("count(8)", x.count(8), 54);
        for (int man = 5; man >= 0; man--) {
            x.hide(man, true);
            due("count(7)", x.count(7), 64 - (1 << man));
        }
        for (int man = 0; man < 6; man++) {
            x.hide(man, false);
            due("count(7)", x.count(7), 62 - (2 << man) + 2);
        }
        due("count(8) of no straws", with(crew(6, "9 9 9 9 0")).count(8), 0);
        due("count(8) of no MEN", new StrawWatch().count(8), 0);
        sentence(39, "2 bytes on the tape");
        x = new StrawWatch();
        x.feed(0, 0, 0, 0, 0);
        due("count(2)", x.count(2), 20);
        x.back(7);
        due("count(2)", x.count(2), 13);
        x.read();
        due("count(2)", x.count(2), 0);
    }

    private static void newTextLeavesWhatIsLogged() {
        sentence(4, "nothing can be undone, nothing is TOLD, SLOTS hold nothing");
        StrawWatch x = with(FIVE);
        x.log(0, 20);
        x.tell(1);
        feed(x, "goal 21;");
        due("read()", x.read(), 0);
        due("count(4)", x.count(4), 0);
        due("what is LOGGED is not named, and stays", x.count(5), 1);
        // 18 .. 20: at GOAL watch 0 does not begin.
        due("began(1, -1)", x.began(1, -1), 3);
        feed(x, "goal 0;");
        due("read() with a FAULT", x.read(), 5);
        due("count(5)", x.count(5), 1);
    }
}
