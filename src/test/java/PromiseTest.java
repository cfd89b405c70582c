/** Each promise of the document: ordinary inputs, the edges it names, wrong inputs. Draws are worked out by hand. */
public final class PromiseTest extends Checks {
    public static void main(String[] args) {
        p1();
        p2p3();
        p4Lexis();
        p4Grammar();
        p4Room();
        p4TwiceAndWrong();
        p4InPlace();
        laws();
        p6p7();
        p8();
        mutiny();
        ends();
        overAtOnce();
        p9();
        p10();
        p11();
        p12();
        p13p14();
        p15p16p17();
        p18p19();
        p20p21p22();
        p23p24();
        p25p26();
        p27p28();
        p29p30();
        p31p32p33();
        p34p35();
        p36();
        p37p38();
        p39();
        extremes();
        finish("all promises hold");
    }

    private static String times(int n, String s) { return s.repeat(n); }

    private static void p1() {
        promise = 1;
        StrawWatch x = new StrawWatch();
        due("NONE", StrawWatch.NONE, -1);
        int[] counts = {0, 60, 0, 0, 0, 0, 0, 0, 0, 0, -2, 1};
        for (int i = 0; i < counts.length; i++) due("count(" + i + ")", x.count(i), counts[i]);
        int[] ship = {0, 20, 99, 50, 0, 999, 0, 0, 2, 0};
        for (int i = 0; i < ship.length; i++) due("ship(" + i + ")", x.ship(i), ship[i]);
        for (int i = 0; i < 4; i++) due("post(" + i + ")", x.post(i), -2);
        due("place()", x.place(), -1);
        no("undo()", x.undo());
        no("restore(0)", x.restore(0));
        due("handy(0)", x.handy(0), -2);
        due("roster(3)", x.roster(3), -2);
        due("broom()", x.broom(), 9999);
        due("watches(60)", x.watches(60), 20);
        due("count(10): nobody is captain, nobody MARRIED", x.count(10), -2);
        due("ship(6)", x.ship(6), 1);
    }

    private static void p2p3() {
        promise = 2;
        StrawWatch x = new StrawWatch();
        for (int i = 1; i <= 100; i++) due("feed", x.feed(538976288, 538976288, 538976288, 538976288, 538976288), 20 * i);
        due("feed of a full tape", x.feed(0, 0, 0, 0, 0), -1);
        due("count(2)", x.count(2), 2000);
        promise = 3;
        due("back(-1)", x.back(-1), -1);
        due("back(2001)", x.back(2001), -1);
        due("back(0)", x.back(0), 2000);
        due("back(19)", x.back(19), 1981);
        promise = 2;
        due("feed with no room for twenty", x.feed(0, 0, 0, 0, 0), -1);
        due("count(2)", x.count(2), 1981);
        promise = 3;
        due("back(1)", x.back(1), 1980);
        promise = 2;
        due("feed that just fits", x.feed(538976288, 538976288, 538976288, 538976288, 538976288), 2000);
        promise = 3;
        due("back(2000)", x.back(2000), 0);
        due("back(1) of nothing", x.back(1), -1);
        promise = 2;
        // "goal 123; broom 4567", the highest byte of a first
        due("feed", x.feed(0x676f616c, 0x20313233, 0x3b206272, 0x6f6f6d20, 0x34353637), 20);
        due("feed", x.feed(0x3b202020, 538976288, 538976288, 538976288, 538976288), 40);
        due("read()", x.read(), 0);
        due("count(1)", x.count(1), 123);
        due("ship(5)", x.ship(5), 4567);
        due("the tape is empty", x.count(2), 0);
    }

    private static void p4Lexis() {
        promise = 4;
        good("");
        good(" \t\r\n");
        good("goal\t7\r;\n");
        good("goal7;broom0;");
        good("man abcdefgh0 0 0 0 0;");
        good("man manx 0001 2 3 4 5;");
        fault("man abcdefghi 0 0 0 0 0;", 1, 4);
        fault("goal 00007;", 1, 5);
        fault("goal 12345", 1, 5);
        fault("Goal 7;", 1, 0);
        fault("goal 7;.", 1, 7);
        fault("goal 7;\u000b", 1, 7);
        fault("goal 7;\u0000", 1, 7);
        fault("goal 7;\u00e9", 1, 7);
        fault("goal 7; \u00bb", 1, 8);
        fault("goals 7;", 1, 0);
        fault("man man 0 0 0 0 0;", 1, 4);
        fault("man near 0 0 0 0 0;", 1, 4);
        fault("man if 0 0 0 0 0;", 1, 4);
        fault("man a 1 2 3 4 5 ", 1, 16);
        fault("goal 7 \n", 1, 8);
    }

    private static void p4Grammar() {
        promise = 4;
        good("wind = 1; wind=if watch<3 then 4 else if league<(2)then 5 else 6*(7-8)/9;");
        good("runs = watch+league-skill*helm/look+cook-sail*blows/near;");
        good("danger=((((((1))))))+((((((2))))));");
        fault(";", 1, 0);
        fault("x", 1, 0);
        fault("if", 1, 0);
        fault("watch = 1;", 1, 0);
        fault("wind 1;", 1, 5);
        fault("wind = ;", 1, 7);
        fault("wind = - 1;", 1, 7);
        fault("wind = 1 2;", 1, 9);
        fault("wind = 1 <", 1, 9);
        fault("wind = (1;", 1, 9);
        fault("wind = 1);", 1, 8);
        fault("wind = ();", 1, 8);
        fault("wind = a;", 1, 7);
        fault("wind = then;", 1, 7);
        fault("wind = 1 +", 1, 10);
        fault("wind = if 1 then", 1, 12);
        fault("wind = if 1 < 2 else", 1, 16);
        fault("wind = if 1 < 2 then 3;", 1, 22);
        fault("wind = if 1 < 2 then if", 1, 21);
        fault("wind = (if 1 < 2 then 3 else 4);", 1, 8);
        fault("wind = 1 + if 1 < 2 then 3 else 4;", 1, 11);
        fault("ship 1 2;", 1, 8);
        fault("ship 1 2 3 4;", 1, 11);
        fault("goal x;", 1, 5);
        fault("seed -1;", 1, 5);
        fault("man 1 2 3 4 5 6;", 1, 4);
        fault("man a 2 3 4 5;", 1, 13);
        fault("broom", 1, 5);
    }

    private static void p4Room() {
        promise = 4;
        // 133 times 3 tokens and 1: 400.
        String most = times(133, "goal 7;") + "seed";
        fault(most, 1, most.length());
        fault(most + " 5", 2, most.length() + 1);
        fault(most + " ;", 1, most.length() + 1);
        fault(most + " x", 1, most.length() + 1);
        fault(most + " 12345", 1, most.length() + 1);
        good("wind=" + "1+".repeat(198) + "1;");
        fault("wind=" + "1+".repeat(199) + "1;", 2, 5 + 398);
        good("wind=" + "1+".repeat(3) + "1;" + times(130, "seed 1;"));
        String six = times(1, "man a 0 0 0 0 0;man b 0 0 0 0 0;man c 0 0 0 0 0;man d 0 0 0 0 0;man e 0 0 0 0 0;man f 0 0 0 0 0;");
        good(six);
        fault(six + " man g 0 0 0 0 0;", 2, six.length() + 1);
        fault(six + " man ;", 2, six.length() + 1);
        fault(six + " mab ;", 1, six.length() + 1);
        String ifs = "wind = if 1 < 2 then 3 else if 1 < 2 then 3 else if 1 < 2 then 3 else if 1 < 2 then 3 else ";
        good(ifs + "4;" + ifs + "5;");
        fault(ifs + "if 1 < 2 then 3 else 4;", 2, ifs.length());
        fault(ifs + "4; " + ifs + "if", 2, ifs.length() + 3 + ifs.length());
        fault("wind = (((((((1)))))));", 2, 13);
        fault("wind = ((((((1+(", 2, 15);
        fault("wind = ((((((1(", 1, 14);
        good("wind = ((((((1))))))+(((((2)))));");
        fault("ship 0 0 0; wind = (((((((", 2, 25);
        good("wind = if ((((((1)))))) < ((((((2)))))) then ((((((3)))))) else ((((((4))))));");
        fault("wind = if (((((((1", 2, 16);
        fault("wind = if 1 < (((((((1", 2, 20);
        fault("wind = if 1 < 2 then (((((((1", 2, 27);
    }

    private static void p4TwiceAndWrong() {
        promise = 4;
        fault("man a 0 0 0 0 0; man a 0 0 0 0 0;", 3, 21);
        fault("man a 0 0 0 0 0; man a 0 0 0 0 10;", 3, 21);
        fault("man a 0 0 0 0 10; man a 0 0 0 0 0;", 5, 14);
        fault("man a 0 0 0 0 0; man a 0 0 0 0 0; x", 1, 34);
        good("man a 9 9 9 9 9; man b 9 9 9 9 9; man aa 0 0 0 0 0;");
        good("man ab 0 0 0 0 0; man ba 0 0 0 0 0; man b 0 0 0 0 0; man za 0 0 0 0 0; man az 0 0 0 0 0; man aaz 0 0 0 0 0;");
        good("man zzzzzzzz 0 0 0 0 0; man zzzzzzzy 0 0 0 0 0; man azzzzzzz 0 0 0 0 0; man bzzzzzzz 0 0 0 0 0; man zzzzzzz 0 0 0 0 0;");
        fault("man zzzzzzzz 0 0 0 0 0; man zzzzzzzz 0 0 0 0 0;", 3, 28);
        fault("man a 0 0 0 10 0;", 5, 12);
        fault("man a 0 9999 0 0 0;", 5, 8);
        fault("ship 0 0 0;", 5, 5);
        good("ship 1 0 0;");
        good("ship 99 999 99;");
        fault("ship 100 0 0;", 5, 5);
        fault("ship 99 1000 99;", 5, 8);
        fault("ship 99 999 100;", 5, 12);
        fault("goal 0;", 5, 5);
        good("goal 1;");
        good("goal 999;");
        fault("goal 1000; goal 7;", 5, 5);
        good("broom 9999; seed 9999;");
        good("broom 0; seed 0;");
        good("wind = 9999;");
        fault("goal 0; ship 1 1 1", 1, 18);
    }

    private static void p4InPlace() {
        promise = 4;
        StrawWatch x = with(FIVE + "ship 9 8 7; ship 30 40 50; goal 500; goal 300; broom 4; broom 50; wind = 3; wind = 4;");
        due("goal: the last one", x.count(1), 300);
        due("ship(1): the last one", x.ship(1), 30);
        due("ship(5): the last one", x.ship(5), 50);
        due("ship(8): the last one", x.ship(8), 4);
        x.hide(2, true);
        x.watches(3);
        x.hold(1);
        x.tell(4);
        x.log(3, 12);
        feed(x, "goal 0;");
        due("read() with a fault", x.read(), 5);
        due("the tape is empty", x.count(2), 0);
        promise = 5;
        due("place()", x.place(), 5);
        promise = 4;
        due("count(0) stays", x.count(0), 5);
        due("ship(7) stays", x.ship(7), 3);
        due("count(3) stays", x.count(3), 2);
        due("count(4) stays", x.count(4), 1);
        due("count(6) stays", x.count(6), 1);
        feed(x, "man z 1 1 1 1 1;");
        due("read()", x.read(), 0);
        promise = 5;
        due("place()", x.place(), -1);
        promise = 4;
        int[] counts = {1, 60, 0, 0, 0, 1, 0, 0, 1, 0, -2, 1};
        for (int i = 0; i < counts.length; i++) due("count(" + i + ") anew", x.count(i), counts[i]);
        int[] ship = {0, 20, 99, 50, 0, 999, 0, 0, 2, 0};
        for (int i = 0; i < ship.length; i++) due("ship(" + i + ") anew", x.ship(i), ship[i]);
        due("post(0) anew", x.post(0), -2);
        due("man(0, 7) anew", x.man(0, 7), 0);
        no("undo() anew", x.undo());
        no("restore(1) anew", x.restore(1));
    }

    private static int wind(String law) { return with("wind = " + law + ";").ship(8); }

    private static void laws() {
        promise = 8;
        due("first if", wind("if 1 < 2 then 3 else if 1 < 2 then 4 else 5"), 3);
        due("second if", wind("if 2 < 2 then 3 else if 1 < 2 then 4 else 5"), 4);
        due("else", wind("if 2 < 2 then 3 else if 3 < 2 then 4 else 5"), 5);
        due("held below", wind("0 - 5"), 0);
        due("held above", wind("10"), 9);
        due("from the left", wind("9 - 3 - 2"), 4);
        due("from the left", wind("24 / 4 / 3"), 2);
        due("parts ahead", wind("1 + 2 * 3"), 7);
        due("brackets", wind("(1 + 2) * 3"), 9);
        due("rounded towards 0", wind("(0 - 7) / 2 + 5"), 2);
        due("rounded towards 0", wind("7 / (0 - 2) + 5"), 2);
        due("by 0: the law is 0", wind("5 + 1 / watch"), 0);
        due("by 0 in an if", wind("if 1 / watch < 2 then 5 else 6"), 0);
        due("by 0 behind '<'", wind("if 1 < 2 / league then 5 else 6"), 0);
        due("by 0 that is not looked at", wind("if 1 < 2 then 5 else 1 / 0"), 5);
        due("by 0 that is not looked at", wind("if 3 < 2 then 1 / 0 else 6"), 6);
        due("by 0 behind an if that holds", wind("if 1 < 2 then 5 else if 1 / 0 < 2 then 7 else 8"), 5);
        due("0 times by 0", wind("0 * (1 / 0) + 5"), 0);
        // 65536 * 65536 is 0 in 32 bits; 65536 * 32768 the least int
        due("wraps", wind("256 * 256 * 256 * 256 + 6"), 6);
        due("wraps", wind("if 256 * 256 * 256 * 128 < 0 then 7 else 8"), 7);
        due("the least int by -1", wind("if 256 * 256 * 256 * 128 / (0 - 1) < 0 then 3 else 4"), 3);
        due("vars not told are 0", wind("5 + skill + helm + look + cook + sail + blows + near"), 5);
        StrawWatch x = with("man a 1 1 1 1 0; wind = 3; danger = 7 + blows + near; eats = blows + near + sail + helm + look + 5;"
            + "moods = blows + near + helm + look + 1; runs = look + cook + 2; strikes = cook + 1; orders = helm + look + cook + sail + 2;");
        due("danger sees no wind", x.ship(9), 7);
        due("ORDERS sees no posts", x.stand(0, -1, -1, -1), 2);
        x = with("man a 1 2 3 4 0; man b 2 3 4 5 0; man c 3 4 5 6 0; man d 4 5 6 7 0; wind = 3; danger = 4; eats = blows + near + sail + helm + look + 5;"
            + "moods = blows + near + helm + look + 1; runs = look + cook + 2; strikes = cook + 1;");
        due("stand", x.stand(0, 1, 2, 3), 1);
        due("RUNS sees no look nor cook", x.ship(0), 2);
        due("STRIKES see no cook", x.ship(1), 19);
        due("EATS see cook and skill alone", x.ship(2), 94);
        due("MOODS see cook, sail, skill alone", x.ship(3), 51);
        x = with("man a 1 2 3 4 0; man b 2 3 4 5 0; man c 3 4 5 6 0; man d 4 5 6 7 0; wind = 3; danger = 4;"
            + "runs = sail + blows + near + helm + skill; strikes = sail + look - helm / 2 + blows / 3; eats = cook * 2 + skill; moods = 0 - cook + sail * 2 + skill * 2;");
        due("stand", x.stand(0, 1, 2, 3), 1);
        due("RUNS", x.ship(0), 1 + 3 + 4 + 3 + 1);
        due("STRIKES", x.ship(1), 20 - (1 + 5 - 1 + 1));
        due("EATS", x.ship(2), 99 - 15);
        due("MOODS", x.ship(3), 50 - 7 + 2 + 2);
    }

    private static void p6p7() {
        promise = 6;
        StrawWatch x = with(FIVE);
        int[] dot = {0, 9, 8, 7, 0, 0, -2, 0, 0};
        for (int what = 0; what < 9; what++) due("man(3, " + what + ")", x.man(3, what), dot[what]);
        due("man(4, 4)", x.man(4, 4), 9);
        due("man(0, 9)", x.man(0, 9), -1);
        due("man(0, -1)", x.man(0, -1), -1);
        due("man(5, 0)", x.man(5, 0), -1);
        due("man(-1, 0)", x.man(-1, 0), -1);
        promise = 7;
        due("post(0) ahead", x.post(0), -2);
        due("watches(1)", x.watches(1), 1);
        int[] first = {2, 0, 3, 4};
        for (int p = 0; p < 4; p++) due("post(" + p + ")", x.post(p), first[p]);
        due("post(-1)", x.post(-1), -1);
        due("post(4)", x.post(4), -1);
        promise = 6;
        due("man(1, 6): not drawn", x.man(1, 6), -2);
        due("man(4, 6)", x.man(4, 6), 3);
        due("man(2, 6)", x.man(2, 6), 0);
        x.watches(2);
        due("man(2, 7)", x.man(2, 7), 2);
        due("man(4, 7)", x.man(4, 7), 1);
        due("man(0, 7)", x.man(0, 7), 0);
        x = with(FIVE + "goal 3;");
        x.watches(9);
        due("man(2, 8): MARRIED at GOAL", x.man(2, 8), 1);
        due("man(0, 8)", x.man(0, 8), 0);
    }

    private static void p8() {
        promise = 8;
        StrawWatch x = with("man a 0 0 0 0 0; man b 0 0 0 0 0; wind = watch + 1; danger = league / 2; ship 9 30 40; goal 50; broom 5; eats = 2; moods = 3; strikes = 1;");
        int[] begin = {0, 9, 30, 40, 0, 5, 0, 0, 1, 0};
        for (int i = 0; i < 10; i++) due("ship(" + i + ")", x.ship(i), begin[i]);
        due("watches(1)", x.watches(1), 1);
        int[] next = {2, 8, 28, 43, 0, 3, 0, 1, 2, 1};
        for (int i = 0; i < 10; i++) due("ship(" + i + ")", x.ship(i), next[i]);
        int captain = x.post(0), helm = x.post(1);
        x.watches(1);
        due("straws left", x.ship(5), 1);
        captain = x.post(0);
        helm = x.post(1);
        x.watches(3);
        due("straws left: too few", x.ship(5), 1);
        due("without STRAWS POSTS stay", x.post(0), captain);
        due("without STRAWS POSTS stay", x.post(1), helm);
        due("captain so far", x.man(captain, 7) + x.man(1 - captain, 7), 5);
        due("ship(10)", x.ship(10), -1);
        due("ship(-1)", x.ship(-1), -1);
        x = with("runs = 0 - 50; moods = 99; ship 5 50 95;");
        x.watches(1);
        due("LEAGUE 0 at least", x.ship(0), 0);
        due("MOOD 99 at most", x.ship(3), 99);
        x = with("runs = 50; strikes = 50; eats = 500; moods = 0 - 500; ship 99 999 99;");
        x.watches(1);
        due("RUNS held to 19", x.ship(0), 19);
        due("STRIKES held to 9", x.ship(1), 90);
        due("EATS held to 99", x.ship(2), 900);
        due("MOODS held to -9", x.ship(3), 90);
        x = with("runs = league - 5; orders = 0 - 1; wind = 9;");
        due("ORDERS below 0", x.stand(-1, -1, -1, -1), 0);
        due("all by how it was as the watch began", x.ship(0), 0);
        x = with("orders = 7; runs = 3; strikes = league; eats = league + 1; goal 9; ship 9 9 9;");
        due("ORDERS by 4", x.stand(-1, -1, -1, -1), 3);
        due("strikes by the LEAGUE ahead", x.ship(1), 9);
        x.watches(1);
        due("strikes by the LEAGUE ahead", x.ship(1), 6);
        due("eats by the LEAGUE ahead", x.ship(2), 4);
    }

    private static void mutiny() {
        promise = 8;
        StrawWatch x = with("orders = 3; runs = sail; moods = 0 - 5; ship 9 90 10; goal 200;");
        x.watches(1);
        due("no mutiny at MOOD 5", x.ship(4), 0);
        x.watches(1);
        due("a mutiny for 4", x.ship(4), 4);
        due("LEAGUE", x.ship(0), 6);
        due("one mutiny", x.count(9), 1);
        due("SAIL in a mutiny", x.stand(-1, -1, -1, -1), 0);
        due("3 more", x.ship(4), 3);
        due("no sail", x.ship(0), 6);
        x.watches(2);
        due("1 more", x.ship(4), 1);
        x.watches(1);
        due("it ends, and another begins", x.ship(4), 4);
        due("two mutinies", x.count(9), 2);
        x = with("orders = 3; moods = if watch < 1 then 0 - 9 else 1; ship 9 90 9;");
        x.watches(1);
        due("a mutiny", x.ship(4), 4);
        x.watches(4);
        due("it is over", x.ship(4), 0);
        due("SAIL again", x.stand(-1, -1, -1, -1), 3);
        x = with("ship 9 90 0;");
        due("none as the text is read", x.ship(4), 0);
        due("SAIL", x.stand(-1, -1, -1, -1), 1);
        due("one behind the watch", x.ship(4), 4);
        x = with("ship 9 90 0; goal 1;");
        x.watches(1);
        due("one begins with the voyage's end too", x.ship(4), 4);
        due("over", x.ship(6), 1);
    }

    private static void ends() {
        promise = 8;
        StrawWatch x = with("goal 6; strikes = 9; eats = 99; ship 18 198 50; runs = 3;");
        x.watches(9);
        due("GOAL is ahead of WRECKED and STARVED", x.ship(6), 1);
        due("HULL 0", x.ship(1), 0);
        due("FOOD 0", x.ship(2), 0);
        x = with("strikes = 9; eats = 99; ship 17 100 50;");
        x.watches(9);
        due("WRECKED is ahead of STARVED", x.ship(6), 2);
        due("HULL 0 at least", x.ship(1), 0);
        x = with("eats = 99; ship 17 100 50;");
        x.watches(9);
        due("STARVED", x.ship(6), 3);
        due("two watches", x.ship(7), 2);
        x = with("man a 1 1 1 1 0; goal 19; runs = 30;");
        x.watches(1);
        due("who is captain then is MARRIED", x.count(10), 0);
        due("no further than GOAL", x.ship(0), 19);
        x = with("man a 1 1 1 1 0; goal 5; runs = 30;");
        x.watches(1);
        due("no further than GOAL", x.ship(0), 5);
        x = with("man a 1 1 1 1 0; strikes = 9; ship 9 9 9;");
        x.watches(1);
        due("nobody is MARRIED by a wreck", x.count(10), -2);
    }

    /** What a voyage that is over means in each promise, where a text tells FOOD 0. */
    private static void overAtOnce() {
        promise = 8;
        StrawWatch x = with(FIVE + "ship 5 0 0; eats = 0; strikes = 9; runs = 9; goal 9;");
        due("FOOD 0: STARVED", x.ship(6), 3);
        due("watch 0", x.ship(7), 0);
        due("no mutiny", x.ship(4), 0);
        due("nobody at a POST", x.post(0), -2);
        due("nobody is MARRIED", x.count(10), -2);
        promise = 10;
        due("stand(0, 1, 2, 3)", x.stand(0, 1, 2, 3), -2);
        promise = 11;
        due("watches(1)", x.watches(1), -2);
        due("watches(0)", x.watches(0), -2);
        due("nothing happened", x.ship(0) + x.count(3), 0);
        promise = 12;
        yes("hide(0, true)", x.hide(0, true));
        yes("undo()", x.undo());
        due("STARVED still", x.ship(6), 3);
        promise = 18;
        due("safest(2, 1)", x.safest(2, 1), 0);
        promise = 19;
        fraction("safe(2): HULL stays as it is", x.safe(2, false), x.safe(2, true), 1, 1);
        promise = 23;
        due("then(7, 6)", x.then(7, 6), 3);
        due("then(7, 7)", x.then(7, 7), 0);
        promise = 24;
        for (int man = 0; man < 5; man++) due("often", x.often(man, 0, 9), 0);
        promise = 25;
        due("ends(0)", x.ends(0), 0);
        due("ends(1)", x.ends(1), 3);
        promise = 26;
        due("steady(2, 0)", x.steady(2, 0), 0);
        due("steady(2, 1)", x.steady(2, 1), 3);
        promise = 27;
        due("spared(0, 9)", x.spared(0, 9), 0);
        promise = 29;
        due("year(1, 4)", x.year(1, 4), 0);
        due("year(3, 4)", x.year(3, 4), 4);
        promise = 30;
        for (int man = 0; man < 5; man++) due("weds", x.weds(man, 4), 0);
        promise = 38;
        yes("hold(1)", x.hold(1));
        yes("restore(1)", x.restore(1));
        due("STARVED as it was held", x.ship(6), 3);
        promise = 4;
        feed(x, "ship 5 1 0;");
        x.read();
        due("one FOOD: not over", x.ship(6), 0);
        due("one watch", x.watches(9), 1);
        due("STARVED behind it", x.ship(6), 3);
    }

    private static void p9() {
        promise = 9;
        StrawWatch x = with(FIVE);
        no("hide(5, true)", x.hide(5, true));
        no("hide(-1, true)", x.hide(-1, true));
        no("hide(2, false): it is so", x.hide(2, false));
        yes("hide(2, true)", x.hide(2, true));
        no("hide(2, true): it is so", x.hide(2, true));
        due("man(2, 5)", x.man(2, 5), 1);
        due("count(7)", x.count(7), 4);
        due("two things done, no: one", x.count(3), 1);
        yes("hide(1, true)", x.hide(1, true));
        x.watches(1);
        due("post(0): changed with the helm", x.post(0), 0);
        due("post(1)", x.post(1), 2);
        due("man(2, 4): 1 less", x.man(2, 4), 1);
        due("man(2, 7)", x.man(2, 7), 0);
        due("man(0, 7)", x.man(0, 7), 1);
        x.watches(1);
        due("post(0): again", x.post(0), 1);
        due("man(2, 4): none left", x.man(2, 4), 0);
        due("man(1, 4): one at the helm who hides does not change back", x.man(1, 4), 0);
        yes("hide(4, true)", x.hide(4, true));
        yes("hide(4, false)", x.hide(4, false));
        x.watches(1);
        due("post(0): he does not hide any more", x.post(0), 4);
        yes("hide(0, true)", x.hide(0, true));
        x.watches(1);
        due("post(0): draw 0341, he hides", x.post(0), 3);
        due("post(1)", x.post(1), 0);
        due("man(0, 4)", x.man(0, 4), 0);
        x = with(FIVE.replace("c 3 3 3 3 2", "c 3 3 3 3 0"));
        yes("hide(2, true)", x.hide(2, true));
        x.watches(1);
        due("no straw up the SLEEVE", x.post(0), 2);
        x = with("man a 1 1 1 1 5;");
        yes("hide(0, true)", x.hide(0, true));
        x.watches(1);
        due("nobody at the helm", x.post(0), 0);
        due("none is used", x.man(0, 4), 5);
        x = with("man a 1 1 1 1 5; goal 1;");
        x.watches(1);
        yes("hide when it is over", x.hide(0, true));
    }

    private static void p10() {
        promise = 10;
        StrawWatch x = with(FIVE + "orders = skill; goal 9;");
        x.hide(1, true);
        due("stand(1, 1, 2, 3)", x.stand(1, 1, 2, 3), -1);
        due("stand(1, 2, 3, 1)", x.stand(1, 2, 3, 1), -1);
        due("stand(0, 2, 2, 1)", x.stand(0, 2, 2, 1), -1);
        due("stand(0, 1, 3, 3)", x.stand(0, 1, 3, 3), -1);
        due("stand(0, 1, 2, 5)", x.stand(0, 1, 2, 5), -1);
        due("stand(-2, 1, 2, 3)", x.stand(-2, 1, 2, 3), -1);
        due("nothing happened", x.ship(7), 0);
        due("no thing done but hide", x.count(3), 1);
        due("stand(1, 4, -1, 2)", x.stand(1, 4, -1, 2), 1);
        due("post(0): nobody hides", x.post(0), 1);
        due("post(1)", x.post(1), 4);
        due("post(2)", x.post(2), -2);
        due("post(3)", x.post(3), 2);
        due("no straws are drawn", x.ship(5), 999);
        due("man(1, 7)", x.man(1, 7), 1);
        due("ship(0)", x.ship(0), 3);
        due("stand(-1, -1, -1, -1)", x.stand(-1, -1, -1, -1), 0);
        due("stand(2, ..)", x.stand(2, -1, -1, 0), 3);
        due("over", x.ship(6), 1);
        due("MARRIED", x.count(10), 2);
        due("stand when over", x.stand(0, 1, 2, 3), -2);
        due("nothing happened", x.ship(7), 3);
        due("things done", x.count(3), 4);
    }

    private static void p11() {
        promise = 11;
        StrawWatch x = with(FIVE + "broom 12; goal 200;");
        due("watches(-1)", x.watches(-1), -1);
        due("watches(61)", x.watches(61), -1);
        due("watches(0)", x.watches(0), 0);
        due("0 is no thing done", x.count(3), 0);
        due("watches(3)", x.watches(3), 3);
        due("one thing done", x.count(3), 1);
        due("straws", x.ship(5), 2);
        due("the second draw stays: 2134", x.post(1), 1);
        due("watches(60)", x.watches(60), 60);
        due("watches(60)", x.watches(60), 4);
        due("over at GOAL", x.ship(6), 1);
        due("watches(1) when over", x.watches(1), -2);
        due("watches(0) when over", x.watches(0), -2);
        due("things done", x.count(3), 3);
        x = with("man a 1 1 1 1 0; man b 1 1 1 1 0; seed 9999;");
        x.watches(1);
        due("two men: 10..", x.post(0), 1);
        due("two men: nobody at the lookout", x.post(2), -2);
        x = with("man a 1 1 1 1 0; man b 1 1 1 1 0; man c 1 1 1 1 0; goal 900;");
        int[] captains = {2, 1, 0, 1, 1, 1, 2, 2};
        for (int w = 0; w < 8; w++) {
            x.watches(1);
            due("captain of watch " + w, x.post(0), captains[w]);
        }
        due("the third at the lookout", x.post(2), 0);
        due("nobody is cook", x.post(3), -2);
        x = with("man a 1 1 1 1 0; man b 1 1 1 1 0; man c 1 1 1 1 0; man d 1 1 1 1 0; man e 1 1 1 1 0; man f 1 1 1 1 0; seed 42; goal 900;");
        x.watches(7);
        int[] seventh = {4, 5, 2, 1};
        for (int p = 0; p < 4; p++) due("six men, watch 6, post " + p, x.post(p), seventh[p]);
    }

    private static void p12() {
        promise = 12;
        StrawWatch x = with(FIVE + "goal 999;");
        no("undo()", x.undo());
        x.hide(0, true);
        x.watches(5);
        x.stand(0, 1, 2, 3);
        x.tell(1);
        x.log(1, 1);
        yes("undo()", x.undo());
        due("ship(7)", x.ship(7), 5);
        due("TOLD is not undone", x.count(4), 1);
        due("LOGGED is not undone", x.count(5), 1);
        yes("undo()", x.undo());
        due("ship(7)", x.ship(7), 0);
        due("post(0)", x.post(0), -2);
        due("man(2, 7)", x.man(2, 7), 0);
        due("man(0, 4)", x.man(0, 4), 1);
        due("count(7)", x.count(7), 1);
        yes("undo()", x.undo());
        due("count(7)", x.count(7), 0);
        no("undo()", x.undo());
        for (int i = 0; i < 45; i++) x.watches(1);
        due("the last 40 can be", x.count(3), 40);
        for (int i = 0; i < 40; i++) yes("undo()", x.undo());
        no("undo()", x.undo());
        due("ship(7)", x.ship(7), 5);
        x = with("goal 1;");
        x.watches(1);
        yes("undo()", x.undo());
        due("not over", x.ship(6), 0);
    }

    private static void p13p14() {
        promise = 13;
        StrawWatch x = with(FIVE + "orders = skill + blows * 10 + near * 100; wind = watch; danger = watch / 2;");
        fraction("likely(0, 0)", x.likely(0, 0, false), x.likely(0, 0, true), 1, 5);
        fraction("likely(4, 3)", x.likely(4, 3, false), x.likely(4, 3, true), 1, 5);
        due("likely(5, 0)", x.likely(5, 0, false), -1);
        due("likely(-1, 0)", x.likely(-1, 0, true), -1);
        due("likely(0, 4)", x.likely(0, 4, true), -1);
        due("likely(0, -1)", x.likely(0, -1, true), -1);
        promise = 14;
        due("orders(0)", x.orders(0), 1);
        due("orders(1)", x.orders(1), 1);
        due("orders(2)", x.orders(2), 3);
        due("orders(5)", x.orders(5), -1);
        due("orders(-1)", x.orders(-1), -1);
        x.watches(1);
        due("orders(2): 3 + 10", x.orders(2), 1);
        x.watches(1);
        due("orders(2): 3 + 20 + 100", x.orders(2), 3);
        promise = 13;
        x = with("man a 1 1 1 1 0; man b 1 1 1 1 0;");
        fraction("likely(1, 1)", x.likely(1, 1, false), x.likely(1, 1, true), 1, 2);
        fraction("likely(1, 2)", x.likely(1, 2, false), x.likely(1, 2, true), 0, 1);
        promise = 14;
        x = with("man a 1 1 1 1 0; ship 5 5 0; orders = 2;");
        x.watches(1);
        due("a mutiny", x.ship(4), 4);
        due("orders(0), no mutiny", x.orders(0), 2);
    }

    private static void p15p16p17() {
        promise = 15;
        StrawWatch x = with("man a 1 9 1 4 0; man b 3 0 2 1 0; wind = 3; danger = 2; orders = skill;"
            + "runs = sail * 2 - helm; strikes = near + sail - helm / 4; eats = skill * 5; moods = 0 - sail - skill;");
        // two draws: a captain, b at the helm; b captain, a at the helm
        fraction("mean(0, -1)", x.mean(0, -1, false), x.mean(0, -1, true), -1, 2);
        fraction("mean(0, 0)", x.mean(0, 0, false), x.mean(0, 0, true), -9, 2);
        fraction("mean(0, 3)", x.mean(0, 3, false), x.mean(0, 3, true), 3, 2);
        fraction("mean(1, -1)", x.mean(1, -1, false), x.mean(1, -1, true), 3, 1);
        fraction("mean(2, -1)", x.mean(2, -1, false), x.mean(2, -1, true), 10, 1);
        fraction("mean(3, -1)", x.mean(3, -1, false), x.mean(3, -1, true), -4, 1);
        fraction("mean(3, 1)", x.mean(3, 1, false), x.mean(3, 1, true), -3, 1);
        due("mean(-1, 0)", x.mean(-1, 0, false), -100000);
        due("mean(4, 0)", x.mean(4, 0, true), -100000);
        due("mean(0, 4)", x.mean(0, 4, true), -100000);
        due("mean(0, -2)", x.mean(0, -2, true), -100000);
        promise = 16;
        due("most(0, -1, true)", x.most(0, -1, true), 2);
        due("most(0, -1, false)", x.most(0, -1, false), -3);
        due("most(0, 0, true)", x.most(0, 0, true), 0);
        due("most(0, 0, false)", x.most(0, 0, false), -9);
        due("most(1, 3, true)", x.most(1, 3, true), 5);
        due("most(1, 3, false)", x.most(1, 3, false), 3);
        due("most(2, 0, true)", x.most(2, 0, true), 15);
        due("most(3, -1, false)", x.most(3, -1, false), -6);
        due("most(4, 0)", x.most(4, 0, true), -100000);
        due("most(-1, 0)", x.most(-1, 0, true), -100000);
        due("most(0, 4)", x.most(0, 4, true), -100000);
        due("most(0, -2)", x.most(0, -2, true), -100000);
        promise = 17;
        fraction("risk(0, 1)", x.risk(0, 1, false), x.risk(0, 1, true), 1, 1);
        fraction("risk(4, 3)", x.risk(4, 3, false), x.risk(4, 3, true), 1, 2);
        fraction("risk(9, 3)", x.risk(9, 3, false), x.risk(9, 3, true), 0, 1);
        fraction("risk(3, -1)", x.risk(3, -1, false), x.risk(3, -1, true), 1, 1);
        fraction("risk(4, -1)", x.risk(4, -1, false), x.risk(4, -1, true), 0, 1);
        due("risk(-1, 0)", x.risk(-1, 0, false), -1);
        due("risk(10, 0)", x.risk(10, 0, false), -1);
        due("risk(0, 4)", x.risk(0, 4, false), -1);
        due("risk(0, -2)", x.risk(0, -2, false), -1);
        promise = 15;
        x = with("man a 1 1 1 1 0; ship 5 5 0; orders = 2; runs = sail; goal 40; broom 1;");
        x.watches(1);
        due("mean(0, -1): no mutiny", x.mean(0, -1, false), 2);
        x = with("runs = 15; goal 10;");
        due("mean(0, 0) is what the law says, beyond GOAL too", x.mean(0, 0, false), 15);
    }

    private static void p18p19() {
        promise = 18;
        // Strikes: 4 less the sail, and 1 more with b as captain; at league 0 only; hull 4.
        StrawWatch x = with("man a 0 0 0 0 0; man b 1 0 0 0 0; ship 4 50 50; strikes = 4 - sail + skill; runs = 1;");
        due("safest(1, 0)", x.safest(1, 0), 2);
        promise = 19;
        fraction("safe(1)", x.safe(1, false), x.safe(1, true), 1, 1);
        promise = 18;
        due("safest(2, 0)", x.safest(2, 0), 3);
        due("safest(2, 1)", x.safest(2, 1), 3);
        promise = 19;
        // By 3 and 3: 1 or 2, and 1 or 2: only both 2 wreck her.
        fraction("safe(2)", x.safe(2, false), x.safe(2, true), 3, 4);
        promise = 18;
        due("safest(0, 0)", x.safest(0, 0), -1);
        due("safest(3, 0)", x.safest(3, 0), -1);
        due("safest(1, 1)", x.safest(1, 1), -1);
        due("safest(2, 2)", x.safest(2, 2), -1);
        due("safest(2, -1)", x.safest(2, -1), -1);
        promise = 19;
        due("safe(0)", x.safe(0, true), -1);
        due("safe(3)", x.safe(3, true), -1);
        promise = 18;
        // At GOAL by sail 3 the second watch strikes no more.
        x = with("man a 0 0 0 0 0; man b 1 0 0 0 0; ship 4 50 50; strikes = 3; runs = sail; goal 3;");
        due("safest(2, 0)", x.safest(2, 0), 3);
        due("safest(2, 1)", x.safest(2, 1), 0);
        promise = 19;
        fraction("safe(2)", x.safe(2, false), x.safe(2, true), 1, 1);
        promise = 18;
        // STARVED with hull left: it stays as it is.
        x = with("ship 4 5 50; strikes = 3; eats = 5;");
        due("safest(2, 0)", x.safest(2, 0), 0);
        promise = 19;
        fraction("safe(2)", x.safe(2, false), x.safe(2, true), 1, 1);
        x = with("ship 4 6 50; strikes = 3; eats = 5;");
        fraction("safe(2)", x.safe(2, false), x.safe(2, true), 0, 1);
        // over ahead of the first
        x = with("ship 4 6 50; strikes = 3; goal 1;");
        x.watches(1);
        fraction("safe(1) at GOAL", x.safe(1, false), x.safe(1, true), 1, 1);
        fraction("safe(2) at GOAL", x.safe(2, false), x.safe(2, true), 1, 1);
        x = with("ship 4 60 50; strikes = 4 - watch * 9;");
        x.watches(1);
        fraction("safe(1) of a wreck", x.safe(1, false), x.safe(1, true), 0, 1);
        fraction("safe(2) of a wreck", x.safe(2, false), x.safe(2, true), 0, 1);
        promise = 18;
        due("safest(1, 0) of a wreck", x.safest(1, 0), 0);
        // The second watch is by where the first one's sail brings her.
        x = with("ship 5 60 50; strikes = if watch < 1 then 0 else if league < 4 then 9 else 6 - sail; runs = sail + 2;");
        due("safest(2, 0)", x.safest(2, 0), 2);
        due("safest(2, 1)", x.safest(2, 1), 2);
        x = with("ship 5 60 50; strikes = if watch < 1 then 0 else if watch < 2 then 2 + sail else 9; runs = 0 - 9;");
        due("the second watch is the next one", x.safest(2, 1), 0);
        promise = 19;
        fraction("safe(2)", x.safe(2, false), x.safe(2, true), 1, 1);
        x = with("ship 5 60 50; strikes = if 0 < league then 9 else 0; runs = 0 - 9;");
        fraction("safe(2): LEAGUE 0 at least", x.safe(2, false), x.safe(2, true), 1, 1);
        x = with("ship 5 60 50; strikes = 5; runs = 19; goal 19;");
        fraction("safe(2): HULL 0 at GOAL", x.safe(2, false), x.safe(2, true), 0, 1);
        fraction("safe(1): HULL 0 at GOAL", x.safe(1, false), x.safe(1, true), 0, 1);
        promise = 18;
        x = with("ship 9 90 0; strikes = if watch < 1 then 0 else 12 - 4 * sail;");
        x.watches(1);
        due("safest(1, 0): no mutiny", x.safest(1, 0), 1);
    }

    private static void p20p21p22() {
        promise = 20;
        StrawWatch x = with(FIVE);
        // b 5, d 9, e 6 or c 3, e 8: captain b, helm d, lookout c or a (3), cook e: 25
        due("roster(-1)", x.roster(-1), 25);
        due("roster(0)", x.roster(0), 1);
        due("roster(1)", x.roster(1), 3);
        due("roster(2): of alike ones the first", x.roster(2), 0);
        due("roster(3)", x.roster(3), 4);
        due("roster(4)", x.roster(4), -100);
        due("roster(-2)", x.roster(-2), -100);
        promise = 22;
        // means: (1+5+3+0+2 + 2+0+3+9+4 + 3+1+3+8+6 + 4+2+3+7+8) / 5 = 74 / 5
        fraction("better", x.better(false), x.better(true), 25 * 5 - 74, 5);
        promise = 21;
        due("handy(0)", x.handy(0), 1);
        due("handy(1)", x.handy(1), 3);
        due("handy(2)", x.handy(2), 3);
        due("handy(3)", x.handy(3), 4);
        due("handy(-1)", x.handy(-1), -1);
        due("handy(4)", x.handy(4), -1);
        due("handy(4) without MEN", new StrawWatch().handy(4), -1);
        due("handy(3) without MEN", new StrawWatch().handy(3), -2);
        x = with("man a 0 0 0 0 0; man b 0 5 0 0 0; man c 0 5 0 0 0;");
        due("handy(0): of alike ones the first", x.handy(0), 0);
        due("handy(1): of alike ones the first", x.handy(1), 1);
        promise = 20;
        due("roster(0)", x.roster(0), 0);
        due("roster(1)", x.roster(1), 1);
        due("roster(2)", x.roster(2), 2);
        due("roster(3): nobody", x.roster(3), -2);
        promise = 22;
        fraction("better", x.better(false), x.better(true), 5, 3);
    }

    private static void p23p24() {
        promise = 23;
        StrawWatch x = with(FIVE + "goal 30; wind = watch; danger = league; moods = 1;");
        x.hide(2, true);
        int[] wants = {6, 20, 96, 53, 0, 984, 0, 3, 3, 6};
        for (int what = 0; what < 10; what++) due("then(3, " + what + ")", x.then(3, what), wants[what]);
        due("then(0, 7)", x.then(0, 7), 0);
        due("then(200, 6)", x.then(200, 6), 1);
        due("then(200, 0)", x.then(200, 0), 30);
        due("then(201, 0)", x.then(201, 0), -1);
        due("then(-1, 0)", x.then(-1, 0), -1);
        due("then(1, 10)", x.then(1, 10), -1);
        due("then(1, -1)", x.then(1, -1), -1);
        due("nothing happened", x.ship(7), 0);
        due("nothing happened", x.man(2, 4), 2);
        promise = 24;
        // he hides in watches 0 and 1, and has no straw left
        due("often(2, 0, 5)", x.often(2, 0, 5), 0);
        due("often(2, 1, 5)", x.often(2, 1, 5), 3);
        due("often(0, 0, 1)", x.often(0, 0, 1), 1);
        due("often(4, 3, 2)", x.often(4, 3, 2), 2);
        due("often(4, 3, 0)", x.often(4, 3, 0), 0);
        due("often(5, 0, 1)", x.often(5, 0, 1), -1);
        due("often(-1, 0, 1)", x.often(-1, 0, 1), -1);
        due("often(0, 4, 1)", x.often(0, 4, 1), -1);
        due("often(0, -1, 1)", x.often(0, -1, 1), -1);
        due("often(0, 0, 201)", x.often(0, 0, 201), -1);
        due("often(0, 0, -1)", x.often(0, 0, -1), -1);
        x.watches(2);
        due("often(4, 0, 1): from now on", x.often(4, 0, 1), 1);
        due("often(4, 0, 3)", x.often(4, 0, 3), 2);
        x = with("man a 1 1 1 1 0; goal 900; ship 9 999 9;");
        due("often(0, 0, 200)", x.often(0, 0, 200), 200);
        x = with("man a 1 1 1 1 0; goal 7;");
        due("often(0, 0, 200): till it is over", x.often(0, 0, 200), 3);
    }

    private static void p25p26() {
        promise = 25;
        StrawWatch x = with("goal 600; ship 9 999 50; orders = 1;");
        due("ends(0)", x.ends(0), 200);
        due("ends(1)", x.ends(1), 1);
        due("ends(-1)", x.ends(-1), -1);
        due("ends(2)", x.ends(2), -1);
        promise = 26;
        due("steady(0, 0): not by then", x.steady(0, 0), -2);
        due("steady(0, 1): not by then", x.steady(0, 1), -2);
        due("steady(2, 0)", x.steady(2, 0), 150);
        due("steady(3, 0)", x.steady(3, 0), 120);
        due("steady(3, 1)", x.steady(3, 1), 1);
        due("steady(4, 0)", x.steady(4, 0), -1);
        due("steady(-1, 0)", x.steady(-1, 0), -1);
        due("steady(0, 2)", x.steady(0, 2), -1);
        due("steady(0, -1)", x.steady(0, -1), -1);
        promise = 25;
        x = with("goal 601; ship 9 999 50;");
        due("ends(0): not by then", x.ends(0), -2);
        due("ends(1): not by then", x.ends(1), -2);
        x = with("strikes = 2; ship 9 999 50;");
        due("ends(0)", x.ends(0), 5);
        due("ends(1)", x.ends(1), 2);
        x.watches(2);
        due("ends(0): from now on", x.ends(0), 3);
        x.watches(3);
        due("ends(0): over", x.ends(0), 0);
        due("ends(1): over", x.ends(1), 2);
        due("nothing happened", x.ship(7), 5);
        promise = 26;
        due("steady(1, 0): over", x.steady(1, 0), 0);
        x = with("wind = 0; goal 6; ship 9 99 9; moods = if watch < 1 then 0 - 9 else 9;");
        due("steady(3, 0): 0 in a mutiny", x.steady(3, 0), 6);
    }

    private static void p27p28() {
        promise = 27;
        StrawWatch x = with(FIVE + "goal 900;");
        // he is captain in watches 0 and 1, and has two straws
        due("spared(2, 1)", x.spared(2, 1), 1);
        due("spared(2, 2)", x.spared(2, 2), 2);
        due("spared(2, 0)", x.spared(2, 0), 0);
        due("spared(1, 200)", x.spared(1, 200), 0);
        due("spared(1, 2): nothing up the SLEEVE", x.spared(1, 2), 0);
        x.hide(2, true);
        due("spared(2, 2) when he hides already", x.spared(2, 2), 2);
        // the one at the helm of watch 0 is captain by it, whether he himself hides or not
        due("spared(0, 1)", x.spared(0, 1), 0);
        due("spared(5, 1)", x.spared(5, 1), -100000);
        due("spared(-1, 1)", x.spared(-1, 1), -100000);
        due("spared(0, -1)", x.spared(0, -1), -100000);
        due("spared(0, 201)", x.spared(0, 201), -100000);
        due("nothing happened", x.count(7), 4);
        // With a as captain she runs far, so that the voyage is over sooner, and he is captain less.
        x = with("man a 9 0 0 0 9; man b 0 0 0 0 0; seed 9999; broom 4; runs = if skill < 5 then 0 else 9; goal 9;");
        // draws 10, 01 and it stays: not hiding a is captain in watch 1 only: at GOAL.
        due("spared(0, 9)", x.spared(0, 9), 1);
        // Hiding at watch 1, b stays captain for ever; for b: if b hides (no straw) nothing changes.
        due("spared(1, 9)", x.spared(1, 9), 0);
        promise = 28;
        due("broom()", x.broom(), 2);
        x = with(FIVE + "broom 14;");
        due("broom()", x.broom(), 2);
        x.watches(1);
        due("broom()", x.broom(), 1);
        x.watches(2);
        due("broom()", x.broom(), 0);
        due("straws", x.ship(5), 4);
        due("broom() without MEN", with("broom 5;").broom(), 9999);
        due("broom() of 0", with("man a 0 0 0 0 0; broom 0;").broom(), 0);
    }

    private static void p29p30() {
        promise = 29;
        StrawWatch x = with("man a 9 0 0 0 0; man b 0 0 0 0 0; seed 9998; strikes = 9 - skill; ship 9 9 9; runs = skill; goal 9;");
        int goal = x.year(1, 20), wreck = x.year(2, 20);
        due("goal and wreck", goal + wreck, 20);
        due("year(1, 1) and year(2, 1)", x.year(1, 1) + x.year(2, 1), 1);
        due("year(3, 20)", x.year(3, 20), 0);
        // seed 9999: b is captain of watch 0
        due("year(2, 2) less year(2, 1)", x.year(2, 2) - x.year(2, 1), 1);
        due("year(0, 1)", x.year(0, 1), -1);
        due("year(4, 1)", x.year(4, 1), -1);
        due("year(1, 0)", x.year(1, 0), -1);
        due("year(1, 21)", x.year(1, 21), -1);
        promise = 30;
        due("weds(0, 20)", x.weds(0, 20), goal);
        due("weds(1, 20)", x.weds(1, 20), 0);
        due("weds(2, 1)", x.weds(2, 1), -1);
        due("weds(-1, 1)", x.weds(-1, 1), -1);
        due("weds(0, 0)", x.weds(0, 0), -1);
        due("weds(0, 21)", x.weds(0, 21), -1);
        promise = 29;
        x = with("goal 601; ship 9 999 50;");
        due("not within 200 watches", x.year(1, 3), 0);
        x = with("goal 600; ship 9 999 50;");
        due("within 200 watches", x.year(1, 3), 3);
        x = with("goal 900; ship 9 210 50;");
        due("from the beginning on she does not starve in 200", x.year(3, 2), 0);
        x.watches(10);
        due("from now on she does", x.year(3, 2), 2);
        x = with("man a 1 1 1 1 0; goal 2;");
        x.watches(1);
        due("over: in all of them", x.year(1, 7), 7);
        promise = 30;
        due("MARRIED: in all of them", x.weds(0, 7), 7);
    }

    private static void p31p32p33() {
        promise = 31;
        StrawWatch x = with("man a 0 0 0 0 0; man b 0 0 0 0 0; man c 0 0 0 0 0; man d 0 0 0 0 0; man e 0 0 0 0 0; man f 0 0 0 0 0;");
        due("tell(6)", x.tell(6), -1);
        due("tell(-1)", x.tell(-1), -1);
        for (int i = 0; i < 10; i++) due("tell", x.tell(i < 5 ? 0 : 1), i);
        due("tell: 10 are there", x.tell(0), -1);
        due("count(4)", x.count(4), 10);
        promise = 32;
        fraction("cheats(2, 0)", x.cheats(2, 0, false), x.cheats(2, 0, true), 1, 2);
        fraction("cheats(0, 0)", x.cheats(0, 0, false), x.cheats(0, 0, true), 1, 2);
        fraction("cheats(0, 1)", x.cheats(0, 1, false), x.cheats(0, 1, true), 0, 1);
        fraction("cheats(1, 5)", x.cheats(1, 5, false), x.cheats(1, 5, true), 7776, 7776 + 3125);
        fraction("cheats(1, 6)", x.cheats(1, 6, false), x.cheats(1, 6, true), 0, 1);
        fraction("cheats(2, 10)", x.cheats(2, 10, false), x.cheats(2, 10, true), 60466176, 60466176 + 9765625);
        due("cheats(2, 11)", x.cheats(2, 11, true), -1);
        due("cheats(2, -1)", x.cheats(2, -1, true), -1);
        due("cheats(6, 1)", x.cheats(6, 1, true), -1);
        due("cheats(-1, 1)", x.cheats(-1, 1, true), -1);
        promise = 33;
        due("surely(0)", x.surely(0), 0);
        due("surely(50)", x.surely(50), 0);
        due("surely(51)", x.surely(51), 1);
        due("surely(54): 6 by 11", x.surely(54), 1);
        due("surely(55): 36 by 61", x.surely(55), 2);
        due("surely(86)", x.surely(86), 10);
        due("surely(87): 60466176 by 70231801", x.surely(87), -2);
        due("surely(100)", x.surely(100), -2);
        due("surely(101)", x.surely(101), -1);
        due("surely(-1)", x.surely(-1), -1);
        due("surely(50) without MEN", new StrawWatch().surely(50), -1);
        x = with("man a 0 0 0 0 0; man b 0 0 0 0 0;");
        due("two men: surely(99)", x.surely(99), 7);
        due("two men: surely(80): 4 by 5", x.surely(80), 2);
        x = with("man a 0 0 0 0 0;");
        due("one man: surely(51)", x.surely(51), 1);
        due("one man: surely(100)", x.surely(100), 1);
        x.tell(0);
        promise = 32;
        fraction("one man: cheats(0, 1)", x.cheats(0, 1, false), x.cheats(0, 1, true), 0, 1);
        fraction("one man: cheats(0, 0)", x.cheats(0, 0, false), x.cheats(0, 0, true), 1, 2);
    }

    private static void p34p35() {
        promise = 34;
        StrawWatch x = with("goal 50;");
        due("log(-1, 0)", x.log(-1, 0), -1);
        due("log(61, 0)", x.log(61, 0), -1);
        due("log(0, -1)", x.log(0, -1), -1);
        due("log(0, 1000)", x.log(0, 1000), -1);
        due("log(3, 20)", x.log(3, 20), 0);
        due("log(0, 9)", x.log(0, 9), 1);
        due("log(0, 999)", x.log(0, 999), 2);
        for (int i = 3; i < 20; i++) due("log", x.log(60, 1), i);
        due("log: 20 are there", x.log(0, 0), -1);
        due("count(5)", x.count(5), 20);
        promise = 35;
        // three leagues a watch: 20 at watch 3, give or take 2: 9 .. 13 in the beginning; 9 at watch 0: 7 .. 11.
        due("began(0, -1)", x.began(0, -1), 51);
        due("began(0, 50)", x.began(0, 50), 50);
        due("began(0, 51)", x.began(0, 51), -1);
        due("began(1, -1)", x.began(1, -1), 5);
        due("began(1, 0)", x.began(1, 0), 9);
        due("began(2, -1)", x.began(2, -1), 3);
        due("began(2, 2)", x.began(2, 2), 11);
        due("began(2, 3)", x.began(2, 3), -1);
        due("began(3, -1)", x.began(3, -1), 0);
        due("began(3, 0)", x.began(3, 0), -1);
        due("began(21, -1)", x.began(21, -1), -1);
        due("began(-1, -1)", x.began(-1, -1), -1);
        due("began(1, -2)", x.began(1, -2), -1);
        x = with("goal 900;");
        due("began: 0 .. 99", x.began(0, -1), 100);
        x.log(60, 270);
        due("began by watch 60: 88 .. 92", x.began(1, -1), 5);
        due("began(1, 4)", x.began(1, 4), 92);
        x.log(60, 275);
        due("began by two of watch 60", x.began(2, -1), 0);
        x = with("goal 12;");
        x.watches(2);
        x.log(2, 12);
        // 4 is at 10, 5 at 11; from 6 on she is at GOAL by then, and the voyage is over
        due("began: not over by then", x.began(1, -1), 2);
        due("began(1, 0)", x.began(1, 0), 4);
        due("nothing happened", x.ship(0), 6);
        x = with("goal 12;");
        x.log(0, 12);
        // 10 and 11: at GOAL the voyage is over, so that watch 0 does not begin.
        due("began: watch 0 does not begin at GOAL", x.began(1, -1), 2);
        due("began(1, 1)", x.began(1, 1), 11);
        due("began(0, 12): nothing is LOGGED against GOAL", x.began(0, 12), 12);
        x = with("ship 5 0 5; goal 12;");
        x.log(0, 3);
        due("began: no watch begins without FOOD", x.began(1, -1), 0);
        due("began(0, -1) without FOOD", x.began(0, -1), 13);
        // By hand she may be elsewhere: it is by straws, all else as the text, nobody hiding.
        x = with(FIVE + "runs = if skill < 3 then 1 else 5; goal 90;");
        x.hide(2, true);
        x.watches(2);
        due("a, then b as captain", x.ship(0), 6);
        x.log(2, 10);
        due("began: c, then c: 10", x.began(1, -1), 3);
    }

    private static void p36() {
        promise = 36;
        StrawWatch x = with(FIVE);
        due("forget()", x.forget(), 0);
        x.tell(0);
        x.tell(1);
        x.log(1, 1);
        due("forget()", x.forget(), 3);
        due("count(4)", x.count(4), 0);
        due("count(5)", x.count(5), 0);
        due("cheats(0, 1)", x.cheats(0, 1, true), -1);
        due("began(1, -1)", x.began(1, -1), -1);
        due("tell(3)", x.tell(3), 0);
        due("log(0, 0)", x.log(0, 0), 0);
    }

    private static void p37p38() {
        promise = 37;
        StrawWatch x = with(FIVE + "goal 900;");
        no("hold(3)", x.hold(3));
        no("hold(-1)", x.hold(-1));
        x.hide(2, true);
        x.watches(1);
        yes("hold(2)", x.hold(2));
        due("count(6)", x.count(6), 1);
        due("hold is no thing done", x.count(3), 2);
        x.watches(3);
        x.tell(1);
        x.log(1, 1);
        x.hide(2, false);
        feed(x, "goal");
        promise = 38;
        no("restore(3)", x.restore(3));
        no("restore(-1)", x.restore(-1));
        no("restore(0): nothing is held", x.restore(0));
        due("nothing happened", x.ship(7), 4);
        due("nothing happened", x.count(3), 4);
        yes("restore(2)", x.restore(2));
        due("ship(7)", x.ship(7), 1);
        due("post(0)", x.post(0), 0);
        due("man(2, 4)", x.man(2, 4), 1);
        due("count(7)", x.count(7), 4);
        due("TOLD stays", x.count(4), 1);
        due("LOGGED stays", x.count(5), 1);
        due("the tape stays", x.count(2), 4);
        due("nothing can be undone", x.count(3), 0);
        no("undo()", x.undo());
        x.watches(5);
        due("one thing done", x.count(3), 1);
        yes("restore(2): that stays there", x.restore(2));
        due("ship(7)", x.ship(7), 1);
        promise = 37;
        x.watches(1);
        yes("hold(2) again", x.hold(2));
        yes("hold(0)", x.hold(0));
        yes("hold(1)", x.hold(1));
        due("count(6)", x.count(6), 3);
        x.watches(1);
        promise = 38;
        yes("restore(2)", x.restore(2));
        due("ship(7)", x.ship(7), 2);
    }

    private static void p39() {
        promise = 39;
        int[] draws = {1, 1, 2, 6, 24, 120, 360};
        StringBuilder crew = new StringBuilder();
        for (int men = 0; men <= 6; men++) {
            StrawWatch x = with(crew.toString());
            due("count(0)", x.count(0), men);
            due("count(8)", x.count(8), 3 * men);
            due("count(11)", x.count(11), draws[men]);
            crew.append("man ").append((char) ('a' + men)).append(" 1 2 3 4 3;");
        }
        StrawWatch x = with(FIVE + "goal 3; ship 9 9 0;");
        due("count(8)", x.count(8), 12);
        x.hide(0, true);
        x.hide(2, true);
        x.hide(4, true);
        due("count(7)", x.count(7), 21);
        x.hold(1);
        x.tell(1);
        x.log(1, 1);
        x.log(1, 2);
        x.watches(9);
        int[] counts = {5, 3, 0, 4, 1, 2, 1, 21, 11, 1, 0, 120};
        for (int i = 0; i < counts.length; i++) due("count(" + i + ")", x.count(i), counts[i]);
        due("count(12)", x.count(12), -1);
        due("count(-1)", x.count(-1), -1);
    }

    /** Numbers far outside of all that is told, in every place of every call. */
    private static void extremes() {
        StrawWatch x = with(FIVE);
        x.watches(2);
        x.tell(1);
        x.log(1, 3);
        int[] far = {Integer.MIN_VALUE, Integer.MAX_VALUE, Integer.MIN_VALUE + 1, Integer.MAX_VALUE - 3, -1000, 1000000, 1 << 30, -3};
        for (int v : far) {
            String of = " of " + v;
            promise = 3;
            due("back" + of, x.back(v), -1);
            for (int[] got : new int[][] {{6, x.man(v, 0)}, {6, x.man(0, v)}, {7, x.post(v)}, {8, x.ship(v)}, {10, x.stand(v, -1, -1, -1)},
                {10, x.stand(-1, v, -1, -1)}, {10, x.stand(-1, -1, v, -1)}, {10, x.stand(-1, -1, -1, v)}, {11, x.watches(v)},
                {13, x.likely(v, 0, true)}, {13, x.likely(0, v, true)}, {14, x.orders(v)}, {17, x.risk(v, 0, true)}, {17, x.risk(0, v, true)},
                {18, x.safest(v, 0)}, {18, x.safest(1, v)}, {18, x.safest(2, v)}, {19, x.safe(v, true)}, {21, x.handy(v)}, {23, x.then(v, 0)},
                {23, x.then(1, v)}, {24, x.often(v, 0, 1)}, {24, x.often(0, v, 1)}, {24, x.often(0, 0, v)}, {25, x.ends(v)},
                {26, x.steady(v, 0)}, {26, x.steady(0, v)}, {29, x.year(v, 1)}, {29, x.year(1, v)}, {30, x.weds(v, 1)}, {30, x.weds(0, v)},
                {31, x.tell(v)}, {32, x.cheats(v, 0, true)}, {32, x.cheats(0, v, true)}, {33, x.surely(v)}, {34, x.log(v, 0)},
                {34, x.log(0, v)}, {35, x.began(v, -1)}, {35, x.began(1, v)}, {39, x.count(v)}}) {
                promise = got[0];
                due("a call" + of, got[1], -1);
            }
            for (int[] got : new int[][] {{15, x.mean(v, 0, true)}, {15, x.mean(0, v, true)}, {16, x.most(v, 0, true)}, {16, x.most(0, v, true)},
                {27, x.spared(v, 1)}, {27, x.spared(0, v)}}) {
                promise = got[0];
                due("a call" + of, got[1], -100000);
            }
            promise = 20;
            due("roster" + of, x.roster(v), -100);
            promise = 9;
            no("hide" + of, x.hide(v, true));
            promise = 37;
            no("hold" + of, x.hold(v));
            promise = 38;
            no("restore" + of, x.restore(v));
        }
        promise = 39;
        due("nothing happened", x.ship(7), 2);
        due("nothing happened", x.count(3), 1);
        due("nothing happened", x.count(4) + x.count(5), 2);
    }
}
