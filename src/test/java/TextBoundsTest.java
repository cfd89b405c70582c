import java.util.Arrays;

/** Part I of the document and promises 2 to 5: each sentence that names a bound, on both sides of it. */
public final class TextBoundsTest extends Checks {
    private static final int BLANK = 0x20202020;
    private static final String[] QUOTED = {"man", "wind", "danger", "orders", "runs", "strikes", "eats", "moods", "ship", "goal",
        "broom", "seed", "if", "then", "else", "watch", "league", "skill", "helm", "look", "cook", "sail", "blows", "near"};
    private static final String[] LAWS = {"wind", "danger", "orders", "runs", "strikes", "eats", "moods"};

    public static void main(String[] args) {
        tapeIsFull();
        nothingComesOntoAFullTape();
        highestByteFirst();
        backTakesTheLast();
        textOf2000();
        readEmptiesTheTape();
        everyByteAlone();
        everyByteBehindAnInt();
        everyByteInALaw();
        everyByteAsAName();
        everyByteWithinAName();
        theLongestThatCanBe();
        lettersOfAName();
        wordsInQuotes();
        digitsOfAnInt();
        textEnd();
        wherePlainTextsBreakOff();
        tellsOneByOne();
        sixMen();
        skillsAndSleeves();
        notTold();
        theLastOne();
        numbersOfTheShip();
        numbersOfBroomAndSeed();
        token401();
        seventhMan();
        fifthIf();
        seventhBracket();
        firstByPlace();
        ofOnePlaceTheLeast();
        ifThereIsNone();
        twice();
        wrongAtTheInt();
        placeOfTheLatestRead();
        emptyTextInPlace();
        newTextInPlace();
        nothingOfTheOneAhead();
        finish("the bounds of texts hold");
    }

    private static int blanks(StrawWatch x) { return x.feed(BLANK, BLANK, BLANK, BLANK, BLANK); }

    private static String spaces(int n) { return " ".repeat(n); }

    // ---------------------------------------------------------------- the tape

    private static void tapeIsFull() {
        sentence(2, "NONE, and nothing comes, if it would have more than 2,000");
        StrawWatch x = new StrawWatch();
        for (int i = 1; i <= 100; i++) due("feed " + i, blanks(x), 20 * i);
        due("feed beyond 2,000", blanks(x), -1);
        for (int left = 1; left < 20; left++) {
            due("back(1)", x.back(1), 2000 - left);
            due("feed with room for " + left, blanks(x), -1);
            due("count(2)", x.count(2), 2000 - left);
        }
        due("back(1)", x.back(1), 1980);
        due("feed with room for 20", blanks(x), 2000);
    }

    private static void nothingComesOntoAFullTape() {
        sentence(2, "NONE, and nothing comes, if it would have more than 2,000");
        StrawWatch x = new StrawWatch();
        feed(x, spaces(1974) + "goal 7;");
        due("count(2)", x.count(2), 1981);
        due("feed of what is no TOKEN", x.feed(-1, -1, -1, -1, -1), -1);
        due("read()", x.read(), 0);
        due("count(1)", x.count(1), 7);
    }

    private static void highestByteFirst() {
        sentence(2, "Twenty bytes, the highest of a first");
        // Only the 20 bytes in this order are a text: "man a 1 2 3 4 5;wind" and "=9;" behind it.
        StrawWatch x = new StrawWatch();
        due("feed", x.feed(0x6d616e20, 0x61203120, 0x32203320, 0x3420353b, 0x77696e64), 20);
        due("feed", x.feed(0x3d393b20, BLANK, BLANK, BLANK, BLANK), 40);
        due("read()", x.read(), 0);
        for (int what = 0; what < 5; what++) due("man(0, " + what + ")", x.man(0, what), what + 1);
        due("ship(8)", x.ship(8), 9);
        // A byte of 128 or more is one byte too, and no TOKEN.
        for (int at = 0; at < 20; at++) {
            x = new StrawWatch();
            int[] f = {BLANK, BLANK, BLANK, BLANK, BLANK};
            f[at / 4] |= 0x80 << 24 - at % 4 * 8;
            due("feed with byte 160 at " + at, x.feed(f[0], f[1], f[2], f[3], f[4]), 20);
            due("read()", x.read(), 1);
            due("place()", x.place(), at);
        }
    }

    private static void backTakesTheLast() {
        sentence(3, "NONE, and nothing goes, if it has not so many, or n is below 0");
        StrawWatch x = new StrawWatch();
        due("back(0) of nothing", x.back(0), 0);
        due("back(1) of nothing", x.back(1), -1);
        due("back(-1) of nothing", x.back(-1), -1);
        blanks(x);
        due("back(21)", x.back(21), -1);
        due("back(-1)", x.back(-1), -1);
        due("back of the least int", x.back(Integer.MIN_VALUE), -1);
        due("back of the greatest int", x.back(Integer.MAX_VALUE), -1);
        due("count(2)", x.count(2), 20);
        due("back(0)", x.back(0), 20);
        due("back(20)", x.back(20), 0);
        sentence(3, "The last n bytes of the tape go");
        feed(x, "goal 7;goal 89;");
        due("back(3)", x.back(3), 12);
        feed(x, "5;");
        due("read() of goal 7;goal 5;", x.read(), 0);
        due("count(1)", x.count(1), 5);
    }

    private static void textOf2000() {
        sentence(4, "A TEXT has 2,000 bytes at most");
        StrawWatch x = with(spaces(1993) + "goal 7;");
        due("count(1)", x.count(1), 7);
        good("goal 7;" + spaces(1993));
        fault(spaces(1999) + "x", 1, 1999);
        fault(spaces(1999) + "\u00ff", 1, 1999);
        fault(spaces(1996) + "goal", 1, 2000);
        fault("goal" + spaces(1996), 1, 2000);
        fault(spaces(1988) + "man abcdefgh", 1, 2000);
        fault(spaces(1987) + "man abcdefghi", 1, 1991);
        fault(spaces(1991) + "goal 1234", 1, 2000);
        fault(spaces(1990) + "goal 12345", 1, 1995);
        good("goal" + spaces(1994) + "7;");
        fault("goal" + spaces(1995) + "8", 1, 2000);
    }

    private static void readEmptiesTheTape() {
        sentence(4, "The tape, which is empty then, is read");
        StrawWatch x = new StrawWatch();
        feed(x, "goal 7;");
        due("read()", x.read(), 0);
        due("count(2)", x.count(2), 0);
        due("back(1)", x.back(1), -1);
        feed(x, "goal");
        due("read() with a FAULT", x.read(), 1);
        due("count(2)", x.count(2), 0);
        feed(x, "9;");
        due("what was ahead is not there any more", x.read(), 1);
        due("place()", x.place(), 0);
    }

    // ---------------------------------------------------------------- TOKENS

    private static boolean isBlank(int b) { return b == 9 || b == 10 || b == 13 || b == 32; }

    private static boolean isLetter(int b) { return b >= 97 && b <= 122; }

    private static boolean isDigit(int b) { return b >= 48 && b <= 57; }

    private static void everyByteAlone() {
        sentence(4, "with blanks (9, 10, 13, 32) between or not");
        for (int b = 0; b < 256; b++) {
            if (isBlank(b)) good("" + (char) b);
            else fault("" + (char) b, 1, 0);
        }
        for (int b = 0; b < 256; b++) {
            String text = (char) b + "goal" + (char) b + "7" + (char) b + ";" + (char) b;
            if (isBlank(b)) good(text);
            else fault(text, 1, 0);
        }
    }

    private static void everyByteBehindAnInt() {
        sentence(4, "SIGNS ; = + - * / < ( )");
        for (int b = 0; b < 256; b++) {
            String text = "goal 7" + (char) b;
            if (b == ';') good(text);
            else fault(text, 1, isBlank(b) || isDigit(b) ? 7 : 6);
        }
    }

    private static void everyByteInALaw() {
        sentence(4, "SIGNS ; = + - * / < ( )");
        for (int b = 0; b < 256; b++) {
            String text = "wind=1" + (char) b + "1;";
            if (isDigit(b) || "+-*/".indexOf(b) >= 0) good(text);
            else fault(text, 1, isBlank(b) || b == ';' ? 7 : 6);
        }
        for (int b = 0; b < 256; b++) {
            String text = "wind=" + (char) b + "1;";
            if (isDigit(b) || isBlank(b)) good(text);
            else fault(text, 1, b == '(' ? 7 : 5);
        }
        for (int b = 0; b < 256; b++) {
            String text = "wind=(1" + (char) b + ";";
            // 1) is whole; a second digit leaves the bracket open, and so does a blank.
            if (b == ')') good(text);
            else fault(text, 1, isBlank(b) || isDigit(b) || "+-*/".indexOf(b) >= 0 ? 8 : 7);
        }
        for (int b = 0; b < 256; b++) {
            String text = "wind=if 1" + (char) b + "2then 3else 4;";
            if (b == '<') good(text);
            else fault(text, 1, isBlank(b) ? 10 : isDigit(b) || "+-*/".indexOf(b) >= 0 ? 11 : 9);
        }
        for (int b = 0; b < 256; b++) {
            String text = "wind" + (char) b + "1;";
            if (b == '=') good(text);
            else fault(text, 1, isLetter(b) ? 0 : isBlank(b) ? 5 : 4);
        }
    }

    private static void everyByteAsAName() {
        sentence(4, "NAMES (letters a .. z, 8 at most, none of the words in quotes)");
        for (int b = 0; b < 256; b++) {
            String text = "man " + (char) b + " 0 0 0 0 0;";
            if (isLetter(b)) good(text);
            else fault(text, 1, isBlank(b) ? 6 : 4);
        }
    }

    private static void everyByteWithinAName() {
        sentence(4, "NAMES (letters a .. z, 8 at most, none of the words in quotes)");
        for (int b = 0; b < 256; b++) {
            String text = "man a" + (char) b + "c 0 0 0 0 0;";
            if (isLetter(b)) good(text);
            else fault(text, 1, isBlank(b) || isDigit(b) ? 6 : 5);
        }
    }

    private static void theLongestThatCanBe() {
        sentence(4, "TOKENS, the longest that can be, with blanks between or not");
        good("goal7;broom8;seed9;ship1 2 3;");
        good("wind=if1<2then3else4;");
        good("wind = if watch<2 then(3)else(league);");
        good("man a1 2 3 4 5;man b 1 2 3 4 5;");
        fault("mana 1 2 3 4 5;", 1, 0);
        fault("man a 1 2 34 5;", 1, 14);
        fault("man a 12 3 4 5 6;", 5, 6);
        fault("goal 1 2;", 1, 7);
        good("goal 12;");
        fault("wind=looksail;", 1, 5);
        fault("wind=look sail;", 1, 10);
        fault("wind=watchleague;", 1, 5);
        fault("wind=if1<2then3elsewatch;", 1, 15);
        good("wind=if1<2then3else watch;");
        fault("wind=ifwatch<2then 3 else 4;", 1, 5);
        fault("wi nd=1;", 1, 0);
        fault("go al 1;", 1, 0);
        fault("goalgoal 1;", 1, 0);
    }

    private static void lettersOfAName() {
        sentence(4, "letters a .. z, 8 at most .. A longer one, all else, is no TOKEN");
        for (int n = 1; n <= 30; n++) {
            String text = "man " + "q".repeat(n) + " 0 0 0 0 0;";
            if (n <= 8) good(text);
            else fault(text, 1, 4);
        }
        good("man abcdefgh0 0 0 0 0;");
        fault("man abcdefghi0 0 0 0 0;", 1, 4);
        // Nine letters of which the first eight are a man's NAME are not told already: they are no TOKEN.
        fault("man abcdefgh 0 0 0 0 0; man abcdefghi 0 0 0 0 0;", 1, 28);
        // Nine letters where no NAME can be, and a word in quotes with more letters behind it.
        fault("strikesss = 1;", 1, 0);
        fault("goal seedseeds;", 1, 5);
        fault("goal 7; " + "z".repeat(500), 1, 8);
    }

    private static void wordsInQuotes() {
        sentence(4, "none of the words in quotes");
        for (String word : QUOTED) {
            fault("man " + word + " 0 0 0 0 0;", 1, 4);
            good("man " + word + "x 0 0 0 0 0;");
            good("man x" + word + " 0 0 0 0 0;");
            good("man " + word.substring(0, word.length() - 1) + " 0 0 0 0 0;");
            good("man " + word.substring(1) + " 0 0 0 0 0;");
        }
        for (String word : QUOTED) {
            boolean tells = !Arrays.asList(QUOTED).subList(12, 24).contains(word);
            fault(word, 1, tells ? word.length() : 0);
            boolean var = Arrays.asList(QUOTED).subList(15, 24).contains(word);
            if (var) good("wind=" + word + ";");
            else fault("wind=" + word + ";", 1, 5 + (word.equals("if") ? 2 : 0));
        }
    }

    private static void digitsOfAnInt() {
        sentence(4, "INTS (1 to 4 digits)");
        for (int n = 1; n <= 12; n++) {
            String text = "wind=" + "9".repeat(n) + ";";
            if (n <= 4) good(text);
            else fault(text, 1, 5);
        }
        due("goal 0007", with("goal 0007;").count(1), 7);
        due("goal 0999", with("goal 0999;").count(1), 999);
        fault("goal 00007;", 1, 5);
        fault("goal 0000;", 5, 5);
        fault("goal 00000;", 1, 5);
        good("seed 9999;");
        fault("seed 10000;", 1, 5);
        fault("seed 4294967297;", 1, 5);
        due("broom 9999", with("broom 9999;").ship(5), 9999);
        due("wind = 9999 - 9998", with("wind = 9999 - 9998;").ship(8), 1);
    }

    // ---------------------------------------------------------------- SYNTAX

    private static void textEnd() {
        sentence(4, "the text's end: its length");
        fault("goal", 1, 4);
        fault("goal ", 1, 5);
        fault("goal 7", 1, 6);
        fault("goal 7 \t\r\n ", 1, 11);
        good("goal 7; \t\r\n ");
        good("");
        good(" ");
    }

    private static void wherePlainTextsBreakOff() {
        sentence(4, "1 SYNTAX: a TOKEN, or what is none, with which no text goes on");
        String[] tells = {"man a 1 2 3 4 5 ;", "wind = 1 ;", "danger = if 1 < 2 then 3 else if 4 < 5 then 6 else 7 ;",
            "runs = ( 1 + watch ) * 2 / ( ( 3 ) - helm ) ;", "ship 1 2 3 ;", "goal 4 ;", "broom 5 ;", "seed 6 ;"};
        for (String tell : tells) {
            String[] tokens = tell.split(" ");
            StringBuilder text = new StringBuilder("goal 9; ");
            for (int i = 0; i < tokens.length; i++) {
                text.append(tokens[i]);
                boolean whole = i == tokens.length - 1;
                if (whole) good(text.toString());
                else fault(text.toString(), 1, text.length());
                // What is no TOKEN, and signs that never stand there, are FAULTS in every gap.
                text.append(' ');
                fault(text + ".", 1, text.length());
                fault(text + "abcdefghi", 1, text.length());
                fault(text + "==", 1, text.length() + (!whole && tokens[i + 1].equals("=") ? 1 : 0));
            }
        }
    }

    private static void tellsOneByOne() {
        sentence(4, "TELL: 'man' NAME INT INT INT INT INT ';' ..");
        fault("man a 1 2 3 4;", 1, 13);
        good("man a 1 2 3 4 5;");
        fault("man a 1 2 3 4 5 6;", 1, 16);
        fault("ship 1 2;", 1, 8);
        good("ship 1 2 3;");
        fault("ship 1 2 3 4;", 1, 11);
        for (String word : new String[] {"goal", "broom", "seed"}) {
            int n = word.length();
            fault(word + ";", 1, n);
            good(word + " 1;");
            fault(word + " 1 1;", 1, n + 3);
            fault(word + " = 1;", 1, n + 1);
            fault(word + " watch;", 1, n + 1);
            fault(word + " (1);", 1, n + 1);
            fault(word + " 1+1;", 1, n + 2);
            fault(word + " -1;", 1, n + 1);
        }
        for (String law : LAWS) {
            int n = law.length();
            good(law + "=1;");
            fault(law + " 1;", 1, n + 1);
            fault(law + "=;", 1, n + 1);
            fault(law + "=1;;", 1, n + 3);
            fault(law + "==1;", 1, n + 1);
            fault(law + "=-1;", 1, n + 1);
            fault(law + "=+1;", 1, n + 1);
            fault(law + "=1+;", 1, n + 3);
            fault(law + "=1*/2;", 1, n + 3);
            fault(law + "=();", 1, n + 2);
            fault(law + "=(1;", 1, n + 3);
            fault(law + "=1);", 1, n + 2);
            fault(law + "=1<2;", 1, n + 2);
            fault(law + "=(1<2);", 1, n + 3);
            fault(law + "=if 1<2<3 then 4 else 5;", 1, n + 7);
            fault(law + "=if 1 then 4 else 5;", 1, n + 6);
            fault(law + "=if 1<2 else 5;", 1, n + 8);
            fault(law + "=if 1<2 then 4;", 1, n + 14);
            // A UNIT stands where 'then', 'else' or '<' is due.
            fault(law + "=if 1<2 3 else 4;", 1, n + 8);
            fault(law + "=if 1<2 (3) else 4;", 1, n + 8);
            fault(law + "=if 1<2 watch else 4;", 1, n + 8);
            fault(law + "=if 1<2 then 3 4;", 1, n + 15);
            fault(law + "=if 1<2 then 3 (4);", 1, n + 15);
            fault(law + "=if 1<2 then 3 then 4;", 1, n + 15);
            fault(law + "=if 1<2 then 3 if 1<2 then 3 else 4;", 1, n + 15);
            fault(law + "=if 1 2 then 3 else 4;", 1, n + 6);
            fault(law + "=if 1=2 then 3 else 4;", 1, n + 5);
            fault(law + "=if 1<2 then if 1<2 then 3 else 4 else 5;", 1, n + 13);
            fault(law + "=1 if 1<2 then 3 else 4;", 1, n + 3);
            fault(law + "=a;", 1, n + 1);
        }
    }

    // ---------------------------------------------------------------- numbers of a text

    private static void sixMen() {
        sentence(4, "MEN, 6 at most, numbered from 0 on as they stand");
        StringBuilder text = new StringBuilder();
        for (int men = 0; men <= 6; men++) {
            StrawWatch x = with(text.toString());
            due("count(0)", x.count(0), men);
            for (int man = 0; man < men; man++) {
                due("man(" + man + ", 0)", x.man(man, 0), man);
                due("man(" + man + ", 1)", x.man(man, 1), 9 - man);
                due("man(" + man + ", 4)", x.man(man, 4), man + 2);
            }
            due("man(men, 0)", x.man(men, 0), -1);
            due("man(-1, 0)", x.man(-1, 0), -1);
            // Names in falling order, with another TELL between them: the number is by the place.
            text.append("goal 9; man ").append((char) ('z' - men)).append(" " + men + " " + (9 - men) + " 0 0 " + (men + 2) + ";");
        }
    }

    private static void skillsAndSleeves() {
        sentence(4, "SKILL 0 .. 9 for each POST .. SLEEVE 0 .. 9");
        for (int i = 0; i < 5; i++) {
            for (int n : new int[] {0, 1, 8, 9, 10, 11, 99, 100, 9999}) {
                String ahead = "man a " + "5 ".repeat(i);
                String text = ahead + n + " 5".repeat(4 - i) + ";";
                if (n > 9) {
                    fault(text, 5, ahead.length());
                } else {
                    StrawWatch x = with(text);
                    for (int what = 0; what < 5; what++) due("man(0, " + what + ") of " + text, x.man(0, what), what == i ? n : 5);
                }
            }
        }
    }

    /** SAIL, WIND, DANGER, and what the first watch (nobody at a POST) does to LEAGUE, HULL, FOOD and MOOD. */
    private static void firstWatch(String text, int... wants) {
        StrawWatch x = with(text);
        int wind = x.ship(8), danger = x.ship(9);
        int sail = x.stand(-1, -1, -1, -1);
        int[] got = {sail, wind, danger, x.ship(0), x.ship(1), x.ship(2), x.ship(3)};
        String[] what = {"SAIL", "WIND", "DANGER", "LEAGUE", "HULL", "FOOD", "MOOD"};
        for (int i = 0; i < 7; i++) due(what[i] + " of " + text, got[i], wants[i]);
    }

    private static void notTold() {
        sentence(4, "WIND (2), DANGER (0), ORDERS (1), RUNS (blows + sail), STRIKES (0), EATS (1), MOODS (0), if not told");
        firstWatch("", 1, 2, 0, 3, 20, 98, 50);
        firstWatch("wind = 7;", 1, 7, 0, 8, 20, 98, 50);
        firstWatch("danger = 7;", 1, 2, 7, 3, 20, 98, 50);
        firstWatch("orders = 3;", 3, 2, 0, 5, 20, 98, 50);
        firstWatch("runs = 1;", 1, 2, 0, 1, 20, 98, 50);
        firstWatch("strikes = 4;", 1, 2, 0, 3, 16, 98, 50);
        firstWatch("eats = 4;", 1, 2, 0, 3, 20, 95, 50);
        firstWatch("moods = 4;", 1, 2, 0, 3, 20, 98, 54);
        sentence(4, "HULL, FOOD, MOOD (20, 99, 50), GOAL (60), BROOM (999), SEED (0)");
        StrawWatch x = with("");
        int[] wants = {0, 20, 99, 50, 0, 999};
        for (int what = 0; what < 6; what++) due("ship(" + what + ")", x.ship(what), wants[what]);
        due("count(1)", x.count(1), 60);
        // The draws without a SEED told are those of SEED 0, and not those of SEED 1.
        StrawWatch none = with(crew(6, "1 1 1 1 1")), zero = with(crew(6, "1 1 1 1 1") + "seed 0;"), one = with(crew(6, "1 1 1 1 1") + "seed 1;");
        int unlike = 0;
        for (int w = 0; w < 10; w++) {
            none.watches(1);
            zero.watches(1);
            one.watches(1);
            for (int post = 0; post < 4; post++) {
                due("post(" + post + ")", none.post(post), zero.post(post));
                if (none.post(post) != one.post(post)) unlike++;
            }
        }
        yes("SEED 1 draws others", unlike > 0);
    }

    private static void theLastOne() {
        sentence(4, "the last one");
        for (int i = 0; i < LAWS.length; i++) {
            int[] wants = {1, 2, 0, 3, 20, 98, 50};
            int[] told = {3, 3, 3, 3, 17, 96, 53};
            int seen = new int[] {1, 2, 0, 3, 4, 5, 6}[i];
            wants[seen] = told[seen];
            if (LAWS[i].equals("wind")) wants[3] = 4;
            if (LAWS[i].equals("orders")) wants[3] = 5;
            firstWatch(LAWS[i] + " = 3;", wants);
            firstWatch(LAWS[i] + " = if 1 < 2 then 2 else 1; goal 60; " + LAWS[i] + " = 3;", wants);
            firstWatch(LAWS[i] + " = 3; goal 60; " + LAWS[i] + " = 3;", wants);
        }
        StrawWatch x = with("ship 1 2 3; goal 4; broom 5; ship 6 7 8; goal 9; broom 10; goal 11;");
        due("HULL", x.ship(1), 6);
        due("FOOD", x.ship(2), 7);
        due("MOOD", x.ship(3), 8);
        due("BROOM", x.ship(5), 10);
        due("GOAL", x.count(1), 11);
        StrawWatch twice = with(crew(5, "1 1 1 1 1") + "seed 3; seed 4;"), once = with(crew(5, "1 1 1 1 1") + "seed 4;");
        for (int w = 0; w < 10; w++) {
            twice.watches(1);
            once.watches(1);
            for (int post = 0; post < 4; post++) due("post(" + post + ") by the last SEED", twice.post(post), once.post(post));
        }
    }

    private static void bound(String ahead, String behind, int least, int most, int what) {
        for (int n : new int[] {0, least - 1, least, least + 1, most - 1, most, most + 1, most + 100, 9999}) {
            if (n < 0 || n > 9999) continue;
            String text = ahead + n + behind;
            if (n < least || n > most) {
                fault(text, 5, ahead.length());
            } else {
                StrawWatch x = with(text);
                due(text, what == -1 ? x.count(1) : x.ship(what), n);
            }
        }
    }

    private static void numbersOfTheShip() {
        sentence(4, "HULL 1 .. 99");
        bound("ship ", " 5 5;", 1, 99, 1);
        sentence(4, "FOOD 0 .. 999");
        bound("ship 5 ", " 5;", 0, 999, 2);
        sentence(4, "MOOD 0 .. 99");
        bound("ship 5 5 ", ";", 0, 99, 3);
        sentence(4, "GOAL: LEAGUES 1 .. 999");
        bound("goal ", ";", 1, 999, -1);
    }

    private static void numbersOfBroomAndSeed() {
        sentence(4, "BROOM: straws 0 .. 9999");
        bound("broom ", ";", 0, 9999, 5);
        fault("broom 10000;", 1, 6);
        sentence(4, "SEED 0 .. 9999");
        good("seed 0;");
        good("seed 9999;");
        fault("seed 10000;", 1, 5);
        sentence(4, "UNIT: INT");
        good("wind = 0 + 9999;");
    }

    // ---------------------------------------------------------------- ROOM

    private static void token401() {
        sentence(4, "2 ROOM: a 401st TOKEN");
        String t399 = "goal 7;".repeat(133), t396 = "goal 7;".repeat(132), t393 = "goal 7;".repeat(131);
        good(t399);
        good(t396 + "wind=1;");
        good(t396 + "wind=1; \t ");
        fault(t399 + "goal", 1, t399.length() + 4);
        fault(t399 + "goal ", 1, t399.length() + 5);
        fault(t396 + "wind=1; goal", 2, t396.length() + 8);
        fault(t396 + "wind=1;x", 1, t396.length() + 7);
        fault(t393 + "man a 0 0 0 0 0;", 2, t393.length() + 15);
        fault(t393 + "man a 0 0 0 0 0 ;", 2, t393.length() + 16);
        fault(t399 + "goal 7;", 2, t399.length() + 5);
        fault(t399 + "goal 7", 2, t399.length() + 5);
        good("wind=" + "1+".repeat(198) + "1;");
        fault("wind=" + "1+".repeat(199) + "1;", 2, 5 + 398);
        fault("wind=" + "1+".repeat(198) + "1", 1, 5 + 397);
        // All 400 of them count in what the LAW says, whichever LAW it is.
        due("WIND of 400 TOKENS", with("wind=203" + "-1".repeat(198) + ";").ship(8), 5);
        due("MOODS of 400 TOKENS", with("moods=203" + "-1".repeat(198) + ";").mean(3, 0, false), 5);
        due("RUNS of 400 TOKENS", with("runs=((((((1+" + "1*".repeat(189) + "6))))))+1+1;").mean(0, 0, false), 9);
        // 399 TOKENS and one of the last LAW's: the text ends, or goes on with the 401st
        fault("wind=" + "1+".repeat(199), 1, 5 + 398);
        good("wind=" + "(1)+".repeat(99) + "11;");
        fault("wind=" + "(1)+".repeat(99) + "1+1;", 2, 5 + 396 + 2);
    }

    private static void seventhMan() {
        sentence(4, "2 ROOM: a 7th MAN (at its first TOKEN)");
        String six = crew(6, "0 0 0 0 0");
        good(six);
        good(six + "goal 7;");
        fault(six + "man g 0 0 0 0 0;", 2, six.length());
        fault(six + "  man g 0 0 0 0 0;", 2, six.length() + 2);
        fault(six + "goal 7; man g 0 0 0 0 0;", 2, six.length() + 8);
        fault("goal 7;" + six + "man", 2, six.length() + 7);
        // More MEN, a NAME told already, a number not as told: all behind it.
        fault(six + "man g 0 0 0 0 0;man h 0 0 0 0 0;", 2, six.length());
        fault(six + "man a 0 0 0 0 0;", 2, six.length());
        fault(six + "man g 10 0 0 0 0;", 2, six.length());
    }

    private static String ifs(int n) { return "if 1<2 then 3 else ".repeat(n); }

    private static void fifthIf() {
        sentence(4, "2 ROOM: a 5th if of a LAW (at it)");
        for (int n = 0; n <= 7; n++) {
            for (String law : LAWS) {
                String text = law + "=" + ifs(n) + "4;";
                if (n <= 4) good(text);
                else fault(text, 2, law.length() + 1 + 4 * 19);
            }
        }
        // Each LAW has four of its own, the same LAW told again too.
        good("wind=" + ifs(4) + "4;wind=" + ifs(4) + "4;danger=" + ifs(4) + "4;");
        String ahead = "wind=" + ifs(4) + "4;danger=" + ifs(4);
        fault(ahead + "if", 2, ahead.length());
    }

    private static void seventhBracket() {
        sentence(4, "2 ROOM: a 7th ( within one another (at it)");
        String[][] around = {{"wind=", ";"}, {"wind=if ", "<2 then 3 else 4;"}, {"wind=if 1<", " then 3 else 4;"},
            {"wind=if 1<2 then ", " else 4;"}, {"wind=if 1<2 then 3 else ", ";"}, {"wind=1+2*", "/3-4;"}};
        for (String[] a : around) {
            for (int n = 1; n <= 9; n++) {
                String text = a[0] + "(".repeat(n) + "1" + ")".repeat(n) + a[1];
                if (n <= 6) good(text);
                else fault(text, 2, a[0].length() + 6);
            }
        }
        good("wind=((((((1))))))+((((((2))))))*((((((3))))));");
        good("wind=(1)+(1)+(1)+(1)+(1)+(1)+(1)+(1)+(1);");
        good("wind=(1+(2*(3-(4/(5+(6))))));");
        fault("wind=(1+(2*(3-(4/(5+(6-(7)))))));", 2, 23);
        good("wind=((((((1)+(2))+(3))+(4))+(5))+(6));");
        good("wind=(((((1)))))+((((((2)))))+(3));");
        fault("wind=((((((1)+(2)+((", 2, 19);
        good("wind=((((((1))))));danger=((((((1))))));");
    }

    // ---------------------------------------------------------------- which FAULT

    private static void firstByPlace() {
        sentence(4, "the first by its place");
        String six = crew(6, "0 0 0 0 0");
        fault(six + "goal ;man g", 1, six.length() + 5);
        fault(six + "man g;goal ;", 2, six.length());
        fault("wind=" + ifs(5) + ";", 2, 5 + 76);
        fault("wind=;wind=" + ifs(5), 1, 5);
        fault("wind=(((((((((", 2, 11);
        fault("wind=((((((;", 1, 11);
        fault("wind=((((((1;(", 1, 12);
        fault(". goal 0;", 1, 0);
        fault(six + "man g 0 0 0 0 0;" + "wind=" + ifs(5), 2, six.length());
        fault("wind=" + ifs(5) + "1;" + six + "man g", 2, 5 + 76);
        fault("goal 1 . ..", 1, 7);
    }

    private static void ofOnePlaceTheLeast() {
        sentence(4, "of one place the least");
        String t396 = "goal 7;".repeat(132), t399 = "goal 7;".repeat(133), six = crew(6, "0 0 0 0 0");
        // The 401st TOKEN is one with which no text goes on, or is none.
        for (String bad : new String[] {"x", "7", ";", "if", "watch", ".", "abcdefghi", "12345", "\u00ff"})
            fault(t396 + "wind=1;" + bad, 1, t396.length() + 7);
        for (String bad : new String[] {"x", ";", "if", "goal", ".", "12345"})
            fault(t399 + "goal " + bad, 1, t399.length() + 5);
        fault("wind=((((((1(", 1, 12);
        fault("wind=((((((1 (1)", 1, 13);
        fault(six + "goal man", 1, six.length() + 5);
        fault(six + "wind = man", 1, six.length() + 7);
        fault("wind=" + ifs(4) + "1 if", 1, 5 + 76 + 2);
        fault("wind=" + ifs(4) + "(if", 1, 5 + 76 + 1);
        fault("wind=" + ifs(3) + "if 1<2 then if", 1, 5 + 57 + 12);
        // A 7th MAN that is the 401st TOKEN, too: ROOM at the one place of both.
        String full = six + "goal 7;".repeat(116) + "wind=1;";
        good(full);
        fault(full + "man g", 2, full.length());
    }

    private static void ifThereIsNone() {
        sentence(4, "If there is none, likewise: 3 TWICE .. 5 WRONG");
        String six = crew(6, "0 0 0 0 0");
        fault("goal 0;", 5, 5);
        fault("goal 0;x", 1, 7);
        fault("goal 0;" + six + "man g 0 0 0 0 0;", 2, 7 + six.length());
        fault("goal 0;wind=" + ifs(5) + "1;", 2, 12 + 76);
        fault("goal 0;wind=(((((((1)))))));", 2, 18);
        fault("goal 0;" + "goal 7;".repeat(133), 2, 7 + 7 * 132 + 5);
        fault("man a 0 0 0 0 0;man a 0 0 0 0 0;goal", 1, 36);
        fault("man a 0 0 0 0 0;man a 0 0 0 0 0;man c 0 0 0 0 0;man d 0 0 0 0 0;man e 0 0 0 0 0;man f 0 0 0 0 0;man a", 2, 96);
        sentence(4, "likewise: the first by its place");
        fault("man a 0 0 0 0 0;man a 0 0 0 0 10;", 3, 20);
        fault("man a 0 0 0 0 10;man a 0 0 0 0 0;", 5, 14);
        fault("man a 0 0 0 0 0;goal 0;man a 0 0 0 0 0;", 5, 21);
        fault("man a 0 0 0 0 0;man a 0 0 0 0 0;goal 0;", 3, 20);
        fault("goal 0;goal 0;goal 1000;", 5, 5);
        fault("ship 0 1000 100;", 5, 5);
        fault("ship 1 1000 100;", 5, 7);
        fault("man a 0 10 10 0 0;", 5, 8);
    }

    private static void twice() {
        sentence(4, "3 TWICE: a NAME told already");
        fault("man a 0 0 0 0 0;man a 0 0 0 0 0;", 3, 20);
        fault("man a 0 0 0 0 0;man b 0 0 0 0 0;man a 0 0 0 0 0;", 3, 36);
        fault("man a 0 0 0 0 0;man b 0 0 0 0 0;man b 0 0 0 0 0;man a 0 0 0 0 0;", 3, 36);
        fault("man abcdefgh 0 0 0 0 0;man abcdefgh 0 0 0 0 0;", 3, 27);
        good("man abcdefgh 0 0 0 0 0;man abcdefgi 0 0 0 0 0;man bbcdefgh 0 0 0 0 0;man abcdefg 0 0 0 0 0;man bcdefgh 0 0 0 0 0;");
        good("man a 0 0 0 0 0;man aa 0 0 0 0 0;man aaa 0 0 0 0 0;man aaaa 0 0 0 0 0;man z 0 0 0 0 0;man za 0 0 0 0 0;");
        String five = crew(5, "0 0 0 0 0");
        for (int m = 0; m < 5; m++) fault(five + "man " + (char) ('a' + m) + " 0 0 0 0 0;", 3, five.length() + 4);
        good(five + "man f 0 0 0 0 0;");
        // Told in the text ahead, or in one with a FAULT, is not told already.
        StrawWatch x = with("man a 0 0 0 0 0;");
        feed(x, "man a 1 0 0 0 0;man b 0 0 0 0 0;");
        due("read() of the next text", x.read(), 0);
        feed(x, "man c 0 0 0 0 0;x");
        due("read() with a FAULT", x.read(), 1);
        feed(x, "man c 0 0 0 0 0;");
        due("read() behind it", x.read(), 0);
    }

    private static void wrongAtTheInt() {
        sentence(4, "5 WRONG (at the INT): a number not as told above");
        fault("goal   1000 ;", 5, 7);
        fault("goal0;", 5, 4);
        fault("goal 60;goal 0;", 5, 13);
        fault("goal 0;goal 60;", 5, 5);
        fault("man abcdefgh 9 9 9 9 0010;", 5, 21);
        good("man abcdefgh 9 9 9 9 0009;");
        fault("ship 0099 0999 0100;", 5, 15);
        good("ship 0099 0999 0099;");
    }

    private static void placeOfTheLatestRead() {
        sentence(5, "The byte of the latest read()'s FAULT; NONE without");
        StrawWatch x = new StrawWatch();
        due("place() ahead of all", x.place(), -1);
        feed(x, "x");
        due("place() ahead of read()", x.place(), -1);
        due("read()", x.read(), 1);
        due("place()", x.place(), 0);
        feed(x, "goal 7;");
        x.back(1);
        x.watches(3);
        x.undo();
        due("place() stays", x.place(), 0);
        feed(x, ";");
        due("read()", x.read(), 0);
        due("place()", x.place(), -1);
        feed(x, "goal 0;");
        due("read()", x.read(), 5);
        due("place()", x.place(), 5);
        feed(x, "goal 1");
        due("read()", x.read(), 1);
        due("place()", x.place(), 6);
        due("read() of nothing", x.read(), 0);
        due("place()", x.place(), -1);
    }

    // ---------------------------------------------------------------- in place of the one ahead

    private static void emptyTextInPlace() {
        sentence(4, "else it is in place of the one ahead");
        StrawWatch x = with(FIVE + "goal 9; broom 8; ship 7 6 5; wind = 4; danger = 3;");
        due("read() of an empty tape", x.read(), 0);
        int[] counts = {0, 60, 0, 0, 0, 0, 0, 0, 0, 0, -2, 1};
        for (int i = 0; i < counts.length; i++) due("count(" + i + ")", x.count(i), counts[i]);
        int[] ship = {0, 20, 99, 50, 0, 999, 0, 0, 2, 0};
        for (int i = 0; i < ship.length; i++) due("ship(" + i + ")", x.ship(i), ship[i]);
        due("man(0, 0)", x.man(0, 0), -1);
        due("broom()", x.broom(), 9999);
        due("stand(0, -1, -1, -1)", x.stand(0, -1, -1, -1), -1);
        due("watches(60)", x.watches(60), 20);
    }

    private static void newTextInPlace() {
        sentence(4, "watch 0, LEAGUE 0, nobody at a POST yet, no mutiny; nothing can be undone, nothing is TOLD, SLOTS hold nothing");
        StrawWatch x = with(FIVE + "goal 5; moods = 0 - 9; ship 9 9 9; runs = 3;");
        x.hide(2, true);
        x.hide(4, true);
        x.hold(0);
        x.hold(1);
        x.hold(2);
        x.tell(0);
        x.tell(1);
        x.watches(9);
        due("a mutiny", x.ship(4), 3);
        due("over", x.ship(6), 1);
        due("MARRIED", x.count(10), 1);
        feed(x, FIVE + "goal 5; moods = 0 - 9; ship 9 9 9; runs = 3;");
        due("read()", x.read(), 0);
        int[] counts = {5, 5, 0, 0, 0, 0, 0, 0, 12, 0, -2, 120};
        for (int i = 0; i < counts.length; i++) due("count(" + i + ")", x.count(i), counts[i]);
        int[] ship = {0, 9, 9, 9, 0, 999, 0, 0, 2, 0};
        for (int i = 0; i < ship.length; i++) due("ship(" + i + ")", x.ship(i), ship[i]);
        for (int post = 0; post < 4; post++) due("post(" + post + ")", x.post(post), -2);
        int[] sleeves = {1, 0, 2, 0, 9};
        for (int man = 0; man < 5; man++) {
            due("man(" + man + ", 4)", x.man(man, 4), sleeves[man]);
            for (int what : new int[] {5, 7, 8}) due("man(" + man + ", " + what + ")", x.man(man, what), 0);
            due("man(" + man + ", 6)", x.man(man, 6), -2);
        }
        no("undo()", x.undo());
        for (int slot = 0; slot < 3; slot++) no("restore(" + slot + ")", x.restore(slot));
        due("cheats(0, 1)", x.cheats(0, 1, true), -1);
        due("tell(4) is the first again", x.tell(4), 0);
    }

    /** Texts that tell something else in all that can be told, and then nothing: all is as if not told. */
    private static void nothingOfTheOneAhead() {
        sentence(4, "it is in place of the one ahead .. if not told");
        String all = "man x 1 1 1 1 1;wind=5;danger=6;orders=3;runs=7;strikes=4;eats=8;moods=9;ship 50 500 60;goal 500;broom 77;seed 1;";
        for (String ahead : new String[] {all, all + "x", all + "goal 0;", all + "man x 2 2 2 2 2;", all + "wind=((((((("}) {
            StrawWatch x = new StrawWatch();
            feed(x, ahead);
            x.read();
            feed(x, crew(6, "1 1 1 1 1"));
            due("read() behind " + ahead, x.read(), 0);
            due("MEN", x.count(0), 6);
            due("GOAL", x.count(1), 60);
            due("straws", x.ship(5), 999);
            due("WIND", x.ship(8), 2);
            due("DANGER", x.ship(9), 0);
            x.watches(1);
            int[] wants = {3, 20, 98, 50};
            for (int what = 0; what < 4; what++) due("ship(" + what + ")", x.ship(what), wants[what]);
            for (int w = 0; w < 6; w++) {
                int[] who = draw(6, 0, w);
                for (int post = 0; post < 4; post++) due("by SEED 0: watch " + w + ", post " + post, x.post(post), who[post]);
                x.watches(1);
            }
            // A LAW told ahead and now again is the one told now.
            feed(x, "wind=8;");
            due("read()", x.read(), 0);
            due("WIND", x.ship(8), 8);
            due("MEN", x.count(0), 0);
        }
    }
}
