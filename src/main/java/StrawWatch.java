import java.util.Arrays;

/**
 * A ship on which each watch is drawn for in straws. The document's words in capitals name things here too:
 * MEN, POSTS, LAWS, WATCHES, DRAWS. All rows are made in constructors, so that no call makes an object.
 */
public final class StrawWatch {
    public static final int NONE = -1;

    private static final int NOBODY = -2;
    private static final int IS_OVER = -2;
    private static final int NOT_BY_THEN = -2;
    private static final int NO_MEASURE = -100000;
    private static final int NO_ROSTER_POST = -100;

    private static final int TEXT_ROOM = 2000;
    private static final int TOKEN_ROOM = 400;
    private static final int MEN_ROOM = 6;
    private static final int IF_ROOM = 4;
    private static final int NEST_ROOM = 6;
    private static final int POSTS = 4;
    private static final int SAILS = 4;
    private static final int FAR = 200;
    private static final int WATCHES_AT_ONCE = 60;
    private static final int SEEDS_AT_ONCE = 20;
    private static final int BROOM_OF_NO_MEN = 9999;
    private static final int MUTINY_LASTS = 4;
    private static final int MOOD_TOP = 99;

    // Where a voyage's numbers stand in its row of cells; 0 to 7 are as for ship().
    private static final int C_LEAGUE = 0;
    private static final int C_HULL = 1;
    private static final int C_FOOD = 2;
    private static final int C_MOOD = 3;
    private static final int C_MUTINY = 4;
    private static final int C_STRAWS = 5;
    private static final int C_OVER = 6;
    private static final int C_WATCH = 7;
    private static final int C_HIDERS = 8;
    private static final int C_MARRIED = 9;
    private static final int C_MUTINIES = 10;
    private static final int C_POST = 11;
    private static final int C_SLEEVE = 15;
    private static final int C_CAPTAINED = 21;
    private static final int CELLS = 27;

    private static final int AT_GOAL = 1;
    private static final int WRECKED = 2;
    private static final int STARVED = 3;

    private static final int L_WIND = 0;
    private static final int L_DANGER = 1;
    private static final int L_ORDERS = 2;
    private static final int L_RUNS = 3;
    private static final int L_STRIKES = 4;
    private static final int L_EATS = 5;
    private static final int L_MOODS = 6;
    private static final int LAWS = 7;

    private static final int V_WATCH = 0;
    private static final int V_LEAGUE = 1;
    private static final int V_SKILL = 2;
    private static final int V_HELM = 3;
    private static final int V_LOOK = 4;
    private static final int V_COOK = 5;
    private static final int V_SAIL = 6;
    private static final int V_BLOWS = 7;
    private static final int V_NEAR = 8;
    private static final int VARS = 9;

    private static final int RUNS_LEAST = -9;
    private static final int RUNS_MOST = 19;
    private static final int RUNS_KINDS = 29;
    private static final int STRIKES_MOST = 9;
    private static final int STRIKES_KINDS = 10;

    private final byte[] tape;
    private int tapeLength;
    private int faultPlace;
    private final Text text;
    private final Text fresh;
    private final Reader reader;
    private final Ship now;
    private final Ship trial;
    private final Draws draws;
    private final Past past;
    private final Notes notes;

    public StrawWatch() {
        tape = new byte[TEXT_ROOM];
        tapeLength = 0;
        faultPlace = NONE;
        text = new Text();
        fresh = new Text();
        reader = new Reader(fresh, tape);
        now = new Ship(text);
        trial = new Ship(text);
        draws = new Draws(text);
        past = new Past();
        notes = new Notes();
        now.setOut(0);
        draws.deal();
    }

    public int feed(int a, int b, int c, int d, int e) {
        if (tapeLength + 20 > TEXT_ROOM) {
            return NONE;
        }
        append(a);
        append(b);
        append(c);
        append(d);
        append(e);
        return tapeLength;
    }

    public int back(int n) {
        if (n < 0 || n > tapeLength) {
            return NONE;
        }
        tapeLength -= n;
        return tapeLength;
    }

    public int read() {
        int fault = reader.readTape(tapeLength);
        tapeLength = 0;
        faultPlace = reader.placeOfFault();
        if (fault == 0) {
            text.become(fresh);
            now.setOut(0);
            draws.deal();
            past.forgetUndo();
            past.forgetSlots();
            notes.forgetTold();
        }
        return fault;
    }

    public int place() {
        return faultPlace;
    }

    public int man(int man, int what) {
        if (!text.has(man)) {
            return NONE;
        }
        switch (what) {
            case 0:
            case 1:
            case 2:
            case 3:
                return text.skillOf(man, what);
            case 4:
                return now.cell[C_SLEEVE + man];
            case 5:
                return now.hides(man) ? 1 : 0;
            case 6:
                return now.postOf(man);
            case 7:
                return now.cell[C_CAPTAINED + man];
            case 8:
                return now.cell[C_MARRIED] == man ? 1 : 0;
            default:
                return NONE;
        }
    }

    public int post(int post) {
        return isPost(post) ? now.cell[C_POST + post] : NONE;
    }

    public int ship(int what) {
        return now.measure(what);
    }

    public boolean hide(int man, boolean hides) {
        if (!text.has(man) || now.hides(man) == hides) {
            return false;
        }
        past.save(now.cell);
        now.setHides(man, hides);
        return true;
    }

    public int stand(int captain, int helm, int look, int cook) {
        if (!mayStand(captain) || !mayStand(helm) || !mayStand(look) || !mayStand(cook)) {
            return NONE;
        }
        if (same(captain, helm) || same(captain, look) || same(captain, cook)
            || same(helm, look) || same(helm, cook) || same(look, cook)) {
            return NONE;
        }
        if (now.cell[C_OVER] != 0) {
            return IS_OVER;
        }
        past.save(now.cell);
        now.setPost(0, captain);
        now.setPost(1, helm);
        now.setPost(2, look);
        now.setPost(3, cook);
        return now.keepWatch();
    }

    public int watches(int n) {
        if (n < 0 || n > WATCHES_AT_ONCE) {
            return NONE;
        }
        if (now.cell[C_OVER] != 0) {
            return IS_OVER;
        }
        if (n > 0) {
            past.save(now.cell);
        }
        return now.sailOn(n);
    }

    public boolean undo() {
        return past.takeBack(now.cell);
    }

    public int likely(int man, int post, boolean below) {
        if (!text.has(man) || !isPost(post)) {
            return NONE;
        }
        return fraction(post < text.men ? 1 : 0, text.men, below);
    }

    public int orders(int man) {
        if (!text.has(man)) {
            return NONE;
        }
        now.noteWeather();
        return text.laws.sailBy(text.skillOf(man, 0));
    }

    public int mean(int what, int sail, boolean below) {
        if (!isMeasure(what) || !isSailOrOrders(sail)) {
            return NO_MEASURE;
        }
        now.noteWeather();
        return fraction(draws.sumOf(L_RUNS + what, sail), draws.size, below);
    }

    public int most(int what, int sail, boolean greatest) {
        if (!isMeasure(what) || !isSailOrOrders(sail)) {
            return NO_MEASURE;
        }
        now.noteWeather();
        return draws.extremeOf(L_RUNS + what, sail, greatest);
    }

    public int risk(int d, int sail, boolean below) {
        if (d < 0 || d >= STRIKES_KINDS || !isSailOrOrders(sail)) {
            return NONE;
        }
        now.noteWeather();
        draws.tallyStrikes(sail);
        return fraction(draws.size - draws.fewerThan(d), draws.size, below);
    }

    public int safest(int n, int i) {
        if (n < 1 || n > 2 || i < 0 || i >= n) {
            return NONE;
        }
        int best = draws.safestOf(n, now.cell);
        return i == 0 ? best / SAILS : best % SAILS;
    }

    public int safe(int n, boolean below) {
        if (n < 1 || n > 2) {
            return NONE;
        }
        int best = draws.safestOf(n, now.cell);
        return fraction(draws.waysOf(best), n == 1 ? draws.size : draws.size * draws.size, below);
    }

    public int roster(int post) {
        if (post == NONE) {
            return draws.skillsOf(draws.bestRoster());
        }
        return isPost(post) ? draws.whoAt(draws.bestRoster(), post) : NO_ROSTER_POST;
    }

    public int handy(int post) {
        if (!isPost(post)) {
            return NONE;
        }
        int best = NOBODY;
        int bestSkill = -1;
        for (int man = 0; man < text.men; man++) {
            int skill = text.skillOf(man, post);
            if (skill > bestSkill) {
                best = man;
                bestSkill = skill;
            }
        }
        return best;
    }

    public int better(boolean below) {
        int total = 0;
        for (int d = 0; d < draws.size; d++) {
            total += draws.skillsOf(d);
        }
        int best = draws.skillsOf(draws.bestRoster());
        return fraction(best * draws.size - total, draws.size, below);
    }

    public int then(int n, int what) {
        if (n < 0 || n > FAR) {
            return NONE;
        }
        trial.follow(now);
        trial.sailOn(n);
        return trial.measure(what);
    }

    public int often(int man, int post, int n) {
        if (!text.has(man) || !isPost(post) || n < 0 || n > FAR) {
            return NONE;
        }
        trial.follow(now);
        int times = 0;
        for (int i = 0; i < n && trial.sailOn(1) == 1; i++) {
            if (trial.cell[C_POST + post] == man) {
                times++;
            }
        }
        return times;
    }

    public int ends(int what) {
        trial.follow(now);
        return endOfTrial(what);
    }

    public int steady(int sail, int what) {
        if (!isSail(sail)) {
            return NONE;
        }
        trial.follow(now);
        trial.setSail(sail);
        return endOfTrial(what);
    }

    public int spared(int man, int n) {
        if (!text.has(man) || n < 0 || n > FAR) {
            return NO_MEASURE;
        }
        return timesCaptain(man, n, false) - timesCaptain(man, n, true);
    }

    public int broom() {
        return text.men > 0 ? now.cell[C_STRAWS] / text.men : BROOM_OF_NO_MEN;
    }

    public int year(int how, int s) {
        if (how < AT_GOAL || how > STARVED) {
            return NONE;
        }
        return voyagesWith(C_OVER, how, s);
    }

    public int weds(int man, int s) {
        if (!text.has(man)) {
            return NONE;
        }
        return voyagesWith(C_MARRIED, man, s);
    }

    public int tell(int captain) {
        return text.has(captain) ? notes.addTold(captain) : NONE;
    }

    public int cheats(int man, int k, boolean below) {
        if (!text.has(man) || k < 0 || k > notes.told) {
            return NONE;
        }
        if (notes.wasTold(man, k)) {
            return below ? 1 : 0;
        }
        int cheating = power(text.men, k);
        return fraction(cheating, cheating + power(text.men - 1, k), below);
    }

    public int surely(int p) {
        if (p < 0 || p > 100 || text.men == 0) {
            return NONE;
        }
        for (int k = 0; k <= Notes.TOLD_ROOM; k++) {
            long cheating = power(text.men, k);
            long either = cheating + power(text.men - 1, k);
            if (100L * cheating >= p * either) {
                return k;
            }
        }
        return NOT_BY_THEN;
    }

    public int log(int n, int league) {
        if (n < 0 || n > WATCHES_AT_ONCE || league < 0 || league > 999) {
            return NONE;
        }
        return notes.addLogged(n, league);
    }

    public int began(int k, int i) {
        if (k < 0 || k > notes.logged || i < NONE) {
            return NONE;
        }
        int found = 0;
        int furthest = Math.min(99, text.goal);
        for (int league = 0; league <= furthest; league++) {
            if (fitsLog(league, k)) {
                if (found == i) {
                    return league;
                }
                found++;
            }
        }
        return i == NONE ? found : NONE;
    }

    public int forget() {
        int many = notes.told + notes.logged;
        notes.forgetTold();
        notes.forgetLogged();
        return many;
    }

    public boolean hold(int slot) {
        return past.keep(slot, now.cell);
    }

    public boolean restore(int slot) {
        return past.goBackTo(slot, now.cell);
    }

    public int count(int what) {
        switch (what) {
            case 0:
                return text.men;
            case 1:
                return text.goal;
            case 2:
                return tapeLength;
            case 3:
                return past.undoable;
            case 4:
                return notes.told;
            case 5:
                return notes.logged;
            case 6:
                return past.slotsHeld();
            case 7:
                return now.cell[C_HIDERS];
            case 8:
                return now.strawsUpSleeves();
            case 9:
                return now.cell[C_MUTINIES];
            case 10:
                return now.cell[C_MARRIED];
            case 11:
                return draws.size;
            default:
                return NONE;
        }
    }

    private void append(int four) {
        for (int shift = 24; shift >= 0 && tapeLength < TEXT_ROOM; shift -= 8) {
            tape[tapeLength] = (byte) (four >>> shift);
            tapeLength++;
        }
    }

    private boolean mayStand(int man) {
        return man == NONE || text.has(man);
    }

    private static boolean same(int one, int other) {
        return one == other && one != NONE;
    }

    private static boolean isPost(int post) {
        return post >= 0 && post < POSTS;
    }

    private static boolean isSail(int sail) {
        return sail >= 0 && sail < SAILS;
    }

    private static boolean isSailOrOrders(int sail) {
        return sail == NONE || isSail(sail);
    }

    private static boolean isMeasure(int what) {
        return what >= 0 && what <= L_MOODS - L_RUNS;
    }

    private int endOfTrial(int what) {
        if (what < 0 || what > 1) {
            return NONE;
        }
        int gone = trial.sailOn(FAR);
        int over = trial.cell[C_OVER];
        if (over == 0) {
            return NOT_BY_THEN;
        }
        return what == 0 ? gone : over;
    }

    /** How often he was captain behind n WATCHES more, those up to now too. */
    private int timesCaptain(int man, int n, boolean hides) {
        trial.follow(now);
        trial.setHides(man, hides);
        trial.sailOn(n);
        return trial.cell[C_CAPTAINED + man];
    }

    private int voyagesWith(int cell, int wanted, int seeds) {
        if (seeds < 1 || seeds > SEEDS_AT_ONCE) {
            return NONE;
        }
        int many = 0;
        for (int i = 0; i < seeds; i++) {
            trial.follow(now);
            trial.setSeed(text.seed + i);
            trial.sailOn(FAR);
            if (trial.cell[cell] == wanted) {
                many++;
            }
        }
        return many;
    }

    private boolean fitsLog(int league, int k) {
        trial.setOut(league);
        int last = notes.lastWatch(k);
        for (int watch = 0; watch <= last && watch <= WATCHES_AT_ONCE; watch++) {
            if (trial.cell[C_OVER] != 0 || !notes.agrees(k, watch, trial.cell[C_LEAGUE])) {
                return false;
            }
            trial.sailOn(1);
        }
        return true;
    }

    private static int power(int base, int times) {
        int product = 1;
        for (int i = 0; i < times; i++) {
            product *= base;
        }
        return product;
    }

    private static int fraction(int upper, int lower, boolean below) {
        int divisor = commonDivisor(Math.abs(upper), lower);
        if (divisor < 1) {
            return below ? 1 : 0;
        }
        return (below ? lower : upper) / divisor;
    }

    private static int commonDivisor(int one, int other) {
        int a = one;
        int b = other;
        // Euclid's steps on ints of 32 bits are far fewer than this bound.
        for (int step = 0; step < 100 && b != 0; step++) {
            int rest = a % b;
            a = b;
            b = rest;
        }
        return a;
    }

    private static int within(int value, int least, int most) {
        return value < least ? least : Math.min(value, most);
    }

    /** Takes the k-th of the first many men out of a row, and answers who it was. */
    private static int takeOut(int[] row, int many, int k) {
        if (many > row.length || k < 0 || k >= many) {
            return NOBODY;
        }
        int man = row[k];
        for (int i = k; i + 1 < many; i++) {
            row[i] = row[i + 1];
        }
        return man;
    }

    /** The LAWS of one text as code for a machine with a stack, and that machine. */
    private static final class Laws {
        static final int OP_NUMBER = 0;
        static final int OP_VAR = 1;
        static final int OP_END = 2;
        static final int OP_UNLESS_LESS = 3;
        static final int OP_ADD = 4;
        static final int OP_TAKE = 5;
        static final int OP_TIMES = 6;
        static final int OP_DIVIDE = 7;
        // A token makes one code at most; the laws that hold if not told make 16.
        private static final int CODE_ROOM = 432;
        // Two numbers wait at each of 7 levels, one ahead of '<', and one is being made.
        private static final int STACK_ROOM = 32;

        private static final int[] SEEN = {
            1 << V_WATCH | 1 << V_LEAGUE,
            1 << V_WATCH | 1 << V_LEAGUE,
            1 << V_WATCH | 1 << V_LEAGUE | 1 << V_SKILL | 1 << V_BLOWS | 1 << V_NEAR,
            1 << V_WATCH | 1 << V_LEAGUE | 1 << V_SAIL | 1 << V_BLOWS | 1 << V_NEAR | 1 << V_HELM | 1 << V_SKILL,
            1 << V_WATCH | 1 << V_LEAGUE | 1 << V_SAIL | 1 << V_BLOWS | 1 << V_NEAR | 1 << V_HELM | 1 << V_LOOK
                | 1 << V_SKILL,
            1 << V_WATCH | 1 << V_LEAGUE | 1 << V_COOK | 1 << V_SKILL,
            1 << V_WATCH | 1 << V_LEAGUE | 1 << V_COOK | 1 << V_SAIL | 1 << V_SKILL
        };
        private static final int[] LEAST = {0, 0, 0, RUNS_LEAST, 0, 0, -9};
        private static final int[] MOST = {9, 9, 3, RUNS_MOST, STRIKES_MOST, 99, 9};

        final int[] vars = new int[VARS];
        private final int[] code = new int[CODE_ROOM];
        private final int[] starts = new int[LAWS];
        private final int[] stack = new int[STACK_ROOM];
        private int size;

        Laws() {
            size = 0;
        }

        void clear() {
            size = 0;
            setNumber(L_WIND, 2);
            setNumber(L_DANGER, 0);
            setNumber(L_ORDERS, 1);
            starts[L_RUNS] = size;
            emit(OP_VAR, V_BLOWS);
            emit(OP_VAR, V_SAIL);
            emit(OP_ADD, 0);
            emit(OP_END, 0);
            setNumber(L_STRIKES, 0);
            setNumber(L_EATS, 1);
            setNumber(L_MOODS, 0);
        }

        private void setNumber(int law, int number) {
            starts[law] = size;
            emit(OP_NUMBER, number);
            emit(OP_END, 0);
        }

        void become(Laws other) {
            System.arraycopy(other.code, 0, code, 0, CODE_ROOM);
            System.arraycopy(other.starts, 0, starts, 0, LAWS);
            size = other.size;
        }

        int codes() {
            return size;
        }

        void setStart(int law, int start) {
            if (law >= 0 && law < LAWS) {
                starts[law] = start;
            }
        }

        void emit(int op, int argument) {
            if (size < CODE_ROOM) {
                code[size] = argument << 4 | op;
                size++;
            }
        }

        /** A VAR that the document does not tell for a law is 0 in it. */
        void emitVar(int law, int var) {
            if (law >= 0 && law < LAWS && (SEEN[law] >> var & 1) == 1) {
                emit(OP_VAR, var);
            } else {
                emit(OP_NUMBER, 0);
            }
        }

        /** Where an if does not hold, the code goes on from here. */
        void aimHere(int hole) {
            if (hole >= 0 && hole < size) {
                code[hole] = size << 4 | OP_UNLESS_LESS;
            }
        }

        void noteWeather(int watch, int league) {
            vars[V_WATCH] = watch;
            vars[V_LEAGUE] = league;
            vars[V_BLOWS] = held(L_WIND);
            vars[V_NEAR] = held(L_DANGER);
        }

        int sailBy(int captainSkill) {
            vars[V_SKILL] = captainSkill;
            return held(L_ORDERS);
        }

        /** What a law says of vars, held to its bounds; of ORDERS: SAIL. */
        int held(int law) {
            if (law < 0 || law >= LAWS) {
                return 0;
            }
            int value = run(starts[law]);
            return within(law == L_ORDERS ? value % SAILS : value, LEAST[law], MOST[law]);
        }

        private int run(int start) {
            int at = start;
            int top = 0;
            for (int step = 0; step < CODE_ROOM; step++) {
                if (at < 0 || at >= size || top >= STACK_ROOM) {
                    return 0;
                }
                int op = code[at] & 15;
                int argument = code[at] >> 4;
                at++;
                if (op == OP_NUMBER) {
                    stack[top] = argument;
                    top++;
                } else if (op == OP_VAR) {
                    stack[top] = argument >= 0 && argument < VARS ? vars[argument] : 0;
                    top++;
                } else if (op == OP_END) {
                    return top > 0 ? stack[top - 1] : 0;
                } else if (top < 2) {
                    return 0;
                } else if (op == OP_UNLESS_LESS) {
                    top -= 2;
                    at = stack[top] < stack[top + 1] ? at : argument;
                } else {
                    top--;
                    int other = stack[top];
                    if (op == OP_ADD) {
                        stack[top - 1] += other;
                    } else if (op == OP_TAKE) {
                        stack[top - 1] -= other;
                    } else if (op == OP_TIMES) {
                        stack[top - 1] *= other;
                    } else if (other == 0) {
                        return 0;
                    } else {
                        stack[top - 1] /= other;
                    }
                }
            }
            return 0;
        }
    }

    /** What a text tells: the MEN, the LAWS, the numbers of the SHIP. */
    private static final class Text {
        final Laws laws = new Laws();
        final int[] skills = new int[MEN_ROOM * POSTS];
        final int[] sleeves = new int[MEN_ROOM];
        private final long[] names = new long[MEN_ROOM];
        int men;
        int hull;
        int food;
        int mood;
        int goal;
        int broom;
        int seed;

        Text() {
            clear();
        }

        /** Nothing is told. */
        void clear() {
            men = 0;
            hull = 20;
            food = 99;
            mood = 50;
            goal = 60;
            broom = 999;
            seed = 0;
            laws.clear();
        }

        void become(Text other) {
            laws.become(other.laws);
            System.arraycopy(other.skills, 0, skills, 0, MEN_ROOM * POSTS);
            System.arraycopy(other.sleeves, 0, sleeves, 0, MEN_ROOM);
            men = other.men;
            hull = other.hull;
            food = other.food;
            mood = other.mood;
            goal = other.goal;
            broom = other.broom;
            seed = other.seed;
        }

        boolean has(int man) {
            return man >= 0 && man < men;
        }

        boolean knows(long name) {
            for (int man = 0; man < men && man < MEN_ROOM; man++) {
                if (names[man] == name) {
                    return true;
                }
            }
            return false;
        }

        void addMan(long name) {
            if (men < MEN_ROOM) {
                names[men] = name;
                men++;
            }
        }

        /** What a text tells of the last of the MEN: 0 to 3 a SKILL, 4 the SLEEVE. */
        void setLastMan(int what, int number) {
            int man = men - 1;
            if (man < 0 || what < 0 || what > POSTS) {
                return;
            }
            if (what < POSTS) {
                skills[man * POSTS + what] = number;
            } else {
                sleeves[man] = number;
            }
        }

        int skillOf(int man, int post) {
            return has(man) && isPost(post) ? skills[man * POSTS + post] : 0;
        }

        /** Four MEN of a row, from a place in it on, are at the POSTS. */
        void notePosts(int[] row, int from) {
            if (from < 0 || from + POSTS > row.length) {
                return;
            }
            laws.vars[V_SKILL] = skillOf(row[from], 0);
            laws.vars[V_HELM] = skillOf(row[from + 1], 1);
            laws.vars[V_LOOK] = skillOf(row[from + 2], 2);
            laws.vars[V_COOK] = skillOf(row[from + 3], 3);
        }
    }

    /** The TOKENS of a tape, up to the first that is none, the 401st, or the end. */
    private static final class Tokens {
        static final int END = 0;
        static final int BAD = 1;
        static final int NAME = 2;
        static final int INT = 3;
        static final int SIGN = 4;
        static final int WORD = 5;

        static final int W_MAN = 0;
        static final int W_WIND = 1;
        static final int W_MOODS = 7;
        static final int W_SHIP = 8;
        static final int W_GOAL = 9;
        static final int W_BROOM = 10;
        static final int W_SEED = 11;
        static final int W_IF = 12;
        static final int W_THEN = 13;
        static final int W_ELSE = 14;
        static final int W_WATCH = 15;
        static final int W_NEAR = 23;

        private static final int NAME_ROOM = 8;
        private static final int INT_ROOM = 4;
        private static final int WORD_COUNT = 24;
        // The words in quotes by their W_ numbers, each with blanks up to 8 signs.
        private static final String WORDS = "man     wind    danger  orders  runs    strikes eats    moods   ship    goal    broom   seed    if      then    else    watch   league  skill   helm    look    cook    sail    blows   near    ";
        private static final String SIGNS = ";=+-*/<()";

        final int[] kinds = new int[TOKEN_ROOM + 1];
        final int[] places = new int[TOKEN_ROOM + 1];
        final long[] values = new long[TOKEN_ROOM + 1];
        int size;
        private final byte[] tape;
        private int length;
        private int at;

        Tokens(byte[] tape) {
            this.tape = tape;
            length = 0;
        }

        void split(int tapeLength) {
            length = Math.min(tapeLength, tape.length);
            at = 0;
            size = 0;
            boolean more = true;
            for (int i = 0; i <= TOKEN_ROOM && more; i++) {
                more = scan();
            }
        }

        private boolean scan() {
            while (at < length && isBlank(tape[at])) {
                at++;
            }
            if (at >= length) {
                put(END, 0, at);
                return false;
            }
            if (isLetter(tape[at])) {
                return scanLetters();
            }
            if (isDigit(tape[at])) {
                return scanDigits();
            }
            int place = at;
            at++;
            boolean sign = tape[place] > 0 && SIGNS.indexOf((char) tape[place]) >= 0;
            put(sign ? SIGN : BAD, tape[place], place);
            return sign;
        }

        private boolean scanLetters() {
            int place = at;
            long name = 0;
            while (at < length && isLetter(tape[at])) {
                name = name * 32 + (tape[at] - 'a' + 1);
                at++;
            }
            if (at - place > NAME_ROOM) {
                put(BAD, 0, place);
                return false;
            }
            int word = wordAt(place, at - place);
            if (word == NONE) {
                put(NAME, name, place);
            } else {
                put(WORD, word, place);
            }
            return true;
        }

        private boolean scanDigits() {
            int place = at;
            int number = 0;
            while (at < length && isDigit(tape[at])) {
                number = number * 10 + (tape[at] - '0');
                at++;
            }
            boolean token = at - place <= INT_ROOM;
            put(token ? INT : BAD, number, place);
            return token;
        }

        private int wordAt(int place, int many) {
            for (int word = 0; word < WORD_COUNT; word++) {
                if (isWord(word, place, many)) {
                    return word;
                }
            }
            return NONE;
        }

        private boolean isWord(int word, int place, int many) {
            int from = word * NAME_ROOM;
            for (int i = 0; i < NAME_ROOM; i++) {
                int sign = i < many && place + i < length ? tape[place + i] : ' ';
                if (from + i >= WORDS.length() || WORDS.charAt(from + i) != sign) {
                    return false;
                }
            }
            return true;
        }

        private void put(int kind, long value, int place) {
            if (size <= TOKEN_ROOM) {
                kinds[size] = kind;
                values[size] = value;
                places[size] = place;
                size++;
            }
        }

        private static boolean isBlank(int sign) {
            return sign == 32 || sign == 9 || sign == 10 || sign == 13;
        }

        private static boolean isLetter(int sign) {
            return sign >= 'a' && sign <= 'z';
        }

        private static boolean isDigit(int sign) {
            return sign >= '0' && sign <= '9';
        }
    }

    /** Reads TOKENS into a Text, and finds the FAULT. */
    private static final class Reader {
        private static final int SYNTAX = 1;
        private static final int ROOM = 2;
        private static final int TWICE = 3;
        private static final int WRONG = 5;

        private final Tokens tokens;
        private final Text into;
        // The token that comes next: how many are ahead of it, and what it is.
        private int at;
        private int kind;
        private long value;
        private int start;
        private int fault;
        private int place;
        private int laterFault;
        private int laterPlace;

        Reader(Text into, byte[] tape) {
            this.into = into;
            tokens = new Tokens(tape);
            place = NONE;
        }

        /** The FAULT's number, or 0; what the text tells is in the Text then. */
        int readTape(int length) {
            into.clear();
            tokens.split(length);
            fault = 0;
            place = NONE;
            laterFault = 0;
            laterPlace = NONE;
            at = -1;
            accept();
            for (int i = 0; i <= TOKEN_ROOM && fault == 0 && kind != Tokens.END; i++) {
                readTell();
            }
            if (fault == 0) {
                fault = laterFault;
                place = laterPlace;
            }
            return fault;
        }

        int placeOfFault() {
            return place;
        }

        private void readTell() {
            int word = kind == Tokens.WORD ? (int) value : NONE;
            if (word == Tokens.W_MAN) {
                readMan();
            } else if (word >= Tokens.W_WIND && word <= Tokens.W_MOODS) {
                readLaw(word - Tokens.W_WIND);
            } else if (word >= Tokens.W_SHIP && word <= Tokens.W_SEED) {
                readNumbers(word);
            } else {
                refuse(SYNTAX);
            }
        }

        private void readNumbers(int word) {
            accept();
            if (word == Tokens.W_SHIP) {
                into.hull = number(1, 99);
                into.food = number(0, 999);
                into.mood = number(0, MOOD_TOP);
            } else if (word == Tokens.W_GOAL) {
                into.goal = number(1, 999);
            } else if (word == Tokens.W_BROOM) {
                into.broom = number(0, 9999);
            } else {
                into.seed = number(0, 9999);
            }
            sign(';');
        }

        private void readMan() {
            if (into.men >= MEN_ROOM) {
                refuse(ROOM);
                return;
            }
            accept();
            if (kind != Tokens.NAME) {
                refuse(SYNTAX);
                return;
            }
            if (into.knows(value)) {
                noteLater(TWICE);
            }
            into.addMan(value);
            accept();
            for (int what = 0; what <= POSTS; what++) {
                into.setLastMan(what, number(0, 9));
            }
            sign(';');
        }

        private void readLaw(int law) {
            Laws laws = into.laws;
            int first = laws.codes();
            accept();
            sign('=');
            for (int ifs = 0; ifs < IF_ROOM && isWord(Tokens.W_IF); ifs++) {
                accept();
                readSum(law, 0);
                sign('<');
                readSum(law, 0);
                int hole = laws.codes();
                laws.emit(Laws.OP_UNLESS_LESS, 0);
                word(Tokens.W_THEN);
                readSum(law, 0);
                laws.emit(Laws.OP_END, 0);
                laws.aimHere(hole);
                word(Tokens.W_ELSE);
            }
            if (isWord(Tokens.W_IF)) {
                refuse(ROOM);
            }
            readSum(law, 0);
            laws.emit(Laws.OP_END, 0);
            laws.setStart(law, first);
            sign(';');
        }

        /** An E: a + or - waits till the PART behind it is whole. */
        private void readSum(int law, int depth) {
            Laws laws = into.laws;
            int waiting = NONE;
            readUnit(law, depth);
            int op = operator();
            for (int i = 0; i < TOKEN_ROOM && op != NONE; i++) {
                boolean joinsParts = op == Laws.OP_ADD || op == Laws.OP_TAKE;
                if (joinsParts && waiting != NONE) {
                    laws.emit(waiting, 0);
                }
                accept();
                readUnit(law, depth);
                if (joinsParts) {
                    waiting = op;
                } else {
                    laws.emit(op, 0);
                }
                op = operator();
            }
            if (waiting != NONE) {
                laws.emit(waiting, 0);
            }
        }

        private void readUnit(int law, int depth) {
            if (kind == Tokens.INT) {
                into.laws.emit(Laws.OP_NUMBER, (int) value);
                accept();
            } else if (kind == Tokens.WORD && value >= Tokens.W_WATCH && value <= Tokens.W_NEAR) {
                into.laws.emitVar(law, (int) value - Tokens.W_WATCH);
                accept();
            } else if (!isSign('(')) {
                refuse(SYNTAX);
            } else if (depth >= NEST_ROOM) {
                refuse(ROOM);
            } else {
                accept();
                readSum(law, depth + 1);
                sign(')');
            }
        }

        private int operator() {
            if (isSign('+')) {
                return Laws.OP_ADD;
            }
            if (isSign('-')) {
                return Laws.OP_TAKE;
            }
            if (isSign('*')) {
                return Laws.OP_TIMES;
            }
            return isSign('/') ? Laws.OP_DIVIDE : NONE;
        }

        private boolean isSign(char wanted) {
            return kind == Tokens.SIGN && value == wanted;
        }

        private boolean isWord(int wanted) {
            return kind == Tokens.WORD && value == wanted;
        }

        private void sign(char wanted) {
            if (isSign(wanted)) {
                accept();
            } else {
                refuse(SYNTAX);
            }
        }

        private void word(int wanted) {
            if (isWord(wanted)) {
                accept();
            } else {
                refuse(SYNTAX);
            }
        }

        private int number(int least, int most) {
            if (kind != Tokens.INT) {
                refuse(SYNTAX);
                return 0;
            }
            int number = (int) value;
            if (number < least || number > most) {
                noteLater(WRONG);
            }
            accept();
            return number;
        }

        /** A token is counted only when it fits, since SYNTAX is ahead of ROOM at one place. */
        private void accept() {
            if (at >= TOKEN_ROOM) {
                // A token that fits has no FAULT ahead of it, so this is the first.
                fault = ROOM;
                place = start;
                kind = Tokens.BAD;
                return;
            }
            at++;
            if (at >= 0 && at < tokens.size) {
                kind = tokens.kinds[at];
                value = tokens.values[at];
                start = tokens.places[at];
            }
        }

        /** Behind a FAULT the token is of no kind that fits, so that reading ends there. */
        private void refuse(int number) {
            if (fault == 0) {
                fault = number;
                place = start;
            }
            kind = Tokens.BAD;
        }

        private void noteLater(int number) {
            if (laterFault == 0) {
                laterFault = number;
                laterPlace = start;
            }
        }
    }

    /** One voyage as it stands, and how its WATCHES go by. */
    private static final class Ship {
        final int[] cell = new int[CELLS];
        private final int[] left = new int[MEN_ROOM];
        private final Text text;
        private int seed;
        private int sailForAll;

        Ship(Text text) {
            this.text = text;
            seed = 0;
            sailForAll = NONE;
        }

        /** The voyage begins as the text tells, but at a LEAGUE. */
        void setOut(int league) {
            Arrays.fill(cell, 0);
            cell[C_LEAGUE] = league;
            cell[C_HULL] = text.hull;
            cell[C_FOOD] = text.food;
            cell[C_MOOD] = text.mood;
            cell[C_STRAWS] = text.broom;
            cell[C_MARRIED] = NOBODY;
            for (int post = 0; post < POSTS; post++) {
                cell[C_POST + post] = NOBODY;
            }
            for (int man = 0; man < text.men && man < MEN_ROOM; man++) {
                cell[C_SLEEVE + man] = text.sleeves[man];
            }
            seed = text.seed;
            sailForAll = NONE;
            // She may set out without FOOD, or at GOAL: then no watch begins.
            findEnd();
        }

        void follow(Ship other) {
            System.arraycopy(other.cell, 0, cell, 0, CELLS);
            seed = text.seed;
            sailForAll = NONE;
        }

        void setSeed(int number) {
            seed = number;
        }

        void setSail(int sail) {
            sailForAll = sail;
        }

        void setPost(int post, int man) {
            if (isPost(post)) {
                cell[C_POST + post] = man == NONE ? NOBODY : man;
            }
        }

        boolean hides(int man) {
            return (cell[C_HIDERS] >> man & 1) == 1;
        }

        void setHides(int man, boolean hides) {
            int bit = 1 << man;
            cell[C_HIDERS] = hides ? cell[C_HIDERS] | bit : cell[C_HIDERS] & ~bit;
        }

        int postOf(int man) {
            for (int post = 0; post < POSTS; post++) {
                if (cell[C_POST + post] == man) {
                    return post;
                }
            }
            return NOBODY;
        }

        int strawsUpSleeves() {
            int many = 0;
            for (int man = 0; man < MEN_ROOM; man++) {
                many += cell[C_SLEEVE + man];
            }
            return many;
        }

        int measure(int what) {
            if (what >= C_LEAGUE && what <= C_WATCH) {
                return cell[what];
            }
            if (what < 8 || what > 9) {
                return NONE;
            }
            noteWeather();
            return text.laws.vars[what == 8 ? V_BLOWS : V_NEAR];
        }

        void noteWeather() {
            text.laws.noteWeather(cell[C_WATCH], cell[C_LEAGUE]);
        }

        /** At most n WATCHES, till the voyage is over: how many there were. */
        int sailOn(int n) {
            int gone = 0;
            while (gone < n && cell[C_OVER] == 0) {
                drawStraws();
                keepWatch();
                gone++;
            }
            return gone;
        }

        private void drawStraws() {
            int men = text.men;
            if (cell[C_STRAWS] < men) {
                return;
            }
            cell[C_STRAWS] -= men;
            for (int man = 0; man < men && man < MEN_ROOM; man++) {
                left[man] = man;
            }
            for (int post = 0; post < POSTS; post++) {
                int many = men - post;
                cell[C_POST + post] = many > 0 ? takeOut(left, many, lot(many, 64 * cell[C_WATCH] + post)) : NOBODY;
            }
            hideCaptain();
        }

        private void hideCaptain() {
            int captain = cell[C_POST];
            int helm = cell[C_POST + 1];
            if (!text.has(captain) || !text.has(helm) || !hides(captain) || cell[C_SLEEVE + captain] == 0) {
                return;
            }
            cell[C_SLEEVE + captain]--;
            cell[C_POST] = helm;
            cell[C_POST + 1] = captain;
        }

        private int lot(int many, int which) {
            int hash = stirred(stirred(seed, 81), which);
            return many > 0 ? (hash >>> 1) % many : 0;
        }

        private static int stirred(int hash, int number) {
            int mixed = (hash ^ number) * 1103515245 + 12345;
            return mixed ^ mixed >>> 15;
        }

        /** A WATCH by those who are at the POSTS: SAIL. */
        int keepWatch() {
            Laws laws = text.laws;
            laws.noteWeather(cell[C_WATCH], cell[C_LEAGUE]);
            text.notePosts(cell, C_POST);
            int sail = sailNow();
            laws.vars[V_SAIL] = sail;
            cell[C_LEAGUE] = within(cell[C_LEAGUE] + laws.held(L_RUNS), 0, text.goal);
            cell[C_HULL] = Math.max(0, cell[C_HULL] - laws.held(L_STRIKES));
            cell[C_FOOD] = Math.max(0, cell[C_FOOD] - laws.held(L_EATS));
            cell[C_MOOD] = within(cell[C_MOOD] + laws.held(L_MOODS), 0, MOOD_TOP);
            cell[C_WATCH]++;
            if (text.has(cell[C_POST])) {
                cell[C_CAPTAINED + cell[C_POST]]++;
            }
            passMutiny();
            findEnd();
            return sail;
        }

        private int sailNow() {
            if (cell[C_MUTINY] > 0) {
                return 0;
            }
            return sailForAll == NONE ? text.laws.held(L_ORDERS) : sailForAll;
        }

        private void passMutiny() {
            if (cell[C_MUTINY] > 0) {
                cell[C_MUTINY]--;
            }
            if (cell[C_MUTINY] == 0 && cell[C_MOOD] == 0) {
                cell[C_MUTINY] = MUTINY_LASTS;
                cell[C_MUTINIES]++;
            }
        }

        private void findEnd() {
            if (cell[C_LEAGUE] >= text.goal) {
                cell[C_OVER] = AT_GOAL;
                cell[C_MARRIED] = cell[C_POST];
            } else if (cell[C_HULL] == 0) {
                cell[C_OVER] = WRECKED;
            } else if (cell[C_FOOD] == 0) {
                cell[C_OVER] = STARVED;
            }
        }
    }

    /** All DRAWS of a crew, in order by POST 0's MAN, then the next one's, and what a WATCH does over them. */
    private static final class Draws {
        private static final int DRAWS_ROOM = 360;

        private final Text text;
        private final int[] who = new int[DRAWS_ROOM * POSTS];
        private final int[] left = new int[MEN_ROOM];
        private final int[] tally = new int[STRIKES_KINDS];
        // By the first SAIL, what she RUNS and what STRIKES: draws behind which the voyage goes on.
        private final int[] goesOn = new int[SAILS * RUNS_KINDS * STRIKES_KINDS];
        // By the first SAIL and the second: in how many ways HULL is above 0.
        private final int[] ways = new int[SAILS * SAILS];
        int size;

        Draws(Text text) {
            this.text = text;
            size = 1;
        }

        /** Finds the DRAWS anew, for a new crew. */
        void deal() {
            size = 1;
            for (int post = 0; post < POSTS; post++) {
                size *= Math.max(1, text.men - post);
            }
            for (int d = 0; d < size && d < DRAWS_ROOM; d++) {
                dealOne(d);
            }
        }

        private void dealOne(int d) {
            for (int man = 0; man < MEN_ROOM; man++) {
                left[man] = man;
            }
            int span = size;
            int rest = d;
            for (int post = 0; post < POSTS; post++) {
                int many = text.men - post;
                int man = NOBODY;
                if (many > 0) {
                    span = Math.max(1, span / many);
                    man = takeOut(left, many, rest / span);
                    rest %= span;
                }
                who[d * POSTS + post] = man;
            }
        }

        int whoAt(int d, int post) {
            return d >= 0 && d < size && isPost(post) ? who[d * POSTS + post] : NOBODY;
        }

        int skillsOf(int d) {
            int sum = 0;
            for (int post = 0; post < POSTS; post++) {
                sum += text.skillOf(whoAt(d, post), post);
            }
            return sum;
        }

        int bestRoster() {
            int best = 0;
            int most = skillsOf(0);
            for (int d = 1; d < size; d++) {
                int sum = skillsOf(d);
                if (sum > most) {
                    best = d;
                    most = sum;
                }
            }
            return best;
        }

        private void noteDraw(int d, int sail) {
            text.notePosts(who, d * POSTS);
            text.laws.vars[V_SAIL] = sail == NONE ? text.laws.held(L_ORDERS) : sail;
        }

        int sumOf(int law, int sail) {
            int sum = 0;
            for (int d = 0; d < size; d++) {
                noteDraw(d, sail);
                sum += text.laws.held(law);
            }
            return sum;
        }

        int extremeOf(int law, int sail, boolean greatest) {
            noteDraw(0, sail);
            int extreme = text.laws.held(law);
            for (int d = 1; d < size; d++) {
                noteDraw(d, sail);
                int value = text.laws.held(law);
                extreme = greatest ? Math.max(extreme, value) : Math.min(extreme, value);
            }
            return extreme;
        }

        void tallyStrikes(int sail) {
            Arrays.fill(tally, 0);
            // Draws in a row differ in the cook alone, whom STRIKES do not see.
            int alike = Math.max(1, text.men - POSTS + 1);
            for (int d = 0; d < size; d += alike) {
                noteDraw(d, sail);
                tally[within(text.laws.held(L_STRIKES), 0, STRIKES_MOST)] += alike;
            }
        }

        /** In how many of the tallied DRAWS STRIKES are fewer than some. */
        int fewerThan(int some) {
            int many = 0;
            for (int strikes = 0; strikes < some && strikes < STRIKES_KINDS; strikes++) {
                many += tally[strikes];
            }
            return many;
        }

        int waysOf(int sails) {
            return sails >= 0 && sails < SAILS * SAILS ? ways[sails] : 0;
        }

        /** SAFEST for n WATCHES: 4 times the first SAIL and the second (0 for one watch). */
        int safestOf(int n, int[] cell) {
            Arrays.fill(ways, 0);
            // No strikes are to come, or none that could wreck her.
            if (cell[C_OVER] != 0 || cell[C_HULL] > n * STRIKES_MOST) {
                Arrays.fill(ways, cell[C_HULL] == 0 ? 0 : n == 1 ? size : size * size);
            } else if (n == 1) {
                weighOne(cell);
            } else {
                Arrays.fill(goesOn, 0);
                for (int sail = 0; sail < SAILS; sail++) {
                    weighFirst(sail, cell);
                }
                weighSecond(cell);
            }
            int best = 0;
            for (int sails = 0; sails < SAILS * SAILS; sails++) {
                if (ways[sails] > ways[best]) {
                    best = sails;
                }
            }
            return best;
        }

        private void weighOne(int[] cell) {
            text.laws.noteWeather(cell[C_WATCH], cell[C_LEAGUE]);
            for (int sail = 0; sail < SAILS; sail++) {
                tallyStrikes(sail);
                ways[sail * SAILS] = fewerThan(cell[C_HULL]);
            }
        }

        private void weighFirst(int sail, int[] cell) {
            Laws laws = text.laws;
            laws.noteWeather(cell[C_WATCH], cell[C_LEAGUE]);
            for (int d = 0; d < size; d++) {
                noteDraw(d, sail);
                int strikes = within(laws.held(L_STRIKES), 0, STRIKES_MOST);
                if (strikes >= cell[C_HULL]) {
                    continue;
                }
                int runs = within(laws.held(L_RUNS), RUNS_LEAST, RUNS_MOST);
                if (cell[C_LEAGUE] + runs >= text.goal || cell[C_FOOD] <= laws.held(L_EATS)) {
                    for (int next = 0; next < SAILS; next++) {
                        ways[sail * SAILS + next] += size;
                    }
                } else {
                    goesOn[(sail * RUNS_KINDS + runs - RUNS_LEAST) * STRIKES_KINDS + strikes]++;
                }
            }
        }

        private void weighSecond(int[] cell) {
            for (int kind = 0; kind < RUNS_KINDS; kind++) {
                if (isReached(kind)) {
                    text.laws.noteWeather(cell[C_WATCH] + 1, Math.max(0, cell[C_LEAGUE] + kind + RUNS_LEAST));
                    for (int next = 0; next < SAILS; next++) {
                        tallyStrikes(next);
                        addWays(kind, next, cell[C_HULL]);
                    }
                }
            }
        }

        private boolean isReached(int kind) {
            for (int i = 0; i < SAILS * STRIKES_KINDS; i++) {
                int sail = i / STRIKES_KINDS;
                if (goesOn[(sail * RUNS_KINDS + kind) * STRIKES_KINDS + i % STRIKES_KINDS] > 0) {
                    return true;
                }
            }
            return false;
        }

        private void addWays(int kind, int next, int hull) {
            for (int strikes = 0; strikes < STRIKES_KINDS; strikes++) {
                int lasting = fewerThan(hull - strikes);
                for (int sail = 0; sail < SAILS; sail++) {
                    int many = goesOn[(sail * RUNS_KINDS + kind) * STRIKES_KINDS + strikes];
                    ways[sail * SAILS + next] += many * lasting;
                }
            }
        }
    }

    /** What can be undone, the latest 40 things, and what the SLOTS hold. */
    private static final class Past {
        private static final int UNDO_ROOM = 40;
        private static final int SLOTS = 3;

        private final int[][] rows = new int[UNDO_ROOM][CELLS];
        private final int[][] slots = new int[SLOTS][CELLS];
        private final boolean[] holds = new boolean[SLOTS];
        private int next;
        int undoable;

        Past() {
            next = 0;
            undoable = 0;
        }

        void save(int[] cell) {
            if (next < 0 || next >= UNDO_ROOM || cell.length < CELLS) {
                return;
            }
            System.arraycopy(cell, 0, rows[next], 0, CELLS);
            next = (next + 1) % UNDO_ROOM;
            undoable = Math.min(undoable + 1, UNDO_ROOM);
        }

        boolean takeBack(int[] cell) {
            if (undoable == 0 || cell.length < CELLS) {
                return false;
            }
            next = next > 0 ? next - 1 : UNDO_ROOM - 1;
            undoable--;
            System.arraycopy(rows[next], 0, cell, 0, CELLS);
            return true;
        }

        void forgetUndo() {
            undoable = 0;
        }

        boolean keep(int slot, int[] cell) {
            if (slot < 0 || slot >= SLOTS || cell.length < CELLS) {
                return false;
            }
            System.arraycopy(cell, 0, slots[slot], 0, CELLS);
            holds[slot] = true;
            return true;
        }

        boolean goBackTo(int slot, int[] cell) {
            if (slot < 0 || slot >= SLOTS || !holds[slot] || cell.length < CELLS) {
                return false;
            }
            System.arraycopy(slots[slot], 0, cell, 0, CELLS);
            forgetUndo();
            return true;
        }

        int slotsHeld() {
            int many = 0;
            for (int slot = 0; slot < SLOTS; slot++) {
                many += holds[slot] ? 1 : 0;
            }
            return many;
        }

        void forgetSlots() {
            for (int slot = 0; slot < SLOTS; slot++) {
                holds[slot] = false;
            }
        }
    }

    /** What is TOLD of captains, and what is LOGGED of LEAGUES. */
    private static final class Notes {
        static final int TOLD_ROOM = 10;
        private static final int LOG_ROOM = 20;
        private static final int GIVE_OR_TAKE = 2;

        private final int[] captains = new int[TOLD_ROOM];
        private final int[] watches = new int[LOG_ROOM];
        private final int[] leagues = new int[LOG_ROOM];
        int told;
        int logged;

        Notes() {
            told = 0;
            logged = 0;
        }

        int addTold(int captain) {
            if (told >= TOLD_ROOM) {
                return NONE;
            }
            captains[told] = captain;
            told++;
            return told - 1;
        }

        boolean wasTold(int man, int k) {
            for (int i = 0; i < k && i < told; i++) {
                if (captains[i] == man) {
                    return true;
                }
            }
            return false;
        }

        int addLogged(int watch, int league) {
            if (logged >= LOG_ROOM) {
                return NONE;
            }
            watches[logged] = watch;
            leagues[logged] = league;
            logged++;
            return logged - 1;
        }

        /** The latest watch in the first k of what is LOGGED. */
        int lastWatch(int k) {
            int last = NONE;
            for (int i = 0; i < k && i < logged; i++) {
                last = Math.max(last, watches[i]);
            }
            return last;
        }

        boolean agrees(int k, int watch, int league) {
            for (int i = 0; i < k && i < logged; i++) {
                if (watches[i] == watch && Math.abs(leagues[i] - league) > GIVE_OR_TAKE) {
                    return false;
                }
            }
            return true;
        }

        void forgetTold() {
            told = 0;
        }

        void forgetLogged() {
            logged = 0;
        }
    }
}
