import java.util.Random;

/**
 * 512 calls on each object, as many as the document allows: texts of many MEN and LAWS, texts with a FAULT in between,
 * many things done and undone, SLOTS held and gone on from. Every answer must be the Oracle's.
 */
public final class LongRunsTest {
    private static final int CALLS = 512;
    private static int goodTexts = 0;
    /** How many texts had the FAULT of a number. */
    private static final int[] faults = new int[6];
    private static int deepUndos = 0;

    private final Twins twins;
    private final MadeUpTexts texts;

    private LongRunsTest(int run) {
        twins = new Twins("long run " + run, new Random(run * 104729L + 7));
        texts = new MadeUpTexts(twins.random);
    }

    public static void main(String[] args) {
        int runs = args.length > 0 ? Integer.parseInt(args[0]) : 200;
        for (int run = 0; run < runs; run++) new LongRunsTest(run).go();
        System.out.println(goodTexts + " good texts; with FAULTS 1 SYNTAX: " + faults[1] + ", 2 ROOM: " + faults[2] + ", 3 TWICE: " + faults[3]
            + ", 5 WRONG: " + faults[5] + "; more done than can be undone: " + deepUndos);
        // Runs in which these never come would let all answers pass.
        if (goodTexts == 0 || faults[1] == 0 || faults[2] == 0 || faults[3] == 0 || faults[5] == 0 || deepUndos == 0) {
            System.out.println("the runs are too plain");
            System.exit(1);
        }
        Twins.finish();
    }

    private void go() {
        goodText();
        for (int i = 0; i < CALLS && left() > 0; i++) scene();
        twins.lookAtAll();
        for (int i = 0; i < CALLS * 10 && twins.made < CALLS; i++) twins.call();
    }

    /** How many calls may still be made, the last look left out. */
    private int left() { return CALLS - Twins.LOOKS - twins.made; }

    private void scene() {
        switch (twins.one(0, 39)) {
            case 0 -> faultyText();
            case 1 -> doAndUndo();
            case 2 -> holdAndGoOn();
            case 3 -> noteMuch();
            case 4 -> {
                if (twins.one(0, 2) == 0) goodText();
            }
            default -> twins.call();
        }
    }

    private void goodText() {
        String text = texts.rich();
        for (int i = 0; i < 1000 && Oracle.fault(Oracle.tokens(text)) != null; i++) text = texts.rich();
        if (Twins.cost(text) > left()) return;
        twins.give(text);
        goodTexts++;
    }

    private void faultyText() {
        String text = "";
        for (int i = 0; i < 1000 && Oracle.fault(Oracle.tokens(text)) == null; i++) text = faulty();
        if (Twins.cost(text) + Twins.LOOKS > left()) return;
        faults[Oracle.fault(Oracle.tokens(text))[0]]++;
        twins.give(text);
        twins.lookAtAll();
    }

    private String faulty() {
        String whole = texts.rich();
        String start = whole.substring(0, twins.one(1, Math.min(300, whole.length())));
        return switch (twins.one(0, 4)) {
            case 0 -> "man zoe 1 2 3 4 5; man yan 1 1 1 1 1; man zoe 5 4 3 2 1; goal 9;";
            case 1 -> "goal 9; man zoe 1 2 3 4 5; ship 7 7 " + twins.one(90, 110) + "; seed 5;";
            case 2 -> "goal 9; wind = " + "(".repeat(twins.one(6, 8)) + "5" + ")".repeat(6) + "; eats = 99;";
            default -> texts.spoilt(start);
        };
    }

    private void doAndUndo() {
        int done = twins.one(1, 60), undone = twins.one(1, 45);
        if (done + undone > left()) return;
        int ahead = twins.o.past.size();
        for (int i = 0; i < done; i++) {
            if (twins.one(0, 5) > 0) twins.changeHiding();
            else if (twins.random.nextBoolean()) twins.stand();
            else twins.watches(1);
        }
        if (ahead < 40 && done > 40 && twins.o.past.size() == 40) deepUndos++;
        for (int i = 0; i < undone; i++) twins.undo();
    }

    private void noteMuch() {
        int many = twins.one(1, 24);
        if (2 * many > left()) return;
        for (int i = 0; i < many; i++) {
            twins.log();
            twins.look();
        }
    }

    private void holdAndGoOn() {
        int slot = twins.one(0, 2), between = twins.one(1, 12);
        if (between + 4 > left()) return;
        twins.hold(slot);
        for (int i = 0; i < between; i++) twins.act();
        twins.restore(slot);
        twins.undo();
        twins.call();
    }
}
