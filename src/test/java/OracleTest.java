import java.util.Random;

/** Runs of calls, made up by seeds, on the class and on the Oracle: every answer must be alike. */
public final class OracleTest {
    public static void main(String[] args) {
        int runs = args.length > 0 ? Integer.parseInt(args[0]) : 1500;
        for (int run = 0; run < runs; run++) go(run);
        Twins.finish();
    }

    private static void go(int run) {
        Twins twins = new Twins("run " + run, new Random(run * 7919L + 13));
        MadeUpTexts texts = new MadeUpTexts(twins.random);
        int many = twins.one(1, 3);
        for (int t = 0; t < many; t++) {
            twins.give(texts.any());
            int calls = twins.one(20, 79);
            for (int i = 0; i < calls; i++) twins.call();
        }
        twins.lookAtAll();
    }
}
