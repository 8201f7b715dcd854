import java.util.Random;

/** Calls with numbers from everywhere, also far beyond an object's 512th: none throws, and each answers what it may. */
public final class WildRuns {
    private static final int RUNS = 300;
    private static final int CALLS = 3000;
    private static final int[] EDGES = {Integer.MIN_VALUE, Integer.MIN_VALUE + 1, -65537, -301, -17, -11, -10, -2, -1, 0, 1,
        2, 9, 10, 11, 15, 16, 20, 21, 31, 32, 71, 72, 73, 97, 100, 101, 126, 127, 299, 300, 301, 512, 513, 65535, 65536, 65537,
        Integer.MAX_VALUE - 1, Integer.MAX_VALUE};

    private final Random random;
    private final Check check = new Check();

    private WildRuns(long seed) {
        random = new Random(seed);
    }

    public static void main(String[] args) {
        for (int seed = 0; seed < RUNS; seed++) {
            WildRuns run = new WildRuns(seed);
            EditorPanels x = new EditorPanels(run.any());
            for (int i = 0; i < CALLS; i++) {
                run.call(x, run.random.nextInt(16));
            }
            run.check.end();
        }
        oneCallAgainAndAgain();
        System.out.println(RUNS + " wild runs threw nothing");
    }

    /** What grows with each call of a kind must end somewhere. */
    private static void oneCallAgainAndAgain() {
        for (int which = 0; which < 16; which++) {
            WildRuns run = new WildRuns(which);
            EditorPanels x = new EditorPanels(24);
            x.line();
            for (int i = 0; i < CALLS; i++) {
                run.call(x, which);
                x.panel(0, which == 13 ? 5 : 0);
                x.macro(0, which == 12 ? 18 : -1);
                x.command(1, which == 2 ? 15 : 14, 1);
            }
            run.check.end();
        }
    }

    private int any() {
        switch (random.nextInt(8)) {
            case 0:
                return random.nextInt();
            case 1:
            case 2:
                return EDGES[random.nextInt(EDGES.length)];
            case 3:
                return random.nextInt(300);
            default:
                return random.nextInt(12);
        }
    }

    private void within(String call, int answer, int least, int greatest) {
        check.due(call + " = " + answer + " is an answer of it", answer >= least && answer <= greatest ? 1 : 0, 1);
    }

    private void call(EditorPanels x, int which) {
        int a = any();
        int b = any();
        switch (which) {
            case 0 -> within("line()", x.line(), -3, 300);
            case 1 -> x.sign(a, b);
            case 2 -> within("command()", x.command(a, b, any()), -4, 1);
            case 3 -> within("find()", x.find(a), 0, 300);
            case 4 -> within("change()", x.change(random.nextBoolean()), 0, 300 * 72);
            case 5 -> within("word()", x.word(random.nextBoolean() ? a : 32 + random.nextInt(4), random.nextBoolean()), 0, 20);
            case 6 -> within("exclude()", x.exclude(a, b), -2, 300);
            case 7 -> within("sort()", x.sort(a, b), -2, 300);
            case 8 -> within("undo()", x.undo(), 0, 1);
            case 9 -> within("save()", x.save(a, b), -4, 1);
            case 10 -> within("lines()", x.lines(), 0, 300);
            case 11 -> within("at()", x.at(a, b), -1, 126);
            case 12 -> within("macro()", x.macro(a, b), -4, 1);
            case 13 -> within("panel()", x.panel(random.nextInt(3) == 0 ? a : 0, b), -4, 9);
            case 14 -> within("shown()", x.shown(a), -300, 300);
            default -> within("count()", x.count(a), -1, 3000);
        }
    }
}
