import java.util.ArrayList;
import java.util.List;
import java.util.Random;

/** Random runs of up to 512 calls, of several tempers, each answer compared with that of the plain editor. */
public final class ModelRuns {
    private static final int RUNS = 8000;
    /** An object is used for 512 calls, and one step here makes 80 at most. */
    private static final int CALLS = 512 - 80;
    private static final int[] SHARES_WRITING = {8, 30, 14, 5, 4, 3, 2, 2, 4, 1, 2, 10, 3, 1, 3, 8};
    private static final int[] SHARES_COMMANDS = {3, 6, 60, 3, 2, 3, 2, 3, 4, 1, 2, 4, 3, 1, 3, 8};
    private static final int[] SHARES_FINDING = {4, 14, 10, 22, 18, 14, 4, 3, 3, 1, 2, 6, 1, 1, 3, 8};
    private static final int[] SHARES_MACROS = {3, 4, 24, 2, 2, 2, 2, 2, 3, 1, 2, 4, 24, 3, 3, 6};

    private final Random random;
    private final EditorPanels x;
    private final PlainEditor plain;
    private final boolean large;
    private final List<String> calls = new ArrayList<>();

    private ModelRuns(long seed) {
        random = new Random(seed);
        int rows = pick(0, 3, 20, 300, 65536);
        x = new EditorPanels(rows);
        plain = new PlainEditor(rows);
        large = random.nextInt(4) == 0;
    }

    public static void main(String[] args) {
        int[][] tempers = {SHARES_WRITING, SHARES_COMMANDS, SHARES_FINDING, SHARES_MACROS};
        for (int seed = 0; seed < RUNS; seed++) {
            ModelRuns run = new ModelRuns(seed);
            while (run.calls.size() < CALLS) {
                if (!run.call(run.draw(tempers[seed % tempers.length]))) {
                    System.out.println("run " + seed + ": " + String.join("\n", run.calls));
                    System.exit(1);
                }
            }
        }
        System.out.println(RUNS + " random runs are as the plain editor's");
    }

    private int pick(int... of) {
        return of[random.nextInt(of.length)];
    }

    private int draw(int[] shares) {
        int all = 0;
        for (int share : shares) {
            all += share;
        }
        int left = random.nextInt(all);
        int which = 0;
        while (left >= shares[which]) {
            left -= shares[which];
            which++;
        }
        return which;
    }

    private boolean same(String call, int got, int want) {
        calls.add(call + " = " + want);
        if (got != want) {
            calls.add("but the class answered " + got);
        }
        return got == want;
    }

    private int someLine() {
        int lines = plain.lines();
        switch (random.nextInt(12)) {
            case 0:
                return pick(0, -1, lines + 1, 300, 301, Integer.MAX_VALUE, Integer.MIN_VALUE);
            case 1:
                return lines;
            case 2:
                return 1;
            default:
                return 1 + random.nextInt(Math.max(1, lines));
        }
    }

    private int someCharacter() {
        return random.nextInt(40) == 0 ? pick(31, 127, 0, -1, 300) : pick('a', 'a', 'b', 'b', ' ', ' ', '~', 'c');
    }

    private int someNumber() {
        if (random.nextInt(25) == 0) {
            return pick(0, 101, -1, Integer.MAX_VALUE);
        }
        return random.nextInt(large ? 3 : 12) == 0 ? pick(71, 72, 20, 50, 99, 100) : 1 + random.nextInt(4);
    }

    private int someKind() {
        return random.nextInt(40) == 0 ? pick(-1, 16) : random.nextInt(16);
    }

    private int someRow() {
        switch (random.nextInt(12)) {
            case 0:
                return random.nextInt();
            case 1:
            case 2:
            case 3:
                return -1 - random.nextInt(10);
            case 4:
                return -11 + random.nextInt(12);
            default:
                return pick(0, 1, 2, 7, 8, 9, 14, 14, 0, 2, 3, 15) + 16 * pick(1, 1, 1, 2, 3, 0, 100);
        }
    }

    private boolean call(int which) {
        int a = someLine();
        int b = someLine();
        switch (which) {
            case 0:
                return same("line()", x.line(), plain.line());
            case 1:
                return signs(a);
            case 2:
                return command(a, someKind(), someNumber());
            case 3:
                int how = random.nextInt(20) == 0 ? pick(-1, 4) : random.nextInt(4);
                return same("find(" + how + ")", x.find(how), plain.find(how)) && cursor();
            case 4:
                boolean all = random.nextInt(3) == 0;
                return same("change(" + all + ")", x.change(all), plain.change(all)) && cursor();
            case 5:
                int letter = random.nextInt(4) == 0 ? 0 : someCharacter();
                boolean to = random.nextBoolean();
                return same("word(" + letter + ", " + to + ")", x.word(letter, to), plain.word(letter, to));
            case 6:
                return same("exclude(" + a + ", " + b + ")", x.exclude(a, b), plain.exclude(a, b));
            case 7:
                return same("sort(" + a + ", " + b + ")", x.sort(a, b), plain.sort(a, b)) && cursor();
            case 8:
                return same("undo()", x.undo(), plain.undo());
            default:
                return call(which, a);
        }
    }

    private boolean call(int which, int a) {
        switch (which) {
            case 9:
                int member = random.nextInt(10) == 0 ? pick(-1, 10) : random.nextInt(10);
                int edition = random.nextInt(5) == 0 ? random.nextInt(3) - 1 : plain.count(10 + member);
                return same("save(" + member + ", " + edition + ")", x.save(member, edition), plain.save(member, edition));
            case 10:
                return same("lines()", x.lines(), plain.lines());
            case 11:
                return readLine(a);
            case 12:
                int name = random.nextInt(20) == 0 ? pick(-1, 10) : random.nextInt(10);
                int row = someRow();
                return same("macro(" + name + ", " + row + ")", x.macro(name, row), plain.macro(name, row));
            case 13:
                int field = random.nextInt(10) == 0 ? pick(-1, 1) : 0;
                int v = random.nextInt(12) - 1;
                return same("panel(" + field + ", " + v + ")", x.panel(field, v), plain.panel(field, v));
            case 14:
                int shown = random.nextInt(20) == 0 ? pick(0, -1, 301, 65536, 65537) : random.nextInt(plain.lines() + 2);
                return same("shown(" + shown + ")", x.shown(shown), plain.shown(shown));
            default:
                int what = random.nextInt(3) == 0 ? random.nextInt(33) - 1 : random.nextInt(7);
                return same("count(" + what + ")", x.count(what), plain.count(what));
        }
    }

    private boolean command(int line, int kind, int n) {
        int number = kind == 15 && n > 10 && random.nextInt(8) != 0 ? 1 + random.nextInt(10) : n;
        String call = "command(" + line + ", " + kind + ", " + number + ")";
        return same(call, x.command(line, kind, number), plain.command(line, kind, number)) && cursor();
    }

    private boolean signs(int line) {
        int times = random.nextInt(30) == 0 ? 60 : 1;
        for (int i = 0; i < times; i++) {
            int c = someCharacter();
            calls.add("sign(" + line + ", " + c + ")");
            x.sign(line, c);
            plain.sign(line, c);
        }
        return true;
    }

    private boolean readLine(int line) {
        for (int i = random.nextInt(4) == 0 ? -1 : 70; i <= 72; i++) {
            if (!same("at(" + line + ", " + i + ")", x.at(line, i), plain.at(line, i))) {
                return false;
            }
        }
        return cursor();
    }

    private boolean cursor() {
        return same("count(0)", x.count(0), plain.count(0)) && same("count(1)", x.count(1), plain.count(1));
    }
}
