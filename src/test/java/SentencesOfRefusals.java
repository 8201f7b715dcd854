/** The document's paragraph on refusals. */
public final class SentencesOfRefusals {
    private static final int[] NO_LINES = {0, 3, -1, 300, 301, Integer.MIN_VALUE, Integer.MAX_VALUE};

    public static void main(String[] args) throws IllegalAccessException {
        Check.sentences(SentencesOfRefusals.class);
    }

    @Sentence("-2 no such line")
    static void noSuchLine(Check check) {
        EditorPanels x = Check.page("a", "b");
        for (int line : NO_LINES) {
            for (int kind = 0; kind <= 15; kind++) {
                check.due("command(" + line + ", " + kind + ", 1)", x.command(line, kind, 1), -2);
            }
            check.due("exclude(" + line + ", 2)", x.exclude(line, 2), -2);
            check.due("exclude(1, " + line + ")", x.exclude(1, line), -2);
            check.due("sort(" + line + ", 2)", x.sort(line, 2), -2);
            check.due("sort(1, " + line + ")", x.sort(1, line), -2);
        }
        EditorPanels y = new EditorPanels(1);
        check.due("without lines", y.command(1, 0, 1), -2);
        check.due("without lines", y.command(0, 14, 1), -2);
        EditorPanels z = Check.pageOf(300);
        check.due("the last of all", z.command(300, 7, 1), 1);
        check.due("behind the last of all", z.command(301, 7, 1), -2);
    }

    @Sentence("-4 another number is outside")
    static void numberOutside(Check check) {
        EditorPanels x = Check.page("a");
        check.due("kind -1", x.command(1, -1, 1), -4);
        check.due("kind 16", x.command(1, 16, 1), -4);
        for (int kind = 0; kind <= 15; kind++) {
            check.due("n = 0 of kind " + kind, x.command(1, kind, 0), -4);
            check.due("n = 101 of kind " + kind, x.command(1, kind, 101), -4);
        }
        check.due("n = 11 of kind 15", x.command(1, 15, 11), -4);
        check.due("a member", x.save(10, 0), -4);
        check.due("a macro", x.macro(10, 16), -4);
        check.due("a field", x.panel(1, 1), -4);
        check.due("a panel", x.panel(0, 10), -4);
    }

    @Sentence("-3 there would be more than 300 lines")
    static void tooManyLines(Check check) {
        EditorPanels x = Check.pageOf(298);
        check.due("3 blank ones", x.command(1, 0, 3), -3);
        check.due("3 times more", x.command(1, 2, 3), -3);
        x.command(1, 3, 3);
        check.due("3 copies", x.command(9, 5, 1), -3);
        x.command(1, 14, 1);
        x.command(1, 11, 1);
        x.command(3, 11, 1);
        check.due("a block of 3", x.command(9, 6, 1), -3);
        x.command(1, 14, 1);
        x.command(1, 13, 1);
        check.due("a block of 3 once", x.command(3, 13, 1), -3);
        check.due("a block of 1 thrice", x.command(1, 13, 3), -3);
        x.command(1, 14, 1);
        check.due("lines()", x.lines(), 298);
        justEnough(check);
    }

    /** 300 lines are not too many. */
    private static void justEnough(Check check) {
        EditorPanels x = Check.pageOf(298);
        check.due("2 blank ones", x.command(1, 0, 2), 1);
        check.due("lines()", x.lines(), 300);
        x.undo();
        check.due("twice more", x.command(1, 2, 2), 1);
        check.due("lines()", x.lines(), 300);
        x.undo();
        x.command(1, 3, 2);
        check.due("2 copies", x.command(298, 5, 1), 1);
        check.due("lines()", x.lines(), 300);
        x.undo();
        x.command(1, 13, 1);
        check.due("a block of 2 once", x.command(2, 13, 1), 1);
        check.due("lines()", x.lines(), 300);
        x.command(1, 4, 100);
        check.due("moved lines are no more", x.command(300, 5, 1), 1);
        check.due("blocks of 300 are deleted", x.command(1, 10, 1), 0);
        check.due("blocks of 300 are deleted", x.command(300, 10, 1), 1);
        check.due("lines()", x.lines(), 0);
    }

    @Sentence("the first one of these")
    static void firstOfThem(Check check) {
        EditorPanels x = Check.pageOf(300);
        check.due("-4 ahead of -3", x.command(1, 0, 101), -4);
        check.due("-4 ahead of -3", x.command(1, 2, 0), -4);
        check.due("-2 ahead of -3", x.command(301, 0, 1), -2);
        check.due("-2 ahead of -4, the number", x.command(301, 0, 101), -2);
        check.due("-2 ahead of -4, the kind", x.command(301, 16, 1), -2);
        check.due("-2 ahead of -4, the macro", x.command(301, 15, 11), -2);
        x.command(1, 5, 1);
        check.due("-2 ahead of -1", x.command(301, 1, 1), -2);
        check.due("-2 ahead of -1", x.command(0, 5, 1), -2);
        check.due("-2 ahead of -1, a macro", x.command(0, 15, 1), -2);
        check.due("-4 ahead of -1", x.command(1, 1, 0), -4);
        check.due("-4 ahead of -1", x.command(1, 5, 101), -4);
        check.due("-4 ahead of -1, a macro", x.command(1, 15, 11), -4);
        check.due("-1 ahead of -3", x.command(1, 0, 1), -1);
        check.due("-1 ahead of -3", x.command(1, 13, 1), -1);
        check.due("-3", x.command(1, 3, 1), -3);
        x.command(1, 14, 1);
        x.command(1, 13, 1);
        check.due("-1 ahead of -3, another block", x.command(2, 11, 1), -1);
        check.due("-3", x.command(2, 13, 1), -3);
        check.due("-2 ahead of -4, sort()", x.sort(301, 1), -2);
    }

    @Sentence("nothing changes then")
    static void nothingChanges(Check check) {
        EditorPanels x = Check.page("b", "a");
        x.word('a', false);
        x.command(1, 8, 1);
        x.exclude(1, 1);
        x.find(1);
        x.command(2, 3, 1);
        String texts = Check.texts(x);
        String counts = Check.counts(x);
        check.due("counts", counts, " 2 0 1 1 2 1 0");
        int[][] refused = {{3, 0, 1}, {0, 14, 1}, {1, 16, 1}, {1, 14, 0}, {1, 14, 101}, {1, 1, 1}, {1, 4, 1}, {1, 10, 1},
            {1, 9, 1}, {2, 7, 1}, {1, 15, 1}, {1, 15, 11}};
        for (int[] r : refused) {
            String call = "command(" + r[0] + ", " + r[1] + ", " + r[2] + ")";
            check.due(call + " is refused", x.command(r[0], r[1], r[2]) < 0 ? 1 : 0, 1);
            check.due(call, Check.counts(x), counts);
        }
        x.exclude(1, 3);
        x.sort(1, 3);
        x.sort(2, 1);
        x.save(10, 0);
        x.panel(0, 10);
        check.due("counts", Check.counts(x), counts);
        check.due("lines", Check.texts(x), texts);
        check.due("the source is the same", x.command(1, 6, 1), 1);
        check.due("the source is the same", Check.texts(x), "|a|b|a");
    }

    @Sentence("of source and place, or a block's ends, the one that came first waits on")
    static void firstOnesWaitOn(Check check) {
        EditorPanels x = Check.page("a", "b", "c");
        x.command(1, 4, 2);
        check.due("a place among moved lines", x.command(2, 5, 1), -1);
        check.due("their source waits on", x.command(3, 5, 1), 1);
        check.due("lines", Check.texts(x), "|c|a|b");
        x.command(1, 5, 1);
        check.due("lines that have the place", x.command(1, 4, 2), -1);
        check.due("the place waits on", x.command(3, 4, 1), 1);
        check.due("lines", Check.texts(x), "|c|b|a");
        x.command(2, 6, 1);
        x.command(3, 12, 1);
        check.due("a block that has the place", x.command(1, 12, 1), -1);
        check.due("its first end and the place wait on", x.command(3, 12, 1), 1);
        check.due("lines", Check.texts(x), "|c|a|b");
        x.command(1, 10, 1);
        check.due("another kind's end", x.command(3, 13, 1), -1);
        check.due("the first end waits on", x.command(2, 10, 1), 1);
        check.due("lines", Check.texts(x), "|b");
        whenThereAreTooMany(check);
    }

    private static void whenThereAreTooMany(Check check) {
        EditorPanels x = Check.pageOf(299);
        x.sign(299, 'z');
        x.command(298, 3, 2);
        check.due("a place for too many", x.command(1, 6, 1), -3);
        check.due("the source waits on", x.command(1, 3, 1), -1);
        x.command(1, 14, 1);
        x.command(1, 6, 1);
        check.due("too many for a place", x.command(298, 3, 2), -3);
        check.due("the place waits on", x.command(1, 5, 1), -1);
        x.command(299, 11, 1);
        check.due("too many in a block", x.command(298, 11, 1), -3);
        check.due("its first end waits on, and the place", x.command(299, 11, 1), 1);
        check.due("line 1", Check.text(x, 1), "az");
        x.command(1, 1, 1);
        x.command(299, 13, 1);
        check.due("too many repeats", x.command(298, 13, 1), -3);
        check.due("too many repeats", x.command(299, 13, 2), -3);
        check.due("the first end waits on", x.command(299, 13, 1), 1);
        check.due("line 300", Check.text(x, 300), "az");
    }

    @Sentence("What waits stands at its lines' numbers.")
    static void numbersStay(Check check) {
        EditorPanels x = Check.page("c", "b", "a");
        x.command(1, 3, 1);
        x.sort(1, 3);
        x.command(3, 5, 1);
        check.due("a source", Check.texts(x), "|a|b|c|a");
        EditorPanels y = Check.page("c", "b", "a");
        y.command(1, 5, 1);
        y.sort(1, 3);
        y.command(3, 4, 1);
        check.due("a place", Check.texts(y), "|a|c|b");
        EditorPanels z = Check.page("c", "b", "a");
        z.command(1, 10, 1);
        z.sort(1, 3);
        z.command(2, 10, 1);
        check.due("a block's end", Check.texts(z), "|c");
        EditorPanels w = Check.page("c", "b");
        w.command(2, 3, 100);
        w.line();
        w.sign(3, 'a');
        w.command(1, 6, 1);
        check.due("not a line that came then", Check.texts(w), "|b|c|b|a");
    }
}
