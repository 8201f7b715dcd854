/** Promise 4: what a line command answers, and macros that are run. */
public final class SentencesOfPromise04 {
    public static void main(String[] args) throws IllegalAccessException {
        Check.sentences(SentencesOfPromise04.class);
    }

    private static int row(int kind, int n) {
        return kind + 16 * n;
    }

    private static void rows(EditorPanels x, int name, int... rows) {
        for (int row : rows) {
            x.macro(name, row);
        }
    }

    private static void sameRow(EditorPanels x, int name, int row, int times) {
        for (int i = 0; i < times; i++) {
            x.macro(name, row);
        }
    }

    @Sentence("A line command: 1 it is done; 0 it waits; or refused.")
    static void answers(Check check) {
        EditorPanels x = Check.page("a", "b");
        check.due("done", x.command(1, 2, 1), 1);
        check.due("waits", x.command(1, 3, 1), 0);
        check.due("refused by -1", x.command(1, 3, 1), -1);
        check.due("refused by -2", x.command(4, 5, 1), -2);
        check.due("refused by -4", x.command(3, 5, 0), -4);
        check.due("done", x.command(3, 5, 1), 1);
        check.due("refused by -3", Check.pageOf(300).command(1, 0, 1), -3);
    }

    @Sentence("its commands are done on the line's number")
    static void onTheNumber(Check check) {
        EditorPanels x = Check.page("a", "b", "c", "d");
        rows(x, 0, row(1, 1), row(7, 1), row(1, 1), row(7, 2));
        check.due("run", x.command(2, 15, 1), 1);
        check.due("each on what line 2 is then", Check.texts(x), "|a|  d");
        EditorPanels y = Check.pageOf(300);
        rows(y, 9, row(7, 1));
        check.due("on line 300", y.command(300, 15, 10), 1);
        check.due("on line 300", Check.text(y, 300), " a");
        check.due("on line 299", Check.text(y, 299), "a");
    }

    @Sentence("one by one (as far as there is one), till one is not 1: what that answered")
    static void tillOneIsNotDone(Check check) {
        EditorPanels x = Check.page("a", "b", "c");
        rows(x, 0, row(7, 1), row(3, 1), row(7, 1));
        check.due("one that waits", x.command(1, 15, 1), 0);
        check.due("the last was not done", Check.texts(x), "| a|b|c");
        check.due("it waits", x.count(5), 1);
        x.command(1, 14, 1);
        rows(x, 1, row(7, 1), row(5, 0), row(7, 1));
        check.due("one that is outside", x.command(2, 15, 2), -4);
        check.due("the last was not done", Check.texts(x), "| a| b|c");
        rows(x, 2, row(0, 100), row(0, 100), row(0, 100), row(7, 1));
        check.due("one that is too many", x.command(3, 15, 3), -3);
        check.due("the first two were done", x.lines(), 203);
        check.due("the last was not", x.at(3, 0), 'c');
        rows(x, 3, row(1, 100), row(7, 1), row(7, 1));
        check.due("one whose line is gone", x.command(150, 15, 4), -2);
        check.due("the first was done", x.lines(), 149);
        rows(x, 4, -2, row(7, 1));
        check.due("one of a macro in it", x.command(2, 15, 5), -4);
        check.due("the last was not done", Check.text(x, 2), "  b");
    }

    @Sentence("1 for all, or none")
    static void allOrNone(Check check) {
        EditorPanels x = Check.page("a");
        check.due("none", x.command(1, 15, 1), 1);
        check.due("nothing changed", Check.texts(x) + Check.counts(x), "|a 0 -1 0 0 0 0 0");
        rows(x, 1, -1, -1);
        check.due("none of those that it runs", x.command(1, 15, 2), 1);
        rows(x, 2, row(7, 1), row(14, 1), row(8, 1), row(8, 1));
        check.due("all, though one is lost", x.command(1, 15, 3), 1);
        check.due("it is lost", x.count(3), 1);
    }

    @Sentence("(One act each.)")
    static void oneActEach(Check check) {
        EditorPanels x = Check.page("a");
        rows(x, 0, row(7, 1), row(14, 1), row(2, 1), row(3, 1));
        rows(x, 1, row(7, 1), -1);
        check.due("run", x.command(1, 15, 2), 0);
        check.due("acts, but for those that drop, wait or run", x.count(4), 3);
        x.undo();
        check.due("the latest alone", Check.texts(x), "|  a");
        x.undo();
        check.due("the one before", Check.texts(x), "| a");
        x.undo();
        check.due("the first", Check.texts(x), "|a");
        check.due("no more", x.undo(), 0);
    }

    @Sentence("It goes along 20 rows at most")
    static void twentyRows(Check check) {
        EditorPanels x = Check.page("a");
        sameRow(x, 0, row(2, 1), 20);
        check.due("20 rows", x.command(1, 15, 1), 1);
        check.due("lines()", x.lines(), 21);
        check.due("20 rows once more", x.command(1, 15, 1), 1);
        check.due("lines()", x.lines(), 41);
    }

    @Sentence("those that run macros, and those of these, counted")
    static void allRowsCount(Check check) {
        EditorPanels x = Check.page("a");
        sameRow(x, 0, row(2, 1), 19);
        rows(x, 1, -1);
        check.due("1 and 19", x.command(1, 15, 2), 1);
        check.due("lines()", x.lines(), 20);
        sameRow(x, 2, row(2, 1), 9);
        rows(x, 3, -3, -3);
        check.due("2 and 9 and 9", x.command(1, 15, 4), 1);
        check.due("lines()", x.lines(), 38);
        rows(x, 4, -4);
        check.due("1 and 2 and 9 and 9", x.command(1, 15, 5), -3);
        check.due("17 lines more", x.lines(), 55);
        sameRow(x, 5, -10, 20);
        check.due("20 that run an empty one", x.command(1, 15, 6), 1);
        rows(x, 6, -6);
        check.due("1 that runs these", x.command(1, 15, 7), -3);
    }

    @Sentence("at one more it answers -3")
    static void oneRowMore(Check check) {
        EditorPanels x = Check.page("a");
        sameRow(x, 0, row(2, 1), 20);
        rows(x, 1, -1);
        check.due("1 and 20", x.command(1, 15, 2), -3);
        check.due("what was done stays", x.lines(), 20);
        check.due("as acts", x.count(4), 19);
        sameRow(x, 2, row(2, 1), 18);
        rows(x, 3, -3, row(7, 1), row(7, 1));
        check.due("1 and 18 and 1 and one more", x.command(1, 15, 4), -3);
        check.due("the 20th was done, the 21st not", Check.text(x, 1), " a");
        sameRow(x, 4, row(14, 1), 19);
        rows(x, 5, -5, -10);
        check.due("the 21st runs an empty one", x.command(1, 15, 6), -3);
        rows(x, 6, -5, row(1, 0));
        check.due("the 21st is one that would be refused", x.command(1, 15, 7), -3);
    }
}
