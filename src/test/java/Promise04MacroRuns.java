/** Promise 4: macros that are run on a line's number. */
public final class Promise04MacroRuns {
    public static void main(String[] args) {
        Check check = new Check();
        ordinary(check);
        stopping(check);
        twentyRows(check);
        check.end();
    }

    private static int row(int kind, int n) {
        return kind + 16 * n;
    }

    private static void ordinary(Check check) {
        EditorPanels x = Check.page("a", "b", "c");
        check.due("none of its rows", x.command(2, 15, 10), 1);
        x.macro(0, row(2, 2));
        x.macro(0, row(7, 1));
        x.macro(0, row(14, 1));
        x.macro(0, row(0, 1));
        check.due("no act yet", x.count(4), 0);
        check.due("run", x.command(2, 15, 1), 1);
        check.due("lines", Check.texts(x), "|a| b||b|b|c");
        check.due("one act each, none for kind 14", x.count(4), 3);
        x.undo();
        check.due("one act undone", Check.texts(x), "|a| b|b|b|c");
        check.due("no such line", x.command(6, 15, 1), -2);
        check.due("no such macro", x.command(1, 15, 11), -4);
        check.due("no such macro", x.command(1, 15, 0), -4);
        x.command(1, 3, 1);
        check.due("while something waits", x.command(1, 15, 1), -1);
        check.due("an empty one, too", x.command(1, 15, 10), -1);
        check.due("lines", Check.texts(x), "|a| b|b|b|c");
    }

    private static void stopping(Check check) {
        EditorPanels x = Check.page("a", "b");
        x.macro(0, row(2, 1));
        x.macro(0, row(3, 1));
        x.macro(0, row(1, 1));
        check.due("till one waits", x.command(1, 15, 1), 0);
        check.due("it waits", x.count(5), 1);
        check.due("place", x.command(3, 5, 1), 1);
        check.due("lines", Check.texts(x), "|a|a|b|a");

        x.macro(1, row(1, 1));
        x.macro(1, row(1, 1));
        x.macro(1, row(1, 1));
        check.due("on the number", x.command(2, 15, 2), 1);
        check.due("lines", Check.texts(x), "|a");
        check.due("no such line any more", x.command(1, 15, 2), -2);
        check.due("lines()", x.lines(), 0);

        EditorPanels y = Check.page("a");
        y.macro(2, row(2, 1));
        y.macro(2, 0);
        y.macro(2, row(2, 1));
        y.macro(3, -3);
        y.macro(3, row(2, 1));
        check.due("n = 0", y.command(1, 15, 3), -4);
        check.due("lines()", y.lines(), 2);
        check.due("that of a macro in it", y.command(1, 15, 4), -4);
        check.due("lines()", y.lines(), 3);
        y.macro(4, row(0, 100));
        y.macro(4, row(0, 100));
        y.macro(4, row(0, 100));
        check.due("too many lines", y.command(1, 15, 5), -3);
        check.due("two were done", y.lines(), 203);
        y.macro(5, row(0, 101));
        check.due("n = 101", y.command(1, 15, 6), -4);
        y.macro(6, Integer.MAX_VALUE - 1);
        check.due("n far outside", y.command(1, 15, 7), -4);
    }

    private static void twentyRows(Check check) {
        EditorPanels x = Check.page("a");
        for (int i = 0; i < 20; i++) {
            x.macro(0, row(0, 1));
        }
        check.due("20 rows", x.command(1, 15, 1), 1);
        check.due("lines()", x.lines(), 21);
        check.due("20 acts", x.count(4), 20);
        x.macro(1, -1);
        check.due("one row that runs them", x.command(1, 15, 2), -3);
        check.due("19 of them were done", x.lines(), 40);

        EditorPanels y = Check.page("a");
        for (int i = 0; i < 9; i++) {
            y.macro(0, row(0, 1));
        }
        y.macro(1, -1);
        y.macro(1, -1);
        check.due("2 and 9 and 9", y.command(1, 15, 2), 1);
        check.due("lines()", y.lines(), 19);
        check.due("counted anew each time", y.command(1, 15, 2), 1);
        y.macro(1, -10);
        check.due("the 21st row runs none", y.command(1, 15, 2), -3);
        check.due("what was done stays", y.lines(), 55);

        EditorPanels z = Check.page("a");
        for (int i = 0; i < 9; i++) {
            z.macro(i, -2 - i);
        }
        z.macro(9, row(0, 1));
        check.due("all ten in a row", z.command(1, 15, 1), 1);
        check.due("lines()", z.lines(), 2);
        for (int i = 0; i < 9; i++) {
            z.macro(i, -2 - i);
            z.macro(i, -2 - i);
        }
        check.due("each runs the next one thrice", z.command(1, 15, 1), -3);
    }
}
