/** Promise 14: rows of macros, and rings that are refused. */
public final class Promise14Macro {
    public static void main(String[] args) {
        Check check = new Check();
        numbers(check);
        twentyRows(check);
        rings(check);
        manyWays(check);
        check.end();
    }

    private static void numbers(Check check) {
        EditorPanels x = Check.page("a");
        int[] names = {-1, 10, Integer.MIN_VALUE, Integer.MAX_VALUE};
        for (int name : names) {
            check.due("macro(" + name + ", 16)", x.macro(name, 16), -4);
            check.due("macro(" + name + ", -1)", x.macro(name, -1), -4);
        }
        int[] rows = {15, 31, 15 + 16 * 100, Integer.MAX_VALUE, -11, -12, Integer.MIN_VALUE};
        for (int row : rows) {
            check.due("macro(3, " + row + ")", x.macro(3, row), -4);
        }
        check.due("nothing came", x.command(1, 15, 4), 1);
        check.due("kind 0 with n = 3", x.macro(0, 48), 1);
        check.due("run", x.command(1, 15, 1), 1);
        check.due("lines()", x.lines(), 4);
        check.due("kind 14", x.macro(9, 30), 1);
        check.due("the last macro", x.macro(0, -10), 1);
        check.due("run", x.command(1, 15, 1), 1);
        check.due("lines()", x.lines(), 7);
        check.due("n = 0 is told by its run", x.macro(8, 1), 1);
        check.due("run", x.command(1, 15, 9), -4);
    }

    private static void twentyRows(Check check) {
        EditorPanels x = Check.page("a");
        for (int i = 1; i <= 20; i++) {
            check.due("row " + i, x.macro(5, 16), 1);
        }
        check.due("row 21", x.macro(5, 16), -4);
        check.due("row 21", x.macro(5, -2), -4);
        check.due("a full one that would make a ring", x.macro(5, -6), -4);
        check.due("another macro", x.macro(6, 16), 1);
        check.due("run", x.command(1, 15, 6), 1);
        check.due("lines()", x.lines(), 21);
    }

    private static void rings(Check check) {
        EditorPanels x = Check.page("a");
        check.due("itself", x.macro(0, -1), 0);
        check.due("itself", x.macro(9, -10), 0);
        check.due("0 runs 1", x.macro(0, -2), 1);
        check.due("1 runs 2", x.macro(1, -3), 1);
        check.due("2 runs 0", x.macro(2, -1), 0);
        check.due("2 runs 1", x.macro(2, -2), 0);
        check.due("0 runs 2", x.macro(0, -3), 1);
        check.due("2 runs 3", x.macro(2, -4), 1);
        check.due("3 runs 0", x.macro(3, -1), 0);
        check.due("4 runs 0", x.macro(4, -1), 1);
        check.due("3 runs 4", x.macro(3, -5), 0);
        check.due("0 runs 1 once more", x.macro(0, -2), 1);
        check.due("3 adds a line", x.macro(3, 16), 1);
        check.due("nothing else came: run", x.command(1, 15, 5), 1);
        check.due("3 was run thrice", x.lines(), 4);
    }

    /** Each macro runs the next one twenty times: the rings must be seen without going every way. */
    private static void manyWays(Check check) {
        EditorPanels x = Check.page("a");
        for (int i = 0; i < 9; i++) {
            for (int k = 0; k < 20; k++) {
                check.due("a row", x.macro(i, -2 - i), 1);
            }
        }
        for (int i = 0; i < 10; i++) {
            check.due("a ring", x.macro(9, -1 - i), 0);
        }
        check.due("run", x.command(1, 15, 1), -3);
        check.due("9 runs nothing", x.macro(9, 16), 1);
        check.due("run", x.command(1, 15, 9), -3);
        check.due("ten of 8's rows, each with one of 9", x.lines(), 11);
    }
}
