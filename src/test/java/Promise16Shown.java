/** Promise 16: what stands on the rows of the screen. */
public final class Promise16Shown {
    public static void main(String[] args) {
        Check check = new Check();
        rows(check, new EditorPanels(100), 100);
        rows(check, new EditorPanels(3), 3);
        rows(check, new EditorPanels(0), 0);
        excludedAtTheEnds(check);
        farRows(check);
        check.end();
    }

    private static void rows(Check check, EditorPanels x, int screen) {
        for (int i = 0; i < 8; i++) {
            x.line();
        }
        x.exclude(2, 4);
        x.exclude(6, 6);
        int[] due = {1, -3, 5, -1, 7, 8, 0, 0};
        for (int row = 1; row <= due.length; row++) {
            check.due("shown(" + row + ") of " + screen, x.shown(row), row <= screen ? due[row - 1] : 0);
        }
        int[] wrong = {0, -1, Integer.MIN_VALUE, Integer.MAX_VALUE};
        for (int row : wrong) {
            check.due("shown(" + row + ")", x.shown(row), 0);
        }
    }

    private static void excludedAtTheEnds(Check check) {
        EditorPanels x = Check.page("a", "b", "c", "d");
        x.exclude(1, 2);
        x.exclude(4, 4);
        check.due("shown(1)", x.shown(1), -2);
        check.due("shown(2)", x.shown(2), 3);
        check.due("shown(3)", x.shown(3), -1);
        check.due("shown(4)", x.shown(4), 0);
        x.exclude(3, 3);
        check.due("all together", x.shown(1), -4);
        check.due("nothing below", x.shown(2), 0);
        x.command(2, 0, 1);
        check.due("a blank one between", x.shown(2), 3);
        check.due("those behind it", x.shown(3), -2);
    }

    private static void farRows(Check check) {
        EditorPanels x = new EditorPanels(65536);
        x.line();
        x.command(1, 0, 100);
        x.command(1, 0, 100);
        x.command(1, 0, 99);
        check.due("the last one", x.shown(300), 300);
        check.due("below it", x.shown(301), 0);
        check.due("the last row", x.shown(65536), 0);
        check.due("beyond the screen", x.shown(65537), 0);
    }
}
