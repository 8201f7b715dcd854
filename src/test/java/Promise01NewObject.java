/** Promise 1: what a new object has, and the rows of its screen. */
public final class Promise01NewObject {
    public static void main(String[] args) {
        Check check = new Check();
        emptiness(check);
        screen(check, Integer.MIN_VALUE, 0);
        screen(check, -1, 0);
        screen(check, 0, 0);
        screen(check, 1, 1);
        screen(check, 299, 299);
        screen(check, 300, 300);
        screen(check, 65536, 300);
        screen(check, 65537, 300);
        screen(check, Integer.MAX_VALUE, 300);
        check.due("NONE", EditorPanels.NONE, -1);
        check.end();
    }

    private static void emptiness(Check check) {
        EditorPanels x = new EditorPanels(24);
        check.due("lines()", x.lines(), 0);
        check.due("at(1, 0)", x.at(1, 0), -1);
        check.due("shown(1)", x.shown(1), 0);
        check.due("undo()", x.undo(), 0);
        check.due("find(1)", x.find(1), 0);
        check.due("change(true)", x.change(true), 0);
        check.due("change(false)", x.change(false), 0);
        check.due("count(0)", x.count(0), 0);
        check.due("count(1)", x.count(1), -1);
        for (int what = 2; what <= 6; what++) {
            check.due("count(" + what + ")", x.count(what), 0);
        }
        for (int what = 10; what <= 29; what++) {
            check.due("count(" + what + ")", x.count(what), 0);
        }
        check.due("word(97, false)", x.word('a', false), 1);
        check.due("word(97, true)", x.word('a', true), 1);
        check.due("line()", x.line(), 1);
        for (int n = 1; n <= 10; n++) {
            check.due("empty macro " + (n - 1), x.command(1, 15, n), 1);
        }
        check.due("line 1", Check.texts(x), "|");
        check.due("panel(0, 0)", x.panel(0, 0), 0);
    }

    /** Of 300 lines, as many are shown as the screen has rows. */
    private static void screen(Check check, int rows, int shown) {
        EditorPanels x = new EditorPanels(rows);
        x.line();
        x.command(1, 0, 100);
        x.command(1, 0, 100);
        x.command(1, 0, 99);
        if (shown > 0) {
            check.due("shown(" + shown + ") of " + rows, x.shown(shown), shown);
        }
        check.due("shown(" + (shown + 1) + ") of " + rows, x.shown(shown + 1), 0);
    }
}
