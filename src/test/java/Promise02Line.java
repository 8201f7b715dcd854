/** Promise 2: a new last line, up to 300. */
public final class Promise02Line {
    public static void main(String[] args) {
        Check check = new Check();
        EditorPanels x = new EditorPanels(10);
        for (int i = 1; i <= 300; i++) {
            check.due("line()", x.line(), i);
        }
        check.due("line() at 300", x.line(), -3);
        check.due("lines()", x.lines(), 300);
        check.due("line() is no act", x.count(4), 0);

        EditorPanels y = Check.page("a", "b");
        y.command(1, 1, 1);
        y.exclude(1, 1);
        y.command(1, 5, 1);
        check.due("line() while something waits", y.line(), 2);
        check.due("lines", Check.texts(y), "|b|");
        check.due("still waits", y.count(5), 1);
        check.due("the new one is not excluded", y.shown(2), 2);
        y.undo();
        check.due("as ahead of the latest act", Check.texts(y), "|b");
        freshAfterDeletion(check);
        check.end();
    }

    /** A line that comes where a deleted one stood has nothing of it. */
    private static void freshAfterDeletion(Check check) {
        EditorPanels x = Check.page("a", "b");
        x.command(2, 8, 1);
        x.exclude(2, 2);
        x.command(2, 1, 1);
        x.line();
        check.due("fresh line", Check.texts(x), "|a|");
        check.due("no excluded one", x.count(2), 0);
        check.due("no lost one", x.count(3), 0);
    }
}
