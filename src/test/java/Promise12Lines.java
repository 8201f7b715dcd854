/** Promise 12: how many lines there are. */
public final class Promise12Lines {
    public static void main(String[] args) {
        Check check = new Check();
        EditorPanels x = new EditorPanels(0);
        check.due("none", x.lines(), 0);
        x.line();
        check.due("one", x.lines(), 1);
        x.command(1, 0, 100);
        check.due("101", x.lines(), 101);
        x.exclude(1, 101);
        check.due("excluded ones count", x.lines(), 101);
        x.command(2, 1, 99);
        check.due("two", x.lines(), 2);
        x.undo();
        check.due("101 again", x.lines(), 101);
        x.command(1, 2, 100);
        x.command(1, 2, 99);
        check.due("300", x.lines(), 300);
        x.line();
        check.due("no more", x.lines(), 300);
        check.end();
    }
}
