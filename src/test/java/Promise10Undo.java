/** Promise 10: undoing the last 20 acts, the latest first. */
public final class Promise10Undo {
    public static void main(String[] args) {
        Check check = new Check();
        twenty(check);
        whatIsUndone(check);
        marks(check);
        noActs(check);
        check.end();
    }

    private static void twenty(Check check) {
        EditorPanels x = Check.page("a");
        check.due("none", x.undo(), 0);
        for (int i = 1; i <= 25; i++) {
            x.command(1, 0, 1);
            check.due("count(4)", x.count(4), Math.min(i, 20));
        }
        for (int i = 1; i <= 20; i++) {
            check.due("undo " + i, x.undo(), 1);
            check.due("lines()", x.lines(), 26 - i);
            check.due("count(4)", x.count(4), 20 - i);
        }
        check.due("the 21st", x.undo(), 0);
        check.due("lines()", x.lines(), 6);
        x.command(1, 1, 5);
        x.undo();
        check.due("lines()", x.lines(), 6);
        nineteenAndOne(check);
    }

    /** A call that turns out to be no act takes nothing from the 20 that are kept. */
    private static void nineteenAndOne(Check check) {
        EditorPanels x = Check.page("a");
        for (int i = 1; i <= 22; i++) {
            x.command(1, 0, 1);
        }
        x.sort(2, 3);
        x.exclude(2, 1);
        x.word('z', false);
        x.change(true);
        for (int i = 1; i <= 20; i++) {
            x.undo();
            check.due("lines()", x.lines(), 23 - i);
        }
        check.due("no more", x.undo(), 0);
    }

    private static void whatIsUndone(Check check) {
        EditorPanels x = Check.page("ab", "b");
        x.command(1, 2, 1);
        x.sign(1, 'c');
        x.line();
        check.due("lines", Check.texts(x), "|abc|ab|b|");
        x.command(4, 6, 1);
        x.word('b', false);
        x.find(1);
        check.due("the cursor", x.count(0), 1);
        check.due("undo()", x.undo(), 1);
        check.due("as ahead of it", Check.texts(x), "|ab|b");
        check.due("nothing waits", x.count(5), 0);
        check.due("the cursor is nowhere", x.count(0), 0);
        check.due("the cursor is nowhere", x.count(1), -1);
        x.command(1, 10, 1);
        x.find(1);
        check.due("none", x.undo(), 0);
        check.due("it waits on", x.count(5), 1);
        check.due("the cursor stays", x.count(0), 1);
        check.due("the text stays", x.find(2), 2);
    }

    private static void marks(Check check) {
        EditorPanels x = Check.page("a", "b", "c");
        x.command(2, 8, 1);
        x.exclude(3, 3);
        x.command(1, 1, 3);
        check.due("lines()", x.lines(), 0);
        x.undo();
        check.due("excluded ones", x.count(2), 1);
        check.due("lost ones", x.count(3), 1);
        check.due("shown(3)", x.shown(3), -1);
        x.undo();
        check.due("excluded ones", x.count(2), 0);
        x.undo();
        check.due("lost ones", x.count(3), 0);
        x.command(2, 8, 1);
        x.command(2, 7, 1);
        check.due("the mark is taken away", x.count(3), 0);
        x.undo();
        check.due("and there again", x.count(3), 1);
        x.exclude(1, 3);
        x.word('b', false);
        x.find(1);
        check.due("found", x.count(2), 2);
        x.command(3, 2, 1);
        x.undo();
        check.due("as ahead of the latest", x.count(2), 2);
        x.undo();
        check.due("as ahead of the exclusion", x.count(2), 0);
    }

    private static void noActs(Check check) {
        EditorPanels x = Check.page("a", "b");
        x.sign(1, 'x');
        x.line();
        x.command(1, 14, 1);
        x.command(1, 15, 1);
        x.command(1, 3, 1);
        x.command(1, 14, 1);
        x.command(1, 1, 0);
        x.word('a', false);
        x.find(1);
        x.sort(1, 2);
        x.exclude(2, 1);
        x.save(0, 0);
        x.panel(0, 3);
        x.macro(0, 17);
        check.due("no act", x.count(4), 0);
        x.command(1, 7, 1);
        x.undo();
        check.due("the edition stays", x.count(10), 1);
        check.due("the panel stays", x.count(6), 3);
        check.due("the macro stays", x.command(1, 15, 1), 1);
        check.due("lines()", x.lines(), 2);
    }
}
