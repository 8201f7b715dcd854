/** Promise 9: sorting lines. */
public final class Promise09Sort {
    public static void main(String[] args) {
        Check check = new Check();
        order(check);
        equalOnes(check);
        wrongOnes(check);
        many(check);
        check.end();
    }

    private static void order(Check check) {
        EditorPanels x = Check.page("b", "ab", "", "a", "B", "a ", "~", " ");
        check.due("sort(1, 8), where one stays", x.sort(1, 8), 7);
        check.due("lines", Check.texts(x), "|| |B|a|a |ab|b|~");
        check.due("again", x.sort(1, 8), 0);
        check.due("one act", x.count(4), 1);
        check.due("undo()", x.undo(), 1);
        check.due("lines", Check.texts(x), "|b|ab||a|B|a |~| ");
        check.due("sort(2, 4)", x.sort(2, 4), 3);
        check.due("lines", Check.texts(x), "|b||a|ab|B|a |~| ");
        check.due("sort(1, 1)", x.sort(1, 1), 0);
        check.due("acts", x.count(4), 1);

        String long9 = Check.repeat('m', 9);
        EditorPanels y = Check.page(long9 + "b", long9 + "a", long9, Check.repeat('m', 72), Check.repeat('m', 71));
        y.sort(1, 5);
        check.due("first", Check.text(y, 1), long9);
        check.due("second", Check.text(y, 2), long9 + "a");
        check.due("third", Check.text(y, 3), long9 + "b");
        check.due("the shorter one first", y.at(4, 71), -1);
        check.due("the longer one last", y.at(5, 71), 'm');
    }

    private static void equalOnes(Check check) {
        EditorPanels x = Check.page("b", "a", "b", "a");
        x.exclude(1, 1);
        x.exclude(4, 4);
        check.due("sort(1, 4)", x.sort(1, 4), 4);
        check.due("lines", Check.texts(x), "|a|a|b|b");
        check.due("shown(1)", x.shown(1), 1);
        check.due("the marks come along", x.shown(2), -2);
        check.due("shown(3)", x.shown(3), 4);

        EditorPanels y = Check.page("c", "b", "a");
        y.command(3, 8, 1);
        y.command(1, 5, 1);
        check.due("the middle one stays", y.sort(1, 3), 2);
        check.due("what waits stands at its number", y.command(3, 4, 1), 1);
        check.due("lines", Check.texts(y), "|a|c|b");
        check.due("a lost one", y.count(3), 1);
        y.command(1, 7, 1);
        check.due("it was that one", y.count(3), 0);
    }

    private static void wrongOnes(Check check) {
        EditorPanels x = Check.page("b", "a");
        int[][] wrong = {{0, 1}, {1, 3}, {2, 1}, {3, 3}, {-5, 2}, {Integer.MIN_VALUE, Integer.MAX_VALUE}};
        for (int[] w : wrong) {
            check.due("sort(" + w[0] + ", " + w[1] + ")", x.sort(w[0], w[1]), -2);
        }
        check.due("nothing changed", Check.texts(x), "|b|a");
        check.due("no act", x.count(4), 0);
        check.due("without lines", new EditorPanels(1).sort(1, 1), -2);
    }

    /** 300 lines that stand upside down. */
    private static void many(Check check) {
        EditorPanels x = Check.pageOf(300);
        for (int line = 1; line <= 95; line++) {
            x.sign(line, 127 - line);
        }
        check.due("sort(1, 300)", x.sort(1, 300), 300);
        for (int line = 1; line <= 205; line += 51) {
            check.due("line " + line, x.at(line, 1), -1);
        }
        for (int line = 206; line <= 300; line++) {
            check.due("line " + line, x.at(line, 1), line - 206 + 32);
        }
    }
}
