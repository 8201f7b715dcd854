/** Promise 5: finding behind and ahead of the cursor, first and last. */
public final class Promise05Find {
    public static void main(String[] args) {
        Check check = new Check();
        ways(check);
        overlapping(check);
        excludedLines(check);
        cursorThatWaits(check);
        cursorWithItsLine(check);
        check.end();
    }

    private static void found(Check check, EditorPanels x, int how, int line, int place) {
        check.due("find(" + how + ")", x.find(how), line);
        check.due("line of the cursor", x.count(0), line);
        check.due("its character", x.count(1), place);
    }

    private static void ways(Check check) {
        EditorPanels x = Check.page("ab ab", "", "xab");
        check.due("without a text", x.find(1), 0);
        Check.word(x, "ab", false);
        found(check, x, 0, 1, 0);
        found(check, x, 0, 1, 3);
        found(check, x, 0, 3, 1);
        check.due("no more behind", x.find(0), 0);
        check.due("the cursor stays at line", x.count(0), 3);
        check.due("the cursor stays at character", x.count(1), 1);
        found(check, x, 3, 1, 3);
        found(check, x, 3, 1, 0);
        check.due("no more ahead", x.find(3), 0);
        check.due("the cursor stays", x.count(1), 0);
        found(check, x, 2, 3, 1);
        found(check, x, 1, 1, 0);
        int[] others = {-1, 4, Integer.MIN_VALUE, Integer.MAX_VALUE};
        for (int how : others) {
            check.due("another how", x.find(how), 0);
        }
        check.due("the cursor stays", x.count(0), 1);
        Check.word(x, "zz", false);
        for (int how = 0; how <= 3; how++) {
            check.due("none", x.find(how), 0);
        }
        check.due("the cursor stays", x.count(0), 1);
        check.due("no act", x.count(4), 0);

        EditorPanels y = Check.page("ab", "ab");
        Check.word(y, "ab", false);
        found(check, y, 3, 2, 0);
        Check.word(y, "abc", false);
        check.due("longer than every line", y.find(1), 0);
    }

    private static void overlapping(Check check) {
        EditorPanels x = Check.page("aaa");
        Check.word(x, "aa", false);
        found(check, x, 0, 1, 0);
        found(check, x, 0, 1, 1);
        check.due("no third one", x.find(0), 0);
        found(check, x, 3, 1, 0);
        found(check, x, 2, 1, 1);

        EditorPanels y = Check.page(Check.repeat(' ', 52) + Check.repeat('q', 20));
        Check.word(y, Check.repeat('q', 20), false);
        found(check, y, 1, 1, 52);
    }

    private static void excludedLines(Check check) {
        EditorPanels x = Check.page("a", "a", "b");
        Check.word(x, "a", false);
        x.exclude(1, 3);
        found(check, x, 1, 1, 0);
        check.due("not excluded any more", x.shown(1), 1);
        check.due("the others are", x.shown(2), -2);
        check.due("no act of its own", x.count(4), 1);
        x.command(1, 5, 1);
        found(check, x, 0, 2, 0);
        check.due("what waits waits on", x.count(5), 1);
    }

    /** A cursor whose character is not there is nowhere, as long as that is so. */
    private static void cursorThatWaits(Check check) {
        EditorPanels x = Check.page("a", "  b");
        Check.word(x, "b", false);
        found(check, x, 1, 2, 2);
        x.command(2, 8, 2);
        check.due("nowhere", x.count(0), 0);
        check.due("nowhere", x.count(1), -1);
        check.due("nothing is there to change", x.change(false), 0);
        x.sign(2, 'c');
        check.due("still nowhere", x.count(0), 0);
        x.sign(2, 'd');
        check.due("there again", x.count(0), 2);
        check.due("there again", x.count(1), 2);
        x.command(2, 7, 1);
        check.due("the place stays", x.count(1), 2);

        EditorPanels y = Check.page("b", " b");
        Check.word(y, "b", false);
        found(check, y, 2, 2, 1);
        y.command(2, 8, 1);
        found(check, y, 0, 1, 0);
        found(check, y, 2, 2, 0);
        Check.word(y, "zz", false);
        y.command(2, 1, 1);
        check.due("gone with its line", y.count(0), 0);
        y.line();
        y.sign(2, 'b');
        check.due("gone for good", y.count(0), 0);
    }

    private static void cursorWithItsLine(Check check) {
        EditorPanels x = Check.page("c", "b", "*", "a");
        Check.word(x, "*", false);
        found(check, x, 1, 3, 0);
        x.command(1, 0, 2);
        check.due("lines came ahead", x.count(0), 5);
        x.command(5, 0, 1);
        check.due("a line came behind", x.count(0), 5);
        x.command(2, 1, 2);
        check.due("lines ahead went", x.count(0), 3);
        x.command(4, 1, 1);
        check.due("a line behind went", x.count(0), 3);
        x.command(3, 4, 1);
        x.command(1, 6, 1);
        check.due("moved", x.count(0), 1);
        x.command(4, 4, 1);
        x.command(1, 6, 1);
        check.due("another one moved ahead", x.count(0), 2);
        x.command(1, 4, 1);
        x.command(4, 5, 1);
        check.due("another one moved behind", x.count(0), 1);
        x.command(1, 2, 2);
        check.due("the copies are others", x.count(0), 1);
        x.command(1, 1, 1);
        check.due("gone, the copies stay", x.count(0), 0);
        found(check, x, 2, 2, 0);
        check.due("lines", Check.texts(x), "|*|*|c|b|a");
        x.sort(2, 5);
        check.due("sorted, in place", x.count(0), 2);
        x.command(2, 4, 1);
        x.command(5, 5, 1);
        check.due("last", x.count(0), 5);
        x.sort(1, 5);
        check.due("sorted behind its equal", x.count(0), 2);
        x.command(1, 3, 2);
        x.command(1, 5, 1);
        check.due("copied into its lines", x.count(0), 4);
        x.undo();
        check.due("nowhere", x.count(0), 0);
    }
}
