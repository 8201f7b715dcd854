/** Promises 14 to 17: macro(), panel(), shown(), count(). */
public final class SentencesOfPromises14To17 {
    public static void main(String[] args) throws IllegalAccessException {
        Check.sentences(SentencesOfPromises14To17.class);
    }

    @Sentence("A macro 0 .. 9 gets one more row")
    static void oneMoreRow(Check check) {
        EditorPanels x = Check.page("a");
        for (int name = 0; name <= 9; name++) {
            check.due("macro(" + name + ", 18)", x.macro(name, 18), 1);
        }
        check.due("a second row", x.macro(9, 18), 1);
        x.command(1, 15, 1);
        check.due("one row of macro 0", x.lines(), 2);
        x.command(1, 15, 10);
        check.due("two rows of macro 9", x.lines(), 4);
        check.due("giving a row is no act", x.count(4), 3);
    }

    @Sentence("(at most 20)")
    static void twentyRows(Check check) {
        EditorPanels x = Check.page("a");
        for (int i = 1; i <= 20; i++) {
            check.due("row " + i, x.macro(4, 18), 1);
        }
        check.due("row 21", x.macro(4, 18), -4);
        check.due("another macro's", x.macro(3, 18), 1);
        check.due("another macro's", x.macro(5, 18), 1);
        check.due("run", x.command(1, 15, 5), 1);
        check.due("20 of them", x.lines(), 21);
    }

    @Sentence("row from 0 on: a line command of kind row modulo 16 (not 15) with n = row / 16")
    static void rowsThatAreCommands(Check check) {
        for (int kind = 0; kind <= 14; kind++) {
            for (int n : new int[] {1, 2, 100}) {
                EditorPanels x = Check.page("a", "b", " c");
                EditorPanels y = Check.page("a", "b", " c");
                check.due("row " + (kind + 16 * n), x.macro(0, kind + 16 * n), 1);
                check.due("kind " + kind + " by " + n, x.command(2, 15, 1), y.command(2, kind, n));
                check.due("kind " + kind + " by " + n, Check.counts(x), Check.counts(y));
                check.due("kind " + kind + " by " + n, x.lines(), y.lines());
                check.due("kind " + kind + " by " + n, Check.text(x, 2), Check.text(y, 2));
            }
        }
        for (int row : new int[] {0, 1, 14, 16 * 101, Integer.MAX_VALUE - 1, Integer.MAX_VALUE - 15}) {
            EditorPanels x = Check.page("a");
            check.due("row " + row + ", whose n is outside", x.macro(0, row), 1);
            check.due("row " + row + ", as a command of that n", x.command(1, 15, 1), -4);
        }
    }

    @Sentence("below 0: all of macro -1 - row: 1")
    static void rowsThatRunMacros(Check check) {
        EditorPanels x = Check.page("a");
        x.macro(9, 18);
        x.macro(9, 18);
        x.macro(1, 16 + 7);
        check.due("all of macro 9", x.macro(0, -10), 1);
        check.due("all of macro 1", x.macro(0, -2), 1);
        check.due("run", x.command(1, 15, 1), 1);
        check.due("lines", Check.texts(x), "| a|a|a");
        check.due("all of macro 0", x.macro(8, -1), 1);
        x.macro(9, 18);
        check.due("run", x.command(1, 15, 9), 1);
        check.due("with a row that came then", x.lines(), 6);
    }

    @Sentence("0 when that would make a ring of macros")
    static void rings(Check check) {
        for (int name = 0; name <= 9; name++) {
            EditorPanels x = Check.page("a");
            check.due("of one", x.macro(name, -1 - name), 0);
            check.due("nothing came", x.command(1, 15, name + 1), 1);
            check.due("another one", x.macro(name, -1 - (name + 1) % 10), 1);
            check.due("of two", x.macro((name + 1) % 10, -1 - name), 0);
        }
        EditorPanels y = Check.page("a");
        for (int name = 0; name < 9; name++) {
            check.due("a way of ten", y.macro(name, -2 - name), 1);
        }
        for (int name = 0; name <= 9; name++) {
            check.due("a ring of " + (10 - name), y.macro(9, -1 - name), 0);
        }
        check.due("a shorter way is no ring", y.macro(0, -10), 1);
        check.due("the same way again is no ring", y.macro(0, -2), 1);
        check.due("nothing came to the last", y.macro(9, 18), 1);
        check.due("run", y.command(1, 15, 1), -3);
        check.due("once by each way till then", y.lines(), 3);
        EditorPanels z = Check.page("a");
        z.macro(1, -3);
        z.macro(0, -2);
        check.due("by a way that was there already", z.macro(2, -1), 0);
        EditorPanels w = Check.page("a");
        w.macro(0, -2);
        w.macro(1, -3);
        check.due("by a way that came later", w.macro(2, -1), 0);
    }

    @Sentence("-4 when name or that macro is none")
    static void noSuchMacro(Check check) {
        EditorPanels x = Check.page("a");
        for (int name : new int[] {-1, 10, Integer.MIN_VALUE, Integer.MAX_VALUE}) {
            for (int row : new int[] {18, 0, -1, -10, 15, -11}) {
                check.due("macro(" + name + ", " + row + ")", x.macro(name, row), -4);
            }
        }
        for (int row : new int[] {-11, -12, Integer.MIN_VALUE, Integer.MIN_VALUE + 1}) {
            check.due("macro(0, " + row + ")", x.macro(0, row), -4);
        }
        check.due("nothing came", x.command(1, 15, 1), 1);
        check.due("the last there is", x.macro(0, -10), 1);
    }

    @Sentence("of kind 15")
    static void rowsOfKind15(Check check) {
        EditorPanels x = Check.page("a");
        for (int row : new int[] {15, 31, 16 * 10 + 15, 16 * 100 + 15, Integer.MAX_VALUE}) {
            check.due("macro(0, " + row + ")", x.macro(0, row), -4);
        }
        check.due("nothing came", x.command(1, 15, 1), 1);
        check.due("kind 14", x.macro(0, 30), 1);
        check.due("kind 0 of the next n", x.macro(0, 32), 1);
    }

    @Sentence("or it has 20")
    static void fullMacro(Check check) {
        EditorPanels x = Check.page("a");
        for (int i = 1; i <= 20; i++) {
            check.due("row " + i, x.macro(0, i <= 10 ? 18 : -2), 1);
        }
        for (int row : new int[] {18, 0, -2, -10, 15, -11}) {
            check.due("row " + row, x.macro(0, row), -4);
        }
        check.due("a full one may be run by another", x.macro(2, -1), 1);
    }

    @Sentence("Field 0 of the panel: v = 1 .. 9 goes to that panel")
    static void panels(Check check) {
        for (int v = 1; v <= 9; v++) {
            EditorPanels x = new EditorPanels(1);
            check.due("panel(0, " + v + ")", x.panel(0, v), v);
            check.due("count(6)", x.count(6), v);
        }
        EditorPanels y = new EditorPanels(1);
        for (int i = 0; i < 512; i++) {
            check.due("as often as an object is called", y.panel(0, 1 + i % 9), 1 + i % 9);
        }
    }

    @Sentence("0 back to the one before (0 at last): the panel")
    static void panelsBack(Check check) {
        EditorPanels x = new EditorPanels(1);
        check.due("from 0", x.panel(0, 0), 0);
        x.panel(0, 9);
        x.panel(0, 1);
        x.panel(0, 9);
        check.due("back to 1", x.panel(0, 0), 1);
        check.due("the panel", x.count(6), 1);
        x.panel(0, 5);
        check.due("back to 1 once more", x.panel(0, 0), 1);
        check.due("back to 9", x.panel(0, 0), 9);
        for (int i = 0; i < 3; i++) {
            check.due("0 at last", x.panel(0, 0), 0);
            check.due("the panel", x.count(6), 0);
        }
        check.due("and on", x.panel(0, 2), 2);
        check.due("and to the same one", x.panel(0, 2), 2);
        check.due("which is the one before, too", x.panel(0, 0), 2);
        EditorPanels y = new EditorPanels(1);
        for (int i = 0; i < 256; i++) {
            y.panel(0, 1 + i % 9);
        }
        for (int i = 254; i >= 0; i--) {
            check.due("back from far", y.panel(0, 0), 1 + i % 9);
        }
        check.due("0 at last", y.panel(0, 0), 0);
    }

    @Sentence("-4 for others")
    static void noSuchPanel(Check check) {
        EditorPanels x = new EditorPanels(1);
        x.panel(0, 3);
        for (int v : new int[] {-1, 10, Integer.MIN_VALUE, Integer.MAX_VALUE}) {
            check.due("panel(0, " + v + ")", x.panel(0, v), -4);
        }
        for (int field : new int[] {-1, 1, 9, Integer.MIN_VALUE, Integer.MAX_VALUE}) {
            check.due("panel(" + field + ", 0)", x.panel(field, 0), -4);
            check.due("panel(" + field + ", 1)", x.panel(field, 1), -4);
            check.due("panel(" + field + ", 10)", x.panel(field, 10), -4);
        }
        check.due("the panel", x.count(6), 3);
        check.due("back", x.panel(0, 0), 0);
    }

    @Sentence("What stands on a row 1 .. of the screen: the number of a line")
    static void shownLines(Check check) {
        EditorPanels x = new EditorPanels(3);
        x.line();
        x.line();
        x.line();
        for (int row = 1; row <= 3; row++) {
            check.due("shown(" + row + ")", x.shown(row), row);
        }
        for (int row : new int[] {0, -1, Integer.MIN_VALUE}) {
            check.due("shown(" + row + ")", x.shown(row), 0);
        }
    }

    @Sentence("minus how many excluded ones stand there together, on one row")
    static void shownExcludedOnes(Check check) {
        EditorPanels x = Check.page("a", "b", "c", "d", "e", "f");
        x.exclude(2, 2);
        check.due("one", x.shown(2), -1);
        check.due("the next", x.shown(3), 3);
        x.exclude(3, 4);
        check.due("three together", x.shown(2), -3);
        check.due("the next", x.shown(3), 5);
        x.exclude(6, 6);
        check.due("the last", x.shown(4), -1);
        check.due("below it", x.shown(5), 0);
        x.exclude(1, 1);
        check.due("from the first", x.shown(1), -4);
        x.exclude(5, 5);
        check.due("all", x.shown(1), -6);
        check.due("below them", x.shown(2), 0);
        EditorPanels y = Check.pageOf(300);
        y.exclude(1, 300);
        check.due("all 300", y.shown(1), -300);
        check.due("below them", y.shown(2), 0);
        EditorPanels z = new EditorPanels(1);
        z.line();
        z.line();
        z.exclude(1, 2);
        check.due("more than the screen has rows", z.shown(1), -2);
    }

    @Sentence("0 below the last one, or beyond the screen")
    static void shownNothing(Check check) {
        EditorPanels x = new EditorPanels(3);
        check.due("without lines", x.shown(1), 0);
        x.line();
        x.line();
        check.due("the last one", x.shown(2), 2);
        check.due("below it", x.shown(3), 0);
        x.line();
        x.line();
        check.due("the last row", x.shown(3), 3);
        check.due("beyond the screen", x.shown(4), 0);
        check.due("far beyond", x.shown(Integer.MAX_VALUE), 0);
        x.exclude(1, 2);
        check.due("what comes up then", x.shown(3), 4);
        check.due("beyond the screen", x.shown(4), 0);
        EditorPanels y = new EditorPanels(65536);
        y.line();
        check.due("the last row", y.shown(65536), 0);
        check.due("beyond the screen", y.shown(65537), 0);
    }

    @Sentence("what = 0 the cursor's line (0 nowhere), 1 its character (NONE nowhere)")
    static void countsOfTheCursor(Check check) {
        EditorPanels x = Check.page("a", Check.repeat('.', 71) + "b");
        check.due("nowhere", x.count(0), 0);
        check.due("nowhere", x.count(1), -1);
        x.word('b', false);
        x.find(1);
        check.due("line 2", x.count(0), 2);
        check.due("the 72nd", x.count(1), 71);
        x.word(0, false);
        x.word('a', false);
        x.find(1);
        check.due("line 1", x.count(0), 1);
        check.due("the first", x.count(1), 0);
    }

    @Sentence("2 excluded lines, 3 lost ones")
    static void countsOfMarks(Check check) {
        EditorPanels x = Check.pageOf(300);
        check.due("no excluded one", x.count(2), 0);
        check.due("no lost one", x.count(3), 0);
        Check.word(x, "a", false);
        for (int i = 0; i < 20; i++) {
            x.word('b', true);
        }
        x.change(true);
        x.word(0, false);
        x.word('b', false);
        x.change(true);
        check.due("300 lost ones", x.count(3), 300);
        check.due("no excluded one", x.count(2), 0);
        x.exclude(1, 299);
        check.due("299 excluded ones", x.count(2), 299);
        x.command(300, 1, 1);
        check.due("299 lost ones", x.count(3), 299);
        check.due("299 excluded ones", x.count(2), 299);
    }

    @Sentence("4 acts that can be undone")
    static void countsOfActs(Check check) {
        EditorPanels x = Check.page("a");
        for (int i = 1; i <= 22; i++) {
            x.command(1, 0, 1);
            check.due("after " + i, x.count(4), Math.min(i, 20));
        }
        for (int i = 19; i >= 0; i--) {
            x.undo();
            check.due("undone", x.count(4), i);
        }
        x.undo();
        check.due("no more", x.count(4), 0);
    }

    @Sentence("5 whether something waits, 6 the panel")
    static void countsOfWaitingAndPanel(Check check) {
        for (int kind = 0; kind <= 15; kind++) {
            EditorPanels x = Check.page("a");
            int waits = x.command(1, kind, 1) == 0 ? 1 : 0;
            check.due("kind " + kind, x.count(5), waits);
            check.due("the panel", x.count(6), 0);
            x.panel(0, 9);
            check.due("the panel", x.count(6), 9);
            check.due("kind " + kind, x.count(5), waits);
        }
    }

    @Sentence("10 .. 19 members' editions, 20 .. 29 lines that they have")
    static void countsOfMembers(Check check) {
        EditorPanels x = new EditorPanels(1);
        for (int member = 0; member <= 9; member++) {
            x.line();
            for (int edition = 0; edition <= member; edition++) {
                x.save(member, edition);
            }
        }
        for (int member = 0; member <= 9; member++) {
            check.due("edition of " + member, x.count(10 + member), member + 1);
            check.due("lines of " + member, x.count(20 + member), member + 1);
        }
    }

    @Sentence("NONE for others")
    static void noSuchCount(Check check) {
        EditorPanels x = Check.page("a");
        for (int what : new int[] {-1, 7, 8, 9, 30, 31, 100, Integer.MIN_VALUE, Integer.MAX_VALUE}) {
            check.due("count(" + what + ")", x.count(what), -1);
        }
    }
}
