/** Promise 4: sources, places and blocks that wait for one another. */
public final class Promise04Waiting {
    public static void main(String[] args) {
        Check check = new Check();
        copies(check);
        moves(check);
        blocks(check);
        blocksAsSources(check);
        refusedWhileSomethingWaits(check);
        placeAmongMovedLines(check);
        tooManyLines(check);
        numbersThatStay(check);
        dropping(check);
        check.end();
    }

    private static EditorPanels letters() {
        return Check.page("a", "b", "c", "d", "e");
    }

    /** Two commands, the first of which waits, and the lines after them. */
    private static void pair(Check check, int[] first, int[] second, String lines) {
        EditorPanels x = letters();
        String call = first[0] + " " + first[1] + " " + first[2] + ", " + second[0] + " " + second[1] + " " + second[2];
        check.due(call + ", first", x.command(first[0], first[1], first[2]), 0);
        check.due(call + ", waits", x.count(5), 1);
        check.due(call + ", second", x.command(second[0], second[1], second[2]), 1);
        check.due(call, Check.texts(x), lines);
        check.due(call + ", nothing waits", x.count(5), 0);
        check.due(call + ", one act", x.count(4), 1);
        x.undo();
        check.due(call + ", undone", Check.texts(x), "|a|b|c|d|e");
    }

    private static int[] at(int line, int kind, int n) {
        return new int[] {line, kind, n};
    }

    private static void copies(Check check) {
        pair(check, at(2, 3, 2), at(4, 5, 1), "|a|b|c|d|b|c|e");
        pair(check, at(4, 5, 1), at(2, 3, 2), "|a|b|c|d|b|c|e");
        pair(check, at(2, 3, 2), at(4, 6, 100), "|a|b|c|b|c|d|e");
        pair(check, at(1, 6, 1), at(4, 3, 100), "|d|e|a|b|c|d|e");
        pair(check, at(2, 3, 3), at(3, 5, 1), "|a|b|c|b|c|d|d|e");
        pair(check, at(2, 3, 3), at(2, 6, 1), "|a|b|c|d|b|c|d|e");
        pair(check, at(1, 3, 1), at(5, 5, 1), "|a|b|c|d|e|a");
        EditorPanels x = letters();
        x.command(1, 8, 1);
        x.exclude(1, 1);
        x.command(1, 3, 1);
        x.command(5, 5, 1);
        check.due("copies are excluded, too", x.count(2), 2);
        check.due("copies are lost, too", x.count(3), 2);
        check.due("the last one", x.shown(6), -1);
    }

    private static void moves(Check check) {
        pair(check, at(2, 4, 2), at(4, 5, 1), "|a|d|b|c|e");
        pair(check, at(4, 5, 1), at(2, 4, 2), "|a|d|b|c|e");
        pair(check, at(2, 4, 2), at(5, 6, 1), "|a|d|b|c|e");
        pair(check, at(4, 4, 100), at(1, 6, 1), "|d|e|a|b|c");
        pair(check, at(1, 5, 1), at(4, 4, 2), "|a|d|e|b|c");
        pair(check, at(2, 4, 2), at(1, 5, 1), "|a|b|c|d|e");
        pair(check, at(2, 4, 1), at(1, 5, 1), "|a|b|c|d|e");
        pair(check, at(2, 4, 2), at(4, 6, 1), "|a|b|c|d|e");
        pair(check, at(2, 4, 2), at(5, 5, 1), "|a|d|e|b|c");
        pair(check, at(1, 4, 4), at(5, 5, 1), "|e|a|b|c|d");
        EditorPanels x = letters();
        x.command(1, 8, 1);
        x.exclude(1, 1);
        x.command(1, 4, 1);
        x.command(5, 5, 1);
        check.due("it is excluded", x.shown(5), -1);
        check.due("it alone", x.count(2), 1);
        x.command(5, 7, 1);
        check.due("it was lost", x.count(3), 0);
    }

    private static void blocks(Check check) {
        pair(check, at(2, 10, 1), at(4, 10, 1), "|a|e");
        pair(check, at(4, 10, 1), at(2, 10, 1), "|a|e");
        pair(check, at(3, 10, 1), at(3, 10, 100), "|a|b|d|e");
        pair(check, at(1, 10, 1), at(5, 10, 1), "");
        pair(check, at(2, 13, 100), at(3, 13, 2), "|a|b|c|b|c|b|c|d|e");
        pair(check, at(3, 13, 100), at(2, 13, 1), "|a|b|c|b|c|d|e");
        pair(check, at(5, 13, 1), at(5, 13, 3), "|a|b|c|d|e|e|e|e");
    }

    private static void triple(Check check, int[][] commands, String lines) {
        EditorPanels x = letters();
        check.due("first", x.command(commands[0][0], commands[0][1], commands[0][2]), 0);
        check.due("second", x.command(commands[1][0], commands[1][1], commands[1][2]), 0);
        check.due("waits", x.count(5), 1);
        check.due("third", x.command(commands[2][0], commands[2][1], commands[2][2]), 1);
        check.due("lines", Check.texts(x), lines);
        check.due("nothing waits", x.count(5), 0);
        check.due("one act", x.count(4), 1);
    }

    private static void blocksAsSources(Check check) {
        triple(check, new int[][] {at(2, 11, 1), at(3, 11, 1), at(5, 5, 1)}, "|a|b|c|d|e|b|c");
        triple(check, new int[][] {at(3, 11, 1), at(2, 11, 1), at(2, 5, 1)}, "|a|b|b|c|c|d|e");
        triple(check, new int[][] {at(5, 5, 1), at(3, 11, 1), at(2, 11, 1)}, "|a|b|c|d|e|b|c");
        triple(check, new int[][] {at(3, 12, 1), at(2, 12, 1), at(5, 5, 1)}, "|a|d|e|b|c");
        triple(check, new int[][] {at(1, 6, 1), at(5, 12, 1), at(3, 12, 1)}, "|c|d|e|a|b");
        triple(check, new int[][] {at(3, 12, 1), at(3, 12, 1), at(1, 6, 1)}, "|c|a|b|d|e");
    }

    private static void refused(Check check, EditorPanels x, String state, int... kinds) {
        String lines = Check.texts(x);
        for (int kind : kinds) {
            check.due("kind " + kind + " while " + state, x.command(2, kind, 1), -1);
        }
        check.due("it waits on: " + state, x.count(5), 1);
        check.due("nothing changed: " + state, Check.texts(x), lines);
        check.due("no act: " + state, x.count(4), 0);
    }

    private static void refusedWhileSomethingWaits(Check check) {
        int[] others = {0, 1, 2, 7, 8, 9, 15};
        EditorPanels x = letters();
        x.command(1, 3, 1);
        refused(check, x, "a source waits", others);
        refused(check, x, "a source waits", 3, 4, 10, 11, 12, 13);
        check.due("a place", x.command(5, 5, 1), 1);

        EditorPanels y = letters();
        y.command(1, 5, 1);
        refused(check, y, "a place waits", others);
        refused(check, y, "a place waits", 5, 6, 10, 13);
        check.due("a block to be copied", y.command(3, 11, 1), 0);
        refused(check, y, "a place and a block wait", others);
        refused(check, y, "a place and a block wait", 3, 4, 5, 6, 10, 12, 13);
        check.due("its other end", y.command(4, 11, 1), 1);
        check.due("lines", Check.texts(y), "|a|c|d|b|c|d|e");

        for (int open = 10; open <= 13; open++) {
            EditorPanels z = letters();
            check.due("a block", z.command(1, open, 1), 0);
            refused(check, z, "a block is open", others);
            refused(check, z, "a block is open", 3, 4, 5, 6);
            for (int kind = 10; kind <= 13; kind++) {
                if (kind != open) {
                    refused(check, z, "a block is open", kind);
                }
            }
            check.due("its other end", z.command(1, open, 1), open == 10 || open == 13 ? 1 : 0);
            if (open == 11 || open == 12) {
                refused(check, z, "a block waits", others);
                refused(check, z, "a block waits", 3, 4, 10, 11, 12, 13);
                check.due("its place", z.command(5, 6, 1), 1);
            }
        }
    }

    private static void placeAmongMovedLines(Check check) {
        EditorPanels x = letters();
        x.command(2, 4, 3);
        for (int line = 2; line <= 4; line++) {
            check.due("behind moved line " + line, x.command(line, 5, 1), -1);
            check.due("ahead of moved line " + line, x.command(line, 6, 1), -1);
        }
        check.due("behind the next one", x.command(5, 5, 1), 1);
        check.due("lines", Check.texts(x), "|a|e|b|c|d");

        EditorPanels y = letters();
        y.command(3, 6, 1);
        check.due("lines that have the place", y.command(2, 4, 2), -1);
        check.due("lines that have the place", y.command(3, 4, 1), -1);
        check.due("a block's end", y.command(2, 12, 1), 0);
        check.due("a block that has the place", y.command(3, 12, 1), -1);
        check.due("a block that has the place", y.command(4, 12, 1), -1);
        check.due("the first end waits on", y.command(1, 12, 1), 1);
        check.due("lines", Check.texts(y), "|a|b|c|d|e");
    }

    private static void tooManyLines(Check check) {
        EditorPanels x = Check.pageOf(298);
        check.due("three lines", x.command(1, 3, 3), 0);
        check.due("are too many", x.command(9, 5, 1), -3);
        check.due("the source waits on", x.count(5), 1);
        check.due("no place does", x.command(9, 6, 1), -3);
        x.command(1, 14, 1);
        check.due("a place", x.command(9, 5, 1), 0);
        check.due("too many for it", x.command(1, 3, 3), -3);
        check.due("a block", x.command(1, 11, 1), 0);
        check.due("too many for it", x.command(3, 11, 1), -3);
        check.due("the first end waits on", x.command(2, 11, 1), 1);
        check.due("lines()", x.lines(), 300);
        check.due("a move needs no room", x.command(1, 4, 100), 0);
        check.due("a move needs no room", x.command(300, 5, 1), 1);
        check.due("a block", x.command(1, 13, 1), 0);
        check.due("repeated too often", x.command(2, 13, 100), -3);
        check.due("it is open still", x.count(5), 1);
        check.due("lines()", x.lines(), 300);
    }

    private static void numbersThatStay(Check check) {
        EditorPanels x = Check.page("b", "a");
        check.due("all there are", x.command(2, 3, 100), 0);
        x.line();
        x.sign(3, 'c');
        x.sort(1, 2);
        check.due("behind the last", x.command(3, 5, 1), 1);
        check.due("line 2, as it is now", Check.texts(x), "|a|b|c|b");
    }

    private static void dropping(Check check) {
        EditorPanels x = letters();
        check.due("nothing waits", x.command(1, 14, 1), 1);
        x.command(1, 5, 1);
        x.command(3, 11, 1);
        check.due("place and block", x.command(5, 14, 100), 1);
        check.due("gone", x.count(5), 0);
        check.due("no act", x.count(4), 0);
        check.due("a source", x.command(1, 3, 1), 0);
        x.command(1, 14, 1);
        check.due("a block", x.command(1, 10, 1), 0);
        x.command(1, 14, 1);
        check.due("another kind", x.command(2, 13, 1), 0);
        check.due("its own first end", x.command(2, 13, 1), 1);
        check.due("lines", Check.texts(x), "|a|b|b|c|d|e");
    }
}
