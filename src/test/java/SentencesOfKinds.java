/** The second paragraph of the document's terms: the kinds of line commands and their numbers. */
public final class SentencesOfKinds {
    private static final int[] WAITING_KINDS = {3, 4, 5, 6, 10, 11, 12, 13};

    public static void main(String[] args) throws IllegalAccessException {
        Check.sentences(SentencesOfKinds.class);
    }

    private static boolean waits(int kind) {
        for (int waiting : WAITING_KINDS) {
            if (kind == waiting) {
                return true;
            }
        }
        return false;
    }

    @Sentence("LINE COMMANDS, by KIND, with a number n 1 .. 100, on a line")
    static void numbersOfKinds(Check check) {
        for (int kind = 0; kind <= 14; kind++) {
            for (int n : new int[] {0, -1, 101, Integer.MIN_VALUE, Integer.MAX_VALUE}) {
                check.due("kind " + kind + " by " + n, Check.page("a", "b").command(1, kind, n), -4);
            }
            for (int n : new int[] {1, 100}) {
                check.due("kind " + kind + " by " + n, Check.page("a", "b").command(1, kind, n), waits(kind) ? 0 : 1);
            }
        }
        for (int kind : new int[] {-1, 16, Integer.MIN_VALUE, Integer.MAX_VALUE}) {
            check.due("kind " + kind, Check.page("a", "b").command(1, kind, 1), -4);
        }
    }

    @Sentence("0 n blank lines (without characters) come behind it")
    static void blankLines(Check check) {
        EditorPanels x = Check.page("a", "b");
        check.due("one", x.command(1, 0, 1), 1);
        check.due("lines", Check.texts(x), "|a||b");
        check.due("two behind the last", x.command(3, 0, 2), 1);
        check.due("lines", Check.texts(x), "|a||b||");
        check.due("100", x.command(1, 0, 100), 1);
        check.due("lines()", x.lines(), 105);
        check.due("the 100th", x.at(101, 0), -1);
        check.due("the last but two", x.at(103, 0), 'b');
        EditorPanels y = Check.page("a");
        y.command(1, 8, 1);
        y.exclude(1, 1);
        y.command(1, 0, 1);
        check.due("it has no mark", Check.counts(y), " 0 -1 1 1 3 0 0");
    }

    @Sentence("1 n lines from it on are deleted")
    static void deletedLines(Check check) {
        EditorPanels x = Check.page("a", "b", "c", "d", "e");
        check.due("the last", x.command(5, 1, 1), 1);
        check.due("lines", Check.texts(x), "|a|b|c|d");
        check.due("the first", x.command(1, 1, 1), 1);
        check.due("lines", Check.texts(x), "|b|c|d");
        check.due("all, to the last", x.command(1, 1, 3), 1);
        check.due("lines()", x.lines(), 0);
        check.due("none is left", x.command(1, 1, 1), -2);
        EditorPanels y = Check.page("a", "b", "c", "d");
        y.exclude(3, 3);
        y.command(4, 8, 1);
        y.command(1, 1, 2);
        check.due("the others keep their marks", y.shown(1), -1);
        check.due("the others keep their marks", y.shown(2), 2);
        y.command(2, 7, 1);
        check.due("the others keep their marks", Check.counts(y), " 0 -1 1 0 4 0 0");
    }

    @Sentence("2 it comes n times more, behind it")
    static void repeatedLine(Check check) {
        EditorPanels x = Check.page("a", "b");
        check.due("once", x.command(1, 2, 1), 1);
        check.due("lines", Check.texts(x), "|a|a|b");
        check.due("twice, behind the last", x.command(3, 2, 2), 1);
        check.due("lines", Check.texts(x), "|a|a|b|b|b");
        check.due("100 times", x.command(5, 2, 100), 1);
        check.due("lines()", x.lines(), 105);
        check.due("the 100th", x.at(105, 0), 'b');
    }

    @Sentence("3 n lines from it on are to be copied")
    static void copiedLines(Check check) {
        EditorPanels x = Check.page("a", "b", "c");
        x.command(1, 3, 1);
        x.command(3, 5, 1);
        check.due("one", Check.texts(x), "|a|b|c|a");
        x.command(1, 3, 4);
        x.command(4, 5, 1);
        check.due("all, exactly", Check.texts(x), "|a|b|c|a|a|b|c|a");
    }

    @Sentence("4 to be moved")
    static void movedLines(Check check) {
        EditorPanels x = Check.page("a", "b", "c");
        x.command(1, 4, 1);
        x.command(3, 5, 1);
        check.due("one", Check.texts(x), "|b|c|a");
        x.command(1, 4, 2);
        x.command(3, 5, 1);
        check.due("all but the place", Check.texts(x), "|a|b|c");
        check.due("all", x.command(1, 4, 3), 0);
        for (int line = 1; line <= 3; line++) {
            check.due("which leaves no place", x.command(line, 5, 1), -1);
        }
    }

    @Sentence("5 behind it; 6 ahead of it")
    static void places(Check check) {
        EditorPanels x = Check.page("a", "b");
        x.command(1, 3, 1);
        x.command(2, 5, 1);
        check.due("behind the last", Check.texts(x), "|a|b|a");
        x.command(2, 3, 1);
        x.command(1, 6, 1);
        check.due("ahead of the first", Check.texts(x), "|b|a|b|a");
        x.command(1, 3, 1);
        x.command(1, 5, 1);
        check.due("behind itself", Check.texts(x), "|b|b|a|b|a");
        x.command(5, 3, 1);
        x.command(5, 6, 1);
        check.due("ahead of itself", Check.texts(x), "|b|b|a|b|a|a");
    }

    @Sentence("7, 8 it is shifted right, left by n columns")
    static void shiftedLine(Check check) {
        EditorPanels x = Check.page("a", "b");
        x.command(1, 7, 1);
        check.due("right by 1", Check.texts(x), "| a|b");
        x.command(1, 7, 70);
        check.due("right by 70", Check.texts(x), "|" + Check.repeat(' ', 71) + "a|b");
        x.command(1, 8, 1);
        check.due("left by 1", Check.texts(x), "|" + Check.repeat(' ', 70) + "a|b");
        x.command(1, 8, 70);
        check.due("left by 70", Check.texts(x), "|a|b");
    }

    @Sentence("9 n lines from it on are excluded")
    static void excludedLines(Check check) {
        EditorPanels x = Check.page("a", "b", "c", "d");
        x.command(2, 9, 1);
        check.due("one", x.count(2), 1);
        check.due("it is the second", x.shown(2), -1);
        x.command(3, 9, 2);
        check.due("to the last", x.shown(2), -3);
        check.due("the first is not", x.shown(1), 1);
        x.command(1, 9, 4);
        check.due("all", x.shown(1), -4);
    }

    @Sentence("10, 11, 12, 13 it is one end of a block that is deleted, is to be copied, to be moved, is repeated")
    static void blocks(Check check) {
        String[] due = {"|a|d", "|b|c|a|b|c|d", "|b|c|a|d", "|a|b|c|b|c|d"};
        String[] dueOfOne = {"|a|b|c", "|d|a|b|c|d", "|d|a|b|c", "|a|b|c|d|d"};
        for (int kind = 10; kind <= 13; kind++) {
            check.due("kind " + kind, afterBlock(check, kind, 2, 3), due[kind - 10]);
            check.due("kind " + kind + ", of the last line alone", afterBlock(check, kind, 4, 4), dueOfOne[kind - 10]);
        }
        check.due("all are deleted", afterBlock(check, 10, 1, 4), "");
        check.due("all are repeated", afterBlock(check, 13, 1, 4), "|a|b|c|d|a|b|c|d");
    }

    /** A source comes ahead of line 1. */
    private static String afterBlock(Check check, int kind, int first, int last) {
        EditorPanels x = Check.page("a", "b", "c", "d");
        boolean isSource = kind == 11 || kind == 12;
        check.due("one end of kind " + kind, x.command(first, kind, 1), 0);
        check.due("the other end of kind " + kind, x.command(last, kind, 1), isSource ? 0 : 1);
        if (isSource) {
            check.due("the place of kind " + kind, x.command(1, 6, 1), 1);
        }
        return Check.texts(x);
    }

    @Sentence("(n times behind its end, by the second end's n)")
    static void repeatsOfABlock(Check check) {
        EditorPanels x = Check.page("a", "b", "c");
        x.command(1, 13, 100);
        check.due("the second end's 1", x.command(2, 13, 1), 1);
        check.due("lines", Check.texts(x), "|a|b|a|b|c");
        x.command(5, 13, 1);
        check.due("the second end's 2, which stands ahead", x.command(4, 13, 2), 1);
        check.due("lines", Check.texts(x), "|a|b|a|b|c|b|c|b|c");
        x.command(1, 13, 1);
        check.due("100 times", x.command(1, 13, 100), 1);
        check.due("lines()", x.lines(), 109);
    }

    @Sentence("14 all that waits is gone")
    static void nothingWaitsAnyMore(Check check) {
        EditorPanels x = Check.page("a", "b");
        check.due("of nothing", x.command(1, 14, 1), 1);
        for (int kind : WAITING_KINDS) {
            x.command(1, kind, 1);
            check.due("of kind " + kind, x.command(2, 14, 1), 1);
            check.due("kind " + kind + " is gone", x.count(5), 0);
        }
        x.command(1, 5, 1);
        x.command(1, 11, 1);
        x.command(1, 14, 100);
        check.due("place and open block are gone", x.count(5), 0);
        check.due("a place is one anew", x.command(2, 5, 1), 0);
        x.command(1, 14, 1);
        check.due("a block is one anew", x.command(2, 10, 1), 0);
        x.command(1, 14, 1);
        x.command(1, 12, 1);
        x.command(1, 12, 1);
        x.command(1, 14, 1);
        check.due("a source is one anew", x.command(2, 3, 1), 0);
        check.due("lines", Check.texts(x), "|a|b");
    }

    @Sentence("15 macro n - 1 (1 .. 10) is run on it")
    static void macrosByNumber(Check check) {
        for (int n = 1; n <= 10; n++) {
            EditorPanels x = Check.page("a", "b");
            x.macro(n - 1, 2 + 16);
            check.due("macro " + (n - 1), x.command(2, 15, n), 1);
            check.due("macro " + (n - 1), Check.texts(x), "|a|b|b");
        }
        EditorPanels y = Check.page("a");
        for (int n : new int[] {0, 11, 100, 101, -1, Integer.MIN_VALUE, Integer.MAX_VALUE}) {
            check.due("n = " + n, y.command(1, 15, n), -4);
        }
    }

    @Sentence("(As many lines as there are, if n is greater.)")
    static void asManyAsThereAre(Check check) {
        for (int n : new int[] {3, 100}) {
            EditorPanels x = Check.page("a", "b", "c");
            check.due("deleted by " + n, x.command(2, 1, n), 1);
            check.due("deleted by " + n, Check.texts(x), "|a");
            x = Check.page("a", "b", "c");
            x.command(2, 3, n);
            check.due("copied by " + n, x.command(1, 6, 1), 1);
            check.due("copied by " + n, Check.texts(x), "|b|c|a|b|c");
            x = Check.page("a", "b", "c");
            x.command(2, 4, n);
            check.due("moved by " + n, x.command(1, 6, 1), 1);
            check.due("moved by " + n, Check.texts(x), "|b|c|a");
            x = Check.page("a", "b", "c");
            check.due("excluded by " + n, x.command(2, 9, n), 1);
            check.due("excluded by " + n, x.shown(2), -2);
            x.line();
            check.due("not a line that came then", x.shown(3), 4);
        }
        EditorPanels y = Check.pageOf(300);
        check.due("from line 300 on", y.command(300, 1, 100), 1);
        check.due("lines()", y.lines(), 299);
    }
}
