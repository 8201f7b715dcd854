/** Promises 8 to 10: exclude(), sort(), undo(). */
public final class SentencesOfPromises08To10 {
    public static void main(String[] args) throws IllegalAccessException {
        Check.sentences(SentencesOfPromises08To10.class);
    }

    @Sentence("Lines from .. to are excluded")
    static void excludedLines(Check check) {
        EditorPanels x = Check.page("a", "b", "c", "d");
        check.due("one", x.exclude(2, 2), 1);
        check.due("that one", x.shown(2), -1);
        check.due("the next", x.shown(3), 3);
        check.due("to the last", x.exclude(3, 4), 2);
        check.due("these", x.shown(2), -3);
        check.due("from the first", x.exclude(1, 1), 1);
        check.due("all", x.shown(1), -4);
        EditorPanels y = Check.pageOf(300);
        check.due("the 300th", y.exclude(300, 300), 1);
        check.due("it alone", y.count(2), 1);
        check.due("all the others", y.exclude(1, 300), 299);
        check.due("all", y.count(2), 300);
    }

    @Sentence("(from above to: none)")
    static void excludedFromAbove(Check check) {
        EditorPanels x = Check.page("a", "b", "c");
        check.due("exclude(2, 1)", x.exclude(2, 1), 0);
        check.due("exclude(3, 1)", x.exclude(3, 1), 0);
        check.due("none", Check.counts(x), " 0 -1 0 0 0 0 0");
    }

    @Sentence("how many weren't")
    static void excludedAlready(Check check) {
        EditorPanels x = Check.page("a", "b", "c", "d");
        check.due("none was", x.exclude(2, 3), 2);
        check.due("two were", x.exclude(1, 4), 2);
        check.due("all were", x.exclude(1, 4), 0);
        x.word('c', false);
        x.find(1);
        check.due("all but one were", x.exclude(1, 4), 1);
    }

    @Sentence("how many weren't; -2.")
    static void excludedOutside(Check check) {
        EditorPanels x = Check.page("a", "b");
        int[][] wrong = {{0, 1}, {1, 3}, {3, 3}, {0, 0}, {3, 1}, {2, 0}, {-1, 2}, {1, 301},
            {Integer.MIN_VALUE, Integer.MAX_VALUE}, {Integer.MAX_VALUE, Integer.MIN_VALUE}};
        for (int[] w : wrong) {
            check.due("exclude(" + w[0] + ", " + w[1] + ")", x.exclude(w[0], w[1]), -2);
        }
        check.due("none", Check.counts(x), " 0 -1 0 0 0 0 0");
        check.due("without lines", new EditorPanels(9).exclude(1, 1), -2);
        check.due("without lines", new EditorPanels(9).exclude(0, 0), -2);
    }

    @Sentence("Lines from .. to are sorted by their characters")
    static void sortedLines(Check check) {
        EditorPanels x = Check.page("~", "b", "B", " ", "a", "0");
        check.due("but the first and the last", x.sort(2, 5), 3);
        check.due("but the first and the last", Check.texts(x), "|~| |B|a|b|0");
        x.sort(1, 6);
        check.due("all", Check.texts(x), "| |0|B|a|b|~");
        EditorPanels w = Check.page("b", "aa", "", "aaz", "ab");
        check.due("not by their lengths", w.sort(1, 5), 4);
        check.due("not by their lengths", Check.texts(w), "||aa|aaz|ab|b");
        String seventyOne = Check.repeat('m', 71);
        EditorPanels y = Check.page(seventyOne + "b", seventyOne + "a");
        check.due("by the 72nd", y.sort(1, 2), 2);
        check.due("by the 72nd", y.at(1, 71), 'a');
        EditorPanels z = Check.pageOf(300);
        z.sign(1, 'z');
        check.due("300 of them", z.sort(1, 300), 300);
        check.due("the last", Check.text(z, 300), "az");
    }

    @Sentence("(the shorter one first if that is all)")
    static void shorterFirst(Check check) {
        EditorPanels x = Check.page("ab", "a ", "a", " ", "", "aa");
        x.sort(1, 6);
        check.due("lines", Check.texts(x), "|| |a|a |aa|ab");
        String nine = Check.repeat('a', 9);
        EditorPanels y = Check.page(nine + nine, nine + "a", nine, Check.repeat('a', 8), "");
        y.sort(1, 5);
        check.due("lines", Check.texts(y), "||" + Check.repeat('a', 8) + "|" + nine + "|" + nine + "a|" + nine + nine);
        EditorPanels z = Check.page(Check.repeat('a', 72), Check.repeat('a', 71));
        check.due("by the 72nd", z.sort(1, 2), 2);
        check.due("by the 72nd", z.at(1, 71), -1);
    }

    @Sentence("equal ones as they were")
    static void equalOnes(Check check) {
        EditorPanels x = Check.page("b", "a", "b", "a", "b");
        x.exclude(1, 1);
        x.command(4, 8, 1);
        check.due("sort(1, 5)", x.sort(1, 5), 4);
        check.due("lines", Check.texts(x), "|a|a|b|b|b");
        check.due("the first b is the excluded one", x.shown(3), -1);
        x.command(1, 7, 1);
        check.due("the first a is not the lost one", x.count(3), 1);
        x.command(2, 7, 1);
        check.due("the second is", x.count(3), 0);
        EditorPanels y = Check.page("a", "a", "a");
        y.exclude(2, 2);
        check.due("all are equal", y.sort(1, 3), 0);
        check.due("the second is excluded still", y.shown(2), -1);
    }

    @Sentence("how many stand elsewhere then")
    static void elsewhere(Check check) {
        check.due("none", Check.page("a", "b", "c").sort(1, 3), 0);
        check.due("two", Check.page("b", "a", "c").sort(1, 3), 2);
        check.due("two, round one that stays", Check.page("c", "b", "a").sort(1, 3), 2);
        check.due("three", Check.page("b", "c", "a").sort(1, 3), 3);
        check.due("equal ones that others push", Check.page("b", "b", "a").sort(1, 3), 3);
        check.due("an equal one in its place", Check.page("b", "a", "b").sort(1, 3), 2);
        check.due("one line", Check.page("b", "a").sort(1, 1), 0);
        check.due("the last line", Check.page("b", "a").sort(2, 2), 0);
    }

    @Sentence("-2 (also from above to)")
    static void sortedOutside(Check check) {
        EditorPanels x = Check.page("b", "a");
        int[][] wrong = {{2, 1}, {0, 1}, {1, 3}, {0, 0}, {3, 3}, {3, 1}, {-1, 2}, {1, 301},
            {Integer.MIN_VALUE, Integer.MAX_VALUE}, {Integer.MAX_VALUE, Integer.MIN_VALUE}};
        for (int[] w : wrong) {
            check.due("sort(" + w[0] + ", " + w[1] + ")", x.sort(w[0], w[1]), -2);
        }
        check.due("lines", Check.texts(x), "|b|a");
        check.due("no act", x.count(4), 0);
        check.due("without lines", new EditorPanels(9).sort(1, 1), -2);
    }

    @Sentence("The latest act is undone: 1")
    static void latestAct(Check check) {
        EditorPanels x = Check.page("a");
        x.command(1, 7, 1);
        x.command(1, 7, 1);
        check.due("the second", x.undo(), 1);
        check.due("the second", Check.text(x, 1), " a");
        check.due("it is none any more", x.count(4), 1);
        x.command(1, 2, 1);
        check.due("one that came then", x.undo(), 1);
        check.due("one that came then", Check.texts(x), "| a");
        check.due("the first", x.undo(), 1);
        check.due("the first", Check.texts(x), "|a");
    }

    @Sentence("0 when there is none")
    static void noAct(Check check) {
        EditorPanels x = Check.page("a", "b");
        check.due("at first", x.undo(), 0);
        check.due("lines", Check.texts(x), "|a|b");
        x.command(1, 1, 1);
        x.undo();
        check.due("after the only one", x.undo(), 0);
        check.due("lines", Check.texts(x), "|a|b");
        x.word('b', false);
        x.find(1);
        x.command(1, 3, 1);
        check.due("while something waits", x.undo(), 0);
        check.due("that waits on, the cursor stays", Check.counts(x), " 2 0 0 0 0 1 0");
        check.due("without lines", new EditorPanels(1).undo(), 0);
    }
}
