/** Promise 4: line commands that are done at once, and the refusals in their order. */
public final class Promise04Command {
    public static void main(String[] args) {
        Check check = new Check();
        refusals(check);
        blanksDeletionsRepeats(check);
        limitOfLines(check);
        lastLineOfAll(check);
        shiftRight(check);
        shiftLeft(check);
        excluding(check);
        check.end();
    }

    private static void refusals(Check check) {
        EditorPanels x = Check.page("a", "b");
        int[] lines = {0, 3, -1, 301, Integer.MIN_VALUE, Integer.MAX_VALUE};
        for (int line : lines) {
            for (int kind = -1; kind <= 16; kind++) {
                check.due("command(" + line + ", " + kind + ", 0)", x.command(line, kind, 0), -2);
            }
        }
        int[] kinds = {-1, 16, 17, Integer.MIN_VALUE, Integer.MAX_VALUE};
        for (int kind : kinds) {
            check.due("command(1, " + kind + ", 1)", x.command(1, kind, 1), -4);
        }
        int[] numbers = {0, -1, 101, Integer.MIN_VALUE, Integer.MAX_VALUE};
        for (int kind = 0; kind <= 15; kind++) {
            for (int n : numbers) {
                check.due("command(1, " + kind + ", " + n + ")", x.command(1, kind, n), -4);
            }
        }
        check.due("there is no such macro", x.command(1, 15, 11), -4);
        check.due("nothing changed", Check.texts(x), "|a|b");
        check.due("nothing waits", x.count(5), 0);
        check.due("no act", x.count(4), 0);
        orderOfRefusals(check);
    }

    private static void orderOfRefusals(Check check) {
        EditorPanels x = Check.pageOf(300);
        check.due("a place", x.command(1, 5, 100), 0);
        check.due("-2 ahead of -4", x.command(301, 0, 101), -2);
        check.due("-4 ahead of -1", x.command(1, 0, 101), -4);
        check.due("-4 ahead of -1", x.command(1, 15, 11), -4);
        check.due("-1 ahead of -3", x.command(1, 0, 1), -1);
        check.due("-3", x.command(1, 3, 1), -3);
        check.due("the place waits on", x.command(2, 4, 1), 1);
    }

    private static void blanksDeletionsRepeats(Check check) {
        EditorPanels x = Check.page("a", "b", "c");
        check.due("two blank lines", x.command(1, 0, 2), 1);
        check.due("lines", Check.texts(x), "|a|||b|c");
        check.due("one behind the last", x.command(5, 0, 1), 1);
        check.due("lines", Check.texts(x), "|a|||b|c|");
        check.due("delete two", x.command(2, 1, 2), 1);
        check.due("lines", Check.texts(x), "|a|b|c|");
        check.due("delete as many as there are", x.command(3, 1, 100), 1);
        check.due("lines", Check.texts(x), "|a|b");
        check.due("twice more", x.command(1, 2, 2), 1);
        check.due("lines", Check.texts(x), "|a|a|a|b");
        x.command(4, 8, 1);
        x.exclude(4, 4);
        check.due("a marked one", x.command(4, 2, 1), 1);
        check.due("excluded ones", x.count(2), 2);
        check.due("lost ones", x.count(3), 2);
        check.due("blank ones behind it", x.command(4, 0, 1), 1);
        check.due("are not excluded", x.count(2), 2);
        check.due("are not lost", x.count(3), 2);
        check.due("all", x.command(1, 1, 100), 1);
        check.due("lines()", x.lines(), 0);
        check.due("acts", x.count(4), 10);
    }

    private static void limitOfLines(Check check) {
        EditorPanels x = Check.pageOf(200);
        check.due("100 more", x.command(200, 0, 100), 1);
        check.due("one more", x.command(1, 0, 1), -3);
        check.due("one more", x.command(1, 2, 1), -3);
        check.due("lines()", x.lines(), 300);
        int acts = x.count(4);
        check.due("delete 100", x.command(101, 1, 100), 1);
        check.due("repeat 100 times", x.command(1, 2, 100), 1);
        check.due("delete one", x.command(1, 1, 1), 1);
        check.due("two more", x.command(1, 2, 2), -3);
        check.due("two more", x.command(1, 0, 2), -3);
        check.due("one more", x.command(1, 2, 1), 1);
        check.due("lines()", x.lines(), 300);
        check.due("refusals are no acts", x.count(4), acts + 4);
    }

    /** Line 300 is a line as the others are. */
    private static void lastLineOfAll(Check check) {
        EditorPanels x = Check.pageOf(299);
        x.sign(299, 'z');
        x.command(299, 8, 1);
        check.due("one more ahead of it", x.command(1, 2, 1), 1);
        check.due("it is line 300", Check.text(x, 300), "az");
        check.due("with its mark", x.count(3), 1);
        check.due("delete it", x.command(300, 1, 1), 1);
        check.due("its mark is gone", x.count(3), 0);
        x.undo();
        check.due("there again", Check.text(x, 300), "az");
        check.due("with its mark", x.count(3), 1);
        x.command(300, 4, 1);
        check.due("to the beginning", x.command(1, 6, 1), 1);
        check.due("line 1", Check.text(x, 1), "az");
        check.due("line 300", Check.text(x, 300), "a");
        check.due("sorted behind all", x.sort(1, 300), 300);
        check.due("line 300", Check.text(x, 300), "az");
        x.command(300, 1, 1);
        x.command(298, 2, 1);
        check.due("line 300", Check.text(x, 300), "a");
        check.due("another line 300", x.count(3), 0);
    }

    private static void shiftRight(Check check) {
        EditorPanels x = Check.page("a  ", "", "  ");
        check.due("by 70", x.command(1, 7, 70), 1);
        check.due("a blank went", Check.text(x, 1), Check.repeat(' ', 70) + "a ");
        check.due("by 1", x.command(1, 7, 1), 1);
        check.due("the 72nd", Check.text(x, 1), Check.repeat(' ', 71) + "a");
        check.due("nothing lost", x.count(3), 0);
        check.due("by 1 more", x.command(1, 7, 1), 1);
        check.due("it stays", x.at(1, 71), 'a');
        check.due("lost", x.count(3), 1);
        check.due("an act", x.count(4), 3);
        check.due("once more", x.command(1, 7, 100), 1);
        check.due("an act, too", x.count(4), 4);
        check.due("an empty line", x.command(2, 7, 3), 1);
        check.due("has blanks then", Check.text(x, 2), "   ");
        check.due("blanks by 100", x.command(3, 7, 100), 1);
        check.due("72 of them", Check.text(x, 3), Check.repeat(' ', 72));
        check.due("one lost", x.count(3), 1);
        x.undo();
        check.due("undone", Check.text(x, 3), "  ");
        EditorPanels y = Check.page("b");
        y.command(1, 7, 72);
        check.due("one character, by 72", Check.text(y, 1), "b");
        check.due("lost", y.count(3), 1);
        y.undo();
        check.due("not lost", y.count(3), 0);
        y.command(1, 8, 1);
        check.due("lost", y.count(3), 1);
        y.command(1, 7, 1);
        check.due("a shift that is done takes the mark", y.count(3), 0);
    }

    private static void shiftLeft(Check check) {
        EditorPanels x = Check.page("   a", "  ", "", "a");
        check.due("by 2", x.command(1, 8, 2), 1);
        check.due("line 1", Check.text(x, 1), " a");
        check.due("by 2 more", x.command(1, 8, 2), 1);
        check.due("it stays", Check.text(x, 1), " a");
        check.due("lost", x.count(3), 1);
        check.due("by 1", x.command(1, 8, 1), 1);
        check.due("line 1", Check.text(x, 1), "a");
        check.due("not lost", x.count(3), 0);
        check.due("blanks as far as there are any", x.command(2, 8, 100), 1);
        check.due("line 2", Check.text(x, 2), "");
        check.due("an empty one", x.command(3, 8, 1), 1);
        check.due("not lost", x.count(3), 0);
        check.due("no blank", x.command(4, 8, 1), 1);
        check.due("lost", x.count(3), 1);
        check.due("acts", x.count(4), 6);
        check.due("right again", x.command(4, 7, 1), 1);
        check.due("not lost", x.count(3), 0);
        check.due("line 4", Check.text(x, 4), " a");
    }

    private static void excluding(Check check) {
        EditorPanels x = Check.page("a", "b", "c");
        check.due("two", x.command(2, 9, 2), 1);
        check.due("excluded ones", x.count(2), 2);
        check.due("as many as there are", x.command(3, 9, 100), 1);
        check.due("excluded ones", x.count(2), 2);
        check.due("acts", x.count(4), 2);
        check.due("one", x.command(1, 9, 1), 1);
        check.due("shown(1)", x.shown(1), -3);
    }
}
