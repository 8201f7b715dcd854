/** The first paragraph of the document's terms: lines, their marks, and the cursor. */
public final class SentencesOfLines {
    public static void main(String[] args) throws IllegalAccessException {
        Check.sentences(SentencesOfLines.class);
    }

    private static EditorPanels withCursorAt(String sought, String... texts) {
        EditorPanels x = Check.page(texts);
        Check.word(x, sought, false);
        x.find(1);
        return x;
    }

    @Sentence("LINES are numbered from 1 on as they stand")
    static void numbers(Check check) {
        EditorPanels x = Check.page("a", "b", "c");
        check.due("line 0", x.at(0, 0), -1);
        check.due("line 1", x.at(1, 0), 'a');
        check.due("line 3", x.at(3, 0), 'c');
        check.due("line 4", x.at(4, 0), -1);
        x.command(1, 1, 1);
        check.due("line 1 without the first", x.at(1, 0), 'b');
        check.due("line 2 without the first", x.at(2, 0), 'c');
        check.due("line 3 without the first", x.at(3, 0), -1);
        check.due("the next one's number", x.line(), 3);
    }

    @Sentence("at most 300")
    static void threeHundredLines(Check check) {
        EditorPanels x = Check.pageOf(298);
        check.due("line()", x.line(), 299);
        check.due("line()", x.line(), 300);
        check.due("line()", x.line(), -3);
        check.due("lines()", x.lines(), 300);
        x.sign(300, 'z');
        check.due("line 300 is one", x.at(300, 0), 'z');
        x.sign(301, 'z');
        check.due("line 301 is none", x.at(301, 0), -1);
    }

    @Sentence("each of up to 72 CHARACTERS")
    static void seventyTwoCharacters(Check check) {
        EditorPanels x = Check.page(Check.repeat('a', 71));
        x.sign(1, 'y');
        x.sign(1, 'z');
        check.due("the line", Check.text(x, 1), Check.repeat('a', 71) + "y");
    }

    @Sentence("32 .. 126")
    static void charactersOfALine(Check check) {
        EditorPanels x = Check.page("");
        for (int c : new int[] {31, 32, 126, 127}) {
            x.sign(1, c);
        }
        check.due("the line", Check.text(x, 1), " ~");
    }

    @Sentence("one may be EXCLUDED, or LOST")
    static void bothMarks(Check check) {
        EditorPanels x = Check.page("a", "b", "c", "d");
        x.exclude(2, 2);
        x.command(3, 8, 1);
        x.exclude(4, 4);
        x.command(4, 8, 1);
        check.due("excluded ones", x.count(2), 2);
        check.due("lost ones", x.count(3), 2);
        x.command(4, 7, 1);
        check.due("a shift leaves it excluded", x.count(2), 2);
        check.due("and lost no more", x.count(3), 1);
        x.exclude(3, 3);
        x.word('c', false);
        x.find(1);
        check.due("finding leaves it lost", x.count(3), 1);
        check.due("and excluded no more", x.count(2), 2);
    }

    @Sentence("or nowhere (at first")
    static void cursorAtFirst(Check check) {
        EditorPanels x = new EditorPanels(5);
        check.due("without lines", x.count(0), 0);
        check.due("without lines", x.count(1), -1);
        x.line();
        x.sign(1, 'a');
        check.due("with a line", x.count(0), 0);
        check.due("with a line", x.count(1), -1);
    }

    @Sentence("also when its line is gone")
    static void cursorOfADeletedLine(Check check) {
        for (int first = 1; first <= 3; first++) {
            for (int last = 3; last <= 4; last++) {
                EditorPanels x = withCursorAt("*", "a", "b", "*", "*", "*");
                x.command(first, 1, last - first + 1);
                check.due("deleted from " + first + " to " + last, x.count(0), 0);
                check.due("deleted from " + first + " to " + last, x.count(1), -1);
            }
        }
        EditorPanels w = withCursorAt("*", "a", "*", "b");
        w.command(3, 1, 1);
        w.command(1, 1, 1);
        check.due("others are gone", w.count(0), 1);
        EditorPanels y = withCursorAt("*", "a", "*", "*");
        y.command(3, 10, 1);
        y.command(1, 10, 1);
        check.due("deleted in a block", y.count(0), 0);
        y.line();
        y.line();
        Check.sign(y, 1, "**");
        Check.sign(y, 2, "**");
        check.due("another one of its number", y.count(0), 0);
        check.due("another one of its number", y.count(1), -1);
    }

    @Sentence("or as long as there is no such character")
    static void cursorWithoutItsCharacter(Check check) {
        EditorPanels x = withCursorAt("*", "  *");
        x.command(1, 8, 1);
        check.due("one character too few", x.count(0), 0);
        check.due("one character too few", x.count(1), -1);
        x.sign(1, 'a');
        check.due("there is one again", x.count(0), 1);
        check.due("there is one again", x.count(1), 2);
        x.command(1, 7, 1);
        check.due("the same place in a shifted line", x.count(1), 2);
        x.undo();
        x.find(1);
        Check.word(x, " *a", false);
        x.change(true);
        check.due("an empty line", x.count(0), 0);
        check.due("an empty line", x.count(1), -1);
    }

    @Sentence("it stays with its line")
    static void cursorWhileLinesAreMovedOrCopied(Check check) {
        for (int first = 1; first <= 4; first++) {
            for (int last = first; last <= 4; last++) {
                for (int target = 1; target <= 5; target++) {
                    moveOrCopy(check, 3, first, last, target);
                    if (target < first || target > last + 1) {
                        moveOrCopy(check, 4, first, last, target);
                    }
                }
            }
        }
    }

    /** Ahead of the target's line, or behind the last one, with the cursor on each line in turn. */
    private static void moveOrCopy(Check check, int kind, int first, int last, int target) {
        int n = last - first + 1;
        for (int line = 1; line <= 4; line++) {
            EditorPanels x = withCursorAt(String.valueOf((char) ('a' + line - 1)), "a", "b", "c", "d");
            x.command(first, kind, n);
            x.command(target == 5 ? 4 : target, target == 5 ? 5 : 6, 1);
            String call = "line " + line + ", " + first + " to " + last + " by kind " + kind + " to " + target;
            check.due(call, x.at(x.count(0), 0), 'a' + line - 1);
            if (kind == 3) {
                check.due(call, x.count(0), target <= line ? line + n : line);
            }
        }
    }

    @Sentence("it stays with its line")
    static void cursorOfALineThatWanders(Check check) {
        EditorPanels x = withCursorAt("*", "b", " *", "a");
        x.command(1, 0, 1);
        check.due("a line more ahead of it", x.count(0), 3);
        x.command(3, 2, 1);
        check.due("its twin behind it", x.count(0), 3);
        x.command(2, 1, 1);
        check.due("a line less ahead of it", x.count(0), 2);
        x.command(1, 6, 1);
        x.command(2, 4, 1);
        check.due("moved ahead of the first", x.count(0), 1);
        x.command(1, 4, 1);
        x.command(4, 5, 1);
        check.due("moved behind the last", x.count(0), 4);
        x.command(4, 6, 1);
        x.command(1, 3, 2);
        check.due("copies ahead of it", x.count(0), 6);
        x.command(1, 12, 1);
        x.command(3, 12, 1);
        x.command(6, 5, 1);
        check.due("others moved behind it", x.count(0), 3);
        check.due("sorted", x.sort(1, 6) > 0 ? 1 : 0, 1);
        check.due("its twins ahead of it were so", x.count(0), 2);
        check.due("at its character", x.count(1), 1);
    }
}
