/** The document's paragraph on shifts. */
public final class SentencesOfShifts {
    public static void main(String[] args) throws IllegalAccessException {
        Check.sentences(SentencesOfShifts.class);
    }

    private static String shifted(String text, int kind, int n) {
        EditorPanels x = Check.page(text);
        x.command(1, kind, n);
        return Check.text(x, 1) + (x.count(3) == 0 ? "" : "!");
    }

    @Sentence("right: blanks come ahead")
    static void right(Check check) {
        check.due("by 1", shifted("ab", 7, 1), " ab");
        check.due("one that begins with a blank", shifted(" ab", 7, 2), "   ab");
        check.due("an empty one", shifted("", 7, 3), "   ");
        check.due("an empty one by 72", shifted("", 7, 72), Check.repeat(' ', 72));
    }

    @Sentence("if a character that is not a blank would come behind the 72nd, the line stays, and is lost")
    static void rightTooFar(Check check) {
        check.due("to the 72nd", shifted("ab", 7, 70), Check.repeat(' ', 70) + "ab");
        check.due("behind the 72nd", shifted("ab", 7, 71), "ab!");
        check.due("far behind it", shifted("ab", 7, 100), "ab!");
        check.due("one character to the 72nd", shifted("a", 7, 71), Check.repeat(' ', 71) + "a");
        check.due("one character behind it", shifted("a", 7, 72), "a!");
        check.due("one character far behind it", shifted("a", 7, 100), "a!");
        check.due("a full line", shifted(Check.repeat('a', 72), 7, 1), Check.repeat('a', 72) + "!");
        check.due("a line of 71", shifted(Check.repeat('a', 71), 7, 1), " " + Check.repeat('a', 71));
        check.due("the last one behind blanks", shifted("a" + Check.repeat(' ', 70) + "b", 7, 1),
                "a" + Check.repeat(' ', 70) + "b!");
        check.due("the last one ahead of a blank", shifted(Check.repeat('a', 71) + " ", 7, 2),
                Check.repeat('a', 71) + " !");
    }

    @Sentence("blanks there go")
    static void rightWithBlanksBehind(Check check) {
        check.due("one goes", shifted("a" + Check.repeat(' ', 71), 7, 1), " a" + Check.repeat(' ', 70));
        check.due("all go", shifted("a" + Check.repeat(' ', 71), 7, 71), Check.repeat(' ', 71) + "a");
        check.due("a blank line", shifted("  ", 7, 100), Check.repeat(' ', 72));
        check.due("an empty line", shifted("", 7, 100), Check.repeat(' ', 72));
        check.due("a full blank line", shifted(Check.repeat(' ', 72), 7, 1), Check.repeat(' ', 72));
        check.due("the 72nd", shifted(Check.repeat('a', 71) + " ", 7, 1), " " + Check.repeat('a', 71));
    }

    @Sentence("Left: if the first n characters (as far as there are any) are blanks, they go")
    static void left(Check check) {
        check.due("one of two", shifted("  a", 8, 1), " a");
        check.due("both", shifted("  a", 8, 2), "a");
        check.due("all there are", shifted("  ", 8, 2), "");
        check.due("as far as there are any", shifted("  ", 8, 3), "");
        check.due("as far as there are any", shifted(" ", 8, 100), "");
        check.due("without any", shifted("", 8, 1), "");
        check.due("without any", shifted("", 8, 100), "");
        check.due("72 of them", shifted(Check.repeat(' ', 72), 8, 72), "");
        check.due("71 of them", shifted(Check.repeat(' ', 71) + "a", 8, 71), "a");
    }

    @Sentence("else it stays, and is lost")
    static void leftTooFar(Check check) {
        check.due("no blank", shifted("a", 8, 1), "a!");
        check.due("one blank too few", shifted("  a", 8, 3), "  a!");
        check.due("one that is none between", shifted(" a ", 8, 3), " a !");
        check.due("far", shifted("  a", 8, 100), "  a!");
        check.due("the 72nd", shifted(Check.repeat(' ', 71) + "a", 8, 72), Check.repeat(' ', 71) + "a!");
    }

    @Sentence("A shift that is done takes the mark away.")
    static void markThatGoes(Check check) {
        EditorPanels x = Check.page("a");
        x.command(1, 8, 1);
        check.due("lost", x.count(3), 1);
        x.command(1, 8, 1);
        check.due("lost still", x.count(3), 1);
        x.command(1, 7, 71);
        check.due("right", x.count(3), 0);
        x.command(1, 7, 1);
        check.due("lost", x.count(3), 1);
        x.command(1, 8, 71);
        check.due("left", x.count(3), 0);
        EditorPanels y = Check.page("");
        Check.word(y, "a", false);
        Check.word(y, Check.repeat('b', 20), true);
        Check.sign(y, 1, "aaaa");
        y.change(true);
        check.due("lost by a change", y.count(3), 1);
        Check.word(y, "b", true);
        check.due("a change that is done", y.change(true), 4);
        check.due("does not take it away", y.count(3), 1);
        y.command(1, 7, 1);
        check.due("a shift does", y.count(3), 0);
        EditorPanels z = Check.page("", "b");
        z.command(2, 8, 1);
        z.command(2, 4, 1);
        z.command(1, 6, 1);
        z.command(2, 8, 1);
        check.due("another line's stays", z.count(3), 1);
    }
}
