/** Promises 1 to 3: a new object, line(), sign(). */
public final class SentencesOfPromises01To03 {
    public static void main(String[] args) throws IllegalAccessException {
        Check.sentences(SentencesOfPromises01To03.class);
    }

    private static EditorPanels fullPageOn(int rows) {
        EditorPanels x = new EditorPanels(rows);
        x.line();
        x.command(1, 0, 100);
        x.command(1, 0, 100);
        x.command(1, 0, 99);
        return x;
    }

    @Sentence("A screen of 0 .. 65536 rows")
    static void rowsOfTheScreen(Check check) {
        check.due("0 rows", fullPageOn(0).shown(1), 0);
        check.due("1 row", fullPageOn(1).shown(1), 1);
        check.due("1 row", fullPageOn(1).shown(2), 0);
        check.due("299 rows", fullPageOn(299).shown(299), 299);
        check.due("299 rows", fullPageOn(299).shown(300), 0);
        check.due("65536 rows", fullPageOn(65536).shown(300), 300);
        check.due("65536 rows", fullPageOn(65536).shown(301), 0);
    }

    @Sentence("(numbers outside are held to these)")
    static void rowsOutside(Check check) {
        check.due("-1", fullPageOn(-1).shown(1), 0);
        check.due("the least", fullPageOn(Integer.MIN_VALUE).shown(1), 0);
        check.due("65537", fullPageOn(65537).shown(300), 300);
        check.due("65537", fullPageOn(65537).shown(65537), 0);
        check.due("the greatest", fullPageOn(Integer.MAX_VALUE).shown(300), 300);
        check.due("the greatest", fullPageOn(Integer.MAX_VALUE).shown(Integer.MAX_VALUE), 0);
    }

    @Sentence("no lines, texts, macros, members; panel 0")
    static void emptiness(Check check) {
        EditorPanels x = new EditorPanels(24);
        check.due("lines", x.lines(), 0);
        check.due("lines", x.shown(1), 0);
        for (int what = 10; what <= 29; what++) {
            check.due("members, count(" + what + ")", x.count(what), 0);
        }
        check.due("panel", x.count(6), 0);
        check.due("panel", x.panel(0, 0), 0);
        check.due("waiting, acts, marks, cursor", Check.counts(x), " 0 -1 0 0 0 0 0");
        check.due("undo()", x.undo(), 0);
        x.line();
        x.sign(1, 'a');
        check.due("no text to be found", x.find(1), 0);
        check.due("its first character", x.word('a', false), 1);
        check.due("by no text", x.change(true), 1);
        check.due("by no text", x.at(1, 0), -1);
        check.due("its first character", x.word('a', true), 1);
        for (int n = 1; n <= 10; n++) {
            check.due("macro " + (n - 1), x.command(1, 15, n), 1);
        }
        check.due("macros without rows", Check.texts(x), "|");
    }

    @Sentence("A new last line: its number")
    static void newLine(Check check) {
        EditorPanels x = Check.page("a");
        check.due("the second", x.line(), 2);
        check.due("the third", x.line(), 3);
        check.due("without characters", Check.texts(x), "|a||");
        x.command(1, 1, 3);
        check.due("the first again", x.line(), 1);
        check.due("without characters", Check.texts(x), "|");
        EditorPanels y = Check.page("a");
        y.exclude(1, 1);
        y.command(1, 8, 1);
        check.due("the second", y.line(), 2);
        check.due("without marks", Check.counts(y), " 0 -1 1 1 2 0 0");
        EditorPanels z = Check.page("ab", "b");
        z.command(2, 8, 1);
        z.command(2, 9, 1);
        z.command(2, 1, 1);
        check.due("where a marked one stood", z.line(), 2);
        check.due("without marks", Check.counts(z), " 0 -1 0 0 3 0 0");
        check.due("without characters", Check.texts(z), "|ab|");
    }

    @Sentence("A new last line: its number; -3.")
    static void noRoomForALine(Check check) {
        EditorPanels x = Check.pageOf(299);
        check.due("the 300th", x.line(), 300);
        for (int i = 0; i < 3; i++) {
            check.due("the 301st", x.line(), -3);
            check.due("lines()", x.lines(), 300);
        }
        x.command(150, 1, 1);
        check.due("the 300th again", x.line(), 300);
        check.due("the 301st again", x.line(), -3);
    }

    @Sentence("A character comes behind a line")
    static void characterBehind(Check check) {
        EditorPanels x = Check.page("", "b");
        x.sign(1, 'x');
        x.sign(2, ' ');
        x.sign(1, 'y');
        check.due("lines", Check.texts(x), "|xy|b ");
        x.exclude(1, 1);
        x.command(1, 5, 1);
        x.sign(1, 'z');
        check.due("an excluded one, while something waits", Check.text(x, 1), "xyz");
        check.due("it stays so, and that waits on", Check.counts(x), " 0 -1 1 0 1 1 0");
    }

    @Sentence("nothing happens when there is no such line or character")
    static void noLineOrCharacter(Check check) {
        EditorPanels x = Check.page("a", "b");
        for (int line : new int[] {0, 3, -1, 300, 301, Integer.MIN_VALUE, Integer.MAX_VALUE}) {
            x.sign(line, 'z');
        }
        for (int c : new int[] {31, 127, 0, -1, 128, 256 + 'a', 65536 + 'a', Integer.MIN_VALUE, Integer.MAX_VALUE}) {
            x.sign(1, c);
        }
        check.due("lines", Check.texts(x), "|a|b");
        check.due("counts", Check.counts(x), " 0 -1 0 0 0 0 0");
        x.line();
        check.due("nothing was kept for line 3", Check.texts(x), "|a|b|");
    }

    @Sentence("or it has 72")
    static void fullLine(Check check) {
        EditorPanels x = Check.page(Check.repeat('a', 72), "b");
        x.sign(1, 'z');
        x.sign(1, ' ');
        check.due("lines", Check.texts(x), "|" + Check.repeat('a', 72) + "|b");
        check.due("it is not lost", x.count(3), 0);
        EditorPanels y = Check.page("");
        y.command(1, 7, 72);
        y.sign(1, 'z');
        check.due("one of 72 blanks", Check.text(y, 1), Check.repeat(' ', 72));
    }
}
