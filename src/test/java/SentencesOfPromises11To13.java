/** Promises 11 to 13: save(), lines(), at(). */
public final class SentencesOfPromises11To13 {
    public static void main(String[] args) throws IllegalAccessException {
        Check.sentences(SentencesOfPromises11To13.class);
    }

    @Sentence("All lines are saved as a member 0 .. 9")
    static void savedLines(Check check) {
        EditorPanels x = Check.page("a", "b", "c");
        x.exclude(1, 2);
        for (int member = 0; member <= 9; member++) {
            check.due("lines of " + member, x.count(20 + member), 0);
            check.due("save(" + member + ", 0)", x.save(member, 0), 1);
            check.due("excluded ones, too", x.count(20 + member), 3);
        }
        x.command(1, 1, 3);
        check.due("no lines", x.save(9, 1), 1);
        check.due("no lines", x.count(29), 0);
        check.due("another member's stay", x.count(28), 3);
        EditorPanels y = Check.pageOf(300);
        y.save(0, 0);
        check.due("300", y.count(20), 300);
    }

    @Sentence("whose edition (0 at first) is told: 1, its edition is one more")
    static void editions(Check check) {
        EditorPanels x = Check.page("a");
        for (int edition = 0; edition < 100; edition++) {
            check.due("its edition", x.count(10), edition);
            check.due("save(0, " + edition + ")", x.save(0, edition), 1);
        }
        check.due("its edition", x.count(10), 100);
        check.due("another member's", x.count(11), 0);
        check.due("another member's", x.save(1, 0), 1);
    }

    @Sentence("0 when it is another one")
    static void anotherEdition(Check check) {
        EditorPanels x = Check.page("a");
        for (int edition : new int[] {1, -1, Integer.MIN_VALUE, Integer.MAX_VALUE}) {
            check.due("save(5, " + edition + ")", x.save(5, edition), 0);
        }
        check.due("edition", x.count(15), 0);
        check.due("lines", x.count(25), 0);
        x.save(5, 0);
        x.line();
        check.due("the one before", x.save(5, 0), 0);
        check.due("the one behind", x.save(5, 2), 0);
        check.due("edition", x.count(15), 1);
        check.due("lines", x.count(25), 1);
        check.due("its own", x.save(5, 1), 1);
        check.due("lines", x.count(25), 2);
    }

    @Sentence("0 when it is another one; -4.")
    static void noSuchMember(Check check) {
        EditorPanels x = Check.page("a");
        for (int member : new int[] {-1, 10, Integer.MIN_VALUE, Integer.MAX_VALUE}) {
            for (int edition : new int[] {0, 1, -1}) {
                check.due("save(" + member + ", " + edition + ")", x.save(member, edition), -4);
            }
        }
        for (int what = 10; what <= 29; what++) {
            check.due("count(" + what + ")", x.count(what), 0);
        }
    }

    @Sentence("How many lines there are.")
    static void howManyLines(Check check) {
        EditorPanels x = new EditorPanels(0);
        check.due("none", x.lines(), 0);
        x.line();
        check.due("one", x.lines(), 1);
        x.command(1, 0, 100);
        x.command(1, 2, 100);
        check.due("201", x.lines(), 201);
        x.command(1, 9, 100);
        check.due("excluded ones, too", x.lines(), 201);
        x.command(1, 0, 99);
        check.due("300", x.lines(), 300);
        x.command(1, 0, 1);
        x.line();
        check.due("300 at most", x.lines(), 300);
        x.command(1, 10, 1);
        x.command(300, 10, 1);
        check.due("none again", x.lines(), 0);
        x.undo();
        check.due("300 again", x.lines(), 300);
    }

    @Sentence("The i-th character of a line, from 0 on")
    static void characters(Check check) {
        EditorPanels x = Check.page(Check.repeat('a', 71) + "z", " b~");
        check.due("at(1, 0)", x.at(1, 0), 'a');
        check.due("at(1, 71)", x.at(1, 71), 'z');
        check.due("at(2, 0)", x.at(2, 0), ' ');
        check.due("at(2, 1)", x.at(2, 1), 'b');
        check.due("at(2, 2)", x.at(2, 2), '~');
        StringBuilder all = new StringBuilder();
        for (int i = 0; i < 72; i++) {
            all.append((char) (32 + i));
        }
        EditorPanels y = Check.page(all.toString());
        for (int i = 0; i < 72; i++) {
            check.due("at(1, " + i + ")", y.at(1, i), 32 + i);
        }
    }

    @Sentence("NONE when there is none")
    static void noCharacter(Check check) {
        EditorPanels x = Check.page(Check.repeat('a', 72), "", "b");
        check.due("NONE", EditorPanels.NONE, -1);
        for (int i : new int[] {-1, 72, 73, Integer.MIN_VALUE, Integer.MAX_VALUE}) {
            check.due("at(1, " + i + ")", x.at(1, i), -1);
        }
        check.due("of an empty line", x.at(2, 0), -1);
        check.due("behind the last one", x.at(3, 1), -1);
        for (int line : new int[] {0, 4, -1, 300, 301, Integer.MIN_VALUE, Integer.MAX_VALUE}) {
            check.due("at(" + line + ", 0)", x.at(line, 0), -1);
        }
        check.due("without lines", new EditorPanels(3).at(1, 0), -1);
        x.command(3, 1, 1);
        check.due("of a line that went", x.at(3, 0), -1);
    }
}
