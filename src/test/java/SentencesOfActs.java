/** The document's paragraph on acts. */
public final class SentencesOfActs {
    public static void main(String[] args) throws IllegalAccessException {
        Check.sentences(SentencesOfActs.class);
    }

    @Sentence("ACTS are line commands that answer 1 (but 14, 15)")
    static void commandsThatAreActs(Check check) {
        for (int kind : new int[] {0, 1, 2, 7, 8, 9}) {
            EditorPanels x = Check.page("a", "b");
            x.command(1, kind, 1);
            check.due("kind " + kind, x.count(4), 1);
        }
        for (int kind : new int[] {10, 13}) {
            EditorPanels x = Check.page("a", "b");
            x.command(1, kind, 1);
            check.due("the first end of kind " + kind, x.count(4), 0);
            x.command(1, kind, 1);
            check.due("the second end of kind " + kind, x.count(4), 1);
        }
        for (int kind = 3; kind <= 4; kind++) {
            EditorPanels x = Check.page("a", "b");
            x.command(1, kind, 1);
            check.due("a source of kind " + kind, x.count(4), 0);
            x.command(2, 5, 1);
            check.due("and its place", x.count(4), 1);
        }
        for (int kind = 14; kind <= 15; kind++) {
            EditorPanels x = Check.page("a", "b");
            check.due("kind " + kind, x.command(1, kind, 1), 1);
            check.due("kind " + kind + " is none", x.count(4), 0);
        }
        commandsThatAlterNothing(check);
    }

    private static void commandsThatAlterNothing(Check check) {
        EditorPanels x = Check.page("a", "b", "");
        x.command(1, 9, 1);
        x.command(1, 9, 1);
        check.due("excluded already", x.count(4), 2);
        x.command(3, 8, 1);
        check.due("an empty one shifted left", x.count(4), 3);
        x.command(2, 8, 1);
        x.command(2, 8, 1);
        check.due("lost already", x.count(4), 5);
        x.command(1, 4, 1);
        x.command(2, 6, 1);
        check.due("moved to where it stands", x.count(4), 6);
        for (int i = 1; i <= 6; i++) {
            check.due("each can be undone", x.undo(), 1);
        }
        check.due("no more", x.undo(), 0);
    }

    @Sentence("and change(), sort(), exclude() when a line is another one then, or stands elsewhere")
    static void callsThatAreActs(Check check) {
        EditorPanels x = Check.page("b", "a");
        x.sort(1, 2);
        check.due("sort()", x.count(4), 1);
        x.sort(1, 2);
        x.sort(2, 2);
        check.due("sort() that leaves all", x.count(4), 1);
        x.exclude(1, 1);
        check.due("exclude()", x.count(4), 2);
        x.exclude(1, 1);
        x.exclude(2, 1);
        check.due("exclude() that leaves all", x.count(4), 2);
        x.change(true);
        x.change(false);
        check.due("change() without a text", x.count(4), 2);
        Check.word(x, "b", false);
        Check.word(x, "c", true);
        check.due("change(true)", x.change(true), 1);
        check.due("change(true)", x.count(4), 3);
        check.due("again", x.change(true), 0);
        check.due("it leaves all", x.count(4), 3);
        Check.word(x, "c", false);
        x.find(1);
        Check.word(x, "d", true);
        check.due("change(false)", x.change(false), 1);
        check.due("change(false)", x.count(4), 4);
        check.due("again", x.change(false), 0);
        check.due("it leaves all", x.count(4), 4);
        x.exclude(2, 5);
        x.sort(2, 1);
        check.due("refused ones", x.count(4), 4);
        changesThatOnlyMark(check);
    }

    private static void changesThatOnlyMark(Check check) {
        EditorPanels x = Check.page("a" + Check.repeat('b', 71));
        Check.word(x, "a", false);
        Check.word(x, "aa", true);
        check.due("too long", x.change(true), 0);
        check.due("a line that is lost then is another", x.count(4), 1);
        check.due("too long", x.change(true), 0);
        check.due("one that was lost is not", x.count(4), 1);
        Check.word(x, "a", true);
        check.due("by itself", x.change(true), 1);
        check.due("leaves the line as it is", x.count(4), 1);
    }

    @Sentence("the last 20 can be undone, the latest first")
    static void twentyActs(Check check) {
        for (int acts = 19; acts <= 23; acts++) {
            EditorPanels x = Check.page("a");
            for (int i = 1; i <= acts; i++) {
                x.command(1, 0, 1);
            }
            int kept = Math.min(acts, 20);
            check.due("of " + acts, x.count(4), kept);
            for (int i = 1; i <= kept; i++) {
                check.due("undo()", x.undo(), 1);
                check.due("lines after undo " + i + " of " + acts, x.lines(), 1 + acts - i);
            }
            check.due("no more of " + acts, x.undo(), 0);
            check.due("lines", x.lines(), 1 + acts - kept);
        }
        EditorPanels y = Check.page("a");
        for (int round = 1; round <= 3; round++) {
            for (int i = 1; i <= 30; i++) {
                y.command(1, 0, 1);
            }
            for (int i = 1; i <= 20; i++) {
                y.undo();
            }
            check.due("round " + round, y.lines(), 1 + 10 * round);
            check.due("round " + round, y.undo(), 0);
        }
        twentyActsAndCallsThatAreNone(check);
    }

    /** What is refused, waits or alters nothing takes none of the 20 away. */
    private static void twentyActsAndCallsThatAreNone(Check check) {
        for (int call = 0; call <= 5; call++) {
            EditorPanels x = Check.page("a");
            for (int i = 1; i <= 20; i++) {
                x.command(1, 0, 1);
            }
            x.sign(1, 'b');
            switch (call) {
                case 0 -> x.command(1, 3, 1);
                case 1 -> x.command(1, 10, 1);
                case 2 -> x.sort(2, 3);
                case 3 -> x.exclude(2, 1);
                case 4 -> {
                    x.word('z', false);
                    x.change(true);
                }
                default -> {
                    x.command(1, 2, 100);
                    x.command(1, 2, 100);
                    x.command(1, 2, 100);
                }
            }
            undoAll(x, 0);
            check.due("call " + call, Check.texts(x), call == 5 ? "|a||" : "|a");
        }
    }

    @Sentence("lines are as they were ahead of it (with their marks)")
    static void stateAheadOfAnAct(Check check) {
        for (int kind = 0; kind <= 13; kind++) {
            EditorPanels x = markedPage();
            x.command(1, kind, 1);
            x.command(1, kind, 1);
            x.command(3, kind == 5 || kind == 6 ? 3 : 5, 1);
            asAhead(check, x, "kind " + kind);
        }
        EditorPanels y = markedPage();
        y.sort(1, 3);
        y.change(true);
        y.exclude(1, 3);
        asAhead(check, y, "sort(), change(), exclude()");
        EditorPanels z = Check.pageOf(300);
        z.sign(300, 'z');
        z.command(300, 8, 1);
        z.exclude(300, 300);
        z.command(300, 1, 1);
        z.line();
        z.undo();
        check.due("line 300", Check.text(z, 300), "az");
        check.due("its marks", Check.counts(z), " 0 -1 1 1 5 0 0");
    }

    /** Its first line is excluded, its second one lost. */
    private static EditorPanels markedPage() {
        EditorPanels x = Check.page("b", "a", " c");
        x.exclude(1, 1);
        x.command(2, 8, 1);
        Check.word(x, "c", false);
        Check.word(x, "dd", true);
        x.find(1);
        return x;
    }

    private static void asAhead(Check check, EditorPanels x, String call) {
        check.due(call + " is an act", x.count(4) > 2 ? 1 : 0, 1);
        undoAll(x, 2);
        check.due(call, Check.texts(x), "|b|a| c");
        check.due(call, Check.counts(x), " 0 -1 1 1 2 0 0");
        check.due(call + ", the excluded one", x.shown(1), -1);
        x.command(2, 7, 1);
        check.due(call + ", the lost one", x.count(3), 0);
    }

    private static void undoAll(EditorPanels x, int left) {
        for (int i = 0; i < 20 && x.count(4) > left; i++) {
            x.undo();
        }
    }

    @Sentence("nothing waits, the cursor is nowhere")
    static void waitingAndCursorAfterUndoing(Check check) {
        int[][] commands = {{3}, {4}, {5}, {6}, {10}, {11}, {12}, {13}, {11, 11}, {12, 12}, {5, 11}, {6, 12}};
        for (int[] kinds : commands) {
            EditorPanels x = Check.page("a", "b");
            x.word('b', false);
            x.exclude(1, 1);
            x.find(1);
            for (int kind : kinds) {
                x.command(1, kind, 1);
            }
            check.due("kind " + kinds[0] + " waits", Check.counts(x), " 2 0 1 0 1 1 0");
            check.due("undo()", x.undo(), 1);
            check.due("kind " + kinds[0] + " is gone", Check.counts(x), " 0 -1 0 0 0 0 0");
            check.due("a command that does not wait", x.command(1, 7, 1), 1);
            x.command(1, 0, 1);
            check.due("the cursor is nowhere for good", x.count(0), 0);
        }
    }

    @Sentence("(line() and sign() are no acts.)")
    static void linesAndSigns(Check check) {
        EditorPanels x = new EditorPanels(3);
        x.line();
        check.due("line()", x.count(4), 0);
        x.sign(1, 'a');
        check.due("sign()", x.count(4), 0);
        check.due("undo()", x.undo(), 0);
        check.due("lines", Check.texts(x), "|a");
        x.command(1, 7, 1);
        x.line();
        x.sign(2, 'b');
        check.due("they count nothing", x.count(4), 1);
        check.due("undo()", x.undo(), 1);
        check.due("as ahead of the shift", Check.texts(x), "|a");
    }
}
