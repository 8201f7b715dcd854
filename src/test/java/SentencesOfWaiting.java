/** The document's paragraph on what waits. */
public final class SentencesOfWaiting {
    private static final int[] OTHER_KINDS = {0, 1, 2, 7, 8, 9, 15};

    public static void main(String[] args) throws IllegalAccessException {
        Check.sentences(SentencesOfWaiting.class);
    }

    private static EditorPanels letters() {
        return Check.page("a", "b", "c", "d", "e");
    }

    /** Commands of three numbers each; all but the last one wait. */
    private static EditorPanels after(Check check, int... numbers) {
        EditorPanels x = letters();
        for (int i = 0; i + 2 < numbers.length; i += 3) {
            int due = i + 3 < numbers.length ? 0 : 1;
            check.due("command " + (i / 3 + 1), x.command(numbers[i], numbers[i + 1], numbers[i + 2]), due);
        }
        return x;
    }

    /** Commands that wait, all of them. */
    private static EditorPanels waiting(Check check, int... numbers) {
        EditorPanels x = letters();
        for (int i = 0; i + 2 < numbers.length; i += 3) {
            check.due("command " + (i / 3 + 1), x.command(numbers[i], numbers[i + 1], numbers[i + 2]), 0);
        }
        return x;
    }

    private static void refused(Check check, EditorPanels x, int... kinds) {
        String texts = Check.texts(x);
        String counts = Check.counts(x);
        for (int kind : kinds) {
            check.due("kind " + kind, x.command(4, kind, 1), -1);
            check.due("kind " + kind + " alters nothing", Check.counts(x), counts);
        }
        check.due("lines", Check.texts(x), texts);
    }

    @Sentence("one source (3, 4, or a block 11, 12) and one place (5, 6)")
    static void sourcesAndPlaces(Check check) {
        check.due("3, 5", Check.texts(after(check, 1, 3, 1, 5, 5, 1)), "|a|b|c|d|e|a");
        check.due("3, 6", Check.texts(after(check, 1, 3, 1, 5, 6, 1)), "|a|b|c|d|a|e");
        check.due("4, 5", Check.texts(after(check, 1, 4, 1, 5, 5, 1)), "|b|c|d|e|a");
        check.due("4, 6", Check.texts(after(check, 1, 4, 1, 5, 6, 1)), "|b|c|d|a|e");
        check.due("11, 5", Check.texts(after(check, 1, 11, 1, 2, 11, 1, 5, 5, 1)), "|a|b|c|d|e|a|b");
        check.due("11, 6", Check.texts(after(check, 1, 11, 1, 2, 11, 1, 5, 6, 1)), "|a|b|c|d|a|b|e");
        check.due("12, 5", Check.texts(after(check, 1, 12, 1, 2, 12, 1, 5, 5, 1)), "|c|d|e|a|b");
        check.due("12, 6", Check.texts(after(check, 1, 12, 1, 2, 12, 1, 5, 6, 1)), "|c|d|a|b|e");
        check.due("5, 3", Check.texts(after(check, 5, 5, 1, 1, 3, 1)), "|a|b|c|d|e|a");
        check.due("6, 4", Check.texts(after(check, 5, 6, 1, 1, 4, 1)), "|b|c|d|a|e");
        check.due("5, 11", Check.texts(after(check, 5, 5, 1, 1, 11, 1, 2, 11, 1)), "|a|b|c|d|e|a|b");
        check.due("6, 12", Check.texts(after(check, 5, 6, 1, 1, 12, 1, 2, 12, 1)), "|c|d|a|b|e");
    }

    @Sentence("or one open block (its first end) of a kind")
    static void openBlocks(Check check) {
        for (int kind = 10; kind <= 13; kind++) {
            EditorPanels x = letters();
            check.due("its first end", x.command(2, kind, 1), 0);
            check.due("waits", x.count(5), 1);
            check.due("lines", Check.texts(x), "|a|b|c|d|e");
            check.due("no act", x.count(4), 0);
        }
    }

    @Sentence("When source and place are there both, it is done, and nothing waits")
    static void doneAtOnce(Check check) {
        EditorPanels x = after(check, 1, 3, 1, 5, 5, 1);
        check.due("nothing waits", x.count(5), 0);
        check.due("one act", x.count(4), 1);
        check.due("another command", x.command(1, 1, 1), 1);
        EditorPanels y = after(check, 5, 5, 1, 1, 12, 1, 2, 12, 1);
        check.due("nothing waits", y.count(5), 0);
        check.due("one act", y.count(4), 1);
        check.due("a place is the first again", y.command(1, 5, 1), 0);
        check.due("a source is the first again", y.command(2, 3, 1), 1);
    }

    @Sentence("copies and moved lines stand behind, or ahead of, the place's line, in their order")
    static void inTheirOrder(Check check) {
        check.due("copies behind the last", Check.texts(after(check, 1, 3, 3, 5, 5, 1)), "|a|b|c|d|e|a|b|c");
        check.due("copies ahead of the first", Check.texts(after(check, 3, 3, 3, 1, 6, 1)), "|c|d|e|a|b|c|d|e");
        check.due("copies among themselves", Check.texts(after(check, 1, 3, 3, 2, 5, 1)), "|a|b|a|b|c|c|d|e");
        check.due("copies ahead of themselves", Check.texts(after(check, 1, 3, 3, 1, 6, 1)), "|a|b|c|a|b|c|d|e");
        check.due("moved behind the last", Check.texts(after(check, 1, 4, 3, 5, 5, 1)), "|d|e|a|b|c");
        check.due("moved ahead of the first", Check.texts(after(check, 3, 4, 3, 1, 6, 1)), "|c|d|e|a|b");
        check.due("moved behind the next", Check.texts(after(check, 1, 4, 3, 4, 5, 1)), "|d|a|b|c|e");
        check.due("moved ahead of the next", Check.texts(after(check, 1, 4, 3, 4, 6, 1)), "|a|b|c|d|e");
        check.due("moved behind the one before", Check.texts(after(check, 2, 4, 3, 1, 5, 1)), "|a|b|c|d|e");
        check.due("moved ahead of the one before", Check.texts(after(check, 2, 4, 3, 1, 6, 1)), "|b|c|d|a|e");
    }

    @Sentence("(copies of excluded or lost lines are so, too)")
    static void marksOfCopies(Check check) {
        EditorPanels x = Check.page("a", "b", "c");
        x.exclude(1, 1);
        x.command(2, 8, 1);
        x.command(1, 11, 1);
        x.command(2, 11, 1);
        x.command(3, 5, 1);
        check.due("excluded ones", x.count(2), 2);
        check.due("lost ones", x.count(3), 2);
        check.due("the copy of the excluded one", x.shown(4), -1);
        check.due("the copy of the lost one", x.shown(5), 5);
        x.command(2, 7, 1);
        check.due("each has its own mark", x.count(3), 1);
        x.command(1, 3, 1);
        x.command(1, 6, 1);
        check.due("excluded ones", x.count(2), 3);
    }

    @Sentence("Other kinds (0, 1, 2, 7, 8, 9, 15) don't wait")
    static void otherKinds(Check check) {
        for (int kind : OTHER_KINDS) {
            EditorPanels x = letters();
            check.due("kind " + kind, x.command(2, kind, 1), 1);
            check.due("nothing waits", x.count(5), 0);
        }
    }

    @Sentence("while something waits they are refused (-1)")
    static void otherKindsRefused(Check check) {
        refused(check, waiting(check, 1, 3, 1), OTHER_KINDS);
        refused(check, waiting(check, 1, 4, 1), OTHER_KINDS);
        refused(check, waiting(check, 1, 5, 1), OTHER_KINDS);
        refused(check, waiting(check, 1, 6, 1), OTHER_KINDS);
        refused(check, waiting(check, 1, 10, 1), OTHER_KINDS);
        refused(check, waiting(check, 1, 11, 1), OTHER_KINDS);
        refused(check, waiting(check, 1, 12, 1), OTHER_KINDS);
        refused(check, waiting(check, 1, 13, 1), OTHER_KINDS);
        refused(check, waiting(check, 1, 11, 1, 2, 11, 1), OTHER_KINDS);
        refused(check, waiting(check, 1, 12, 1, 2, 12, 1), OTHER_KINDS);
        refused(check, waiting(check, 5, 5, 1, 1, 11, 1), OTHER_KINDS);
    }

    @Sentence("Refused (-1) are also: a second source or place")
    static void secondOnes(Check check) {
        refused(check, waiting(check, 1, 3, 1), 3, 4, 11, 12);
        refused(check, waiting(check, 1, 4, 1), 3, 4, 11, 12);
        refused(check, waiting(check, 1, 11, 1, 2, 11, 1), 3, 4, 11, 12);
        refused(check, waiting(check, 1, 12, 1, 2, 12, 1), 3, 4, 11, 12);
        refused(check, waiting(check, 1, 5, 1), 5, 6);
        refused(check, waiting(check, 1, 6, 1), 5, 6);
        EditorPanels x = waiting(check, 1, 3, 1);
        x.command(2, 3, 1);
        x.command(2, 12, 1);
        x.command(5, 5, 1);
        check.due("the first source", Check.texts(x), "|a|b|c|d|e|a");
        EditorPanels y = waiting(check, 1, 5, 1);
        y.command(2, 6, 1);
        y.command(5, 3, 1);
        check.due("the first place", Check.texts(y), "|a|e|b|c|d|e");
    }

    @Sentence("another kind of block while one is open")
    static void otherBlocks(Check check) {
        refused(check, waiting(check, 1, 10, 1), 11, 12, 13);
        refused(check, waiting(check, 1, 11, 1), 10, 12, 13);
        refused(check, waiting(check, 1, 12, 1), 10, 11, 13);
        refused(check, waiting(check, 1, 13, 1), 10, 11, 12);
        refused(check, waiting(check, 5, 5, 1, 1, 11, 1), 10, 12, 13);
        refused(check, waiting(check, 5, 5, 1, 1, 12, 1), 10, 11, 13);
    }

    @Sentence("or 3 .. 6 then")
    static void sourcesAndPlacesWhileABlockIsOpen(Check check) {
        for (int kind = 10; kind <= 13; kind++) {
            refused(check, waiting(check, 1, kind, 1), 3, 4, 5, 6);
        }
        refused(check, waiting(check, 5, 5, 1, 1, 11, 1), 3, 4, 5, 6);
        refused(check, waiting(check, 5, 6, 1, 1, 12, 1), 3, 4, 5, 6);
    }

    @Sentence("10 or 13 while a source or a place waits")
    static void blocksThatAreNoSources(Check check) {
        refused(check, waiting(check, 1, 3, 1), 10, 13);
        refused(check, waiting(check, 1, 4, 1), 10, 13);
        refused(check, waiting(check, 1, 11, 1, 2, 11, 1), 10, 13);
        refused(check, waiting(check, 1, 12, 1, 2, 12, 1), 10, 13);
        refused(check, waiting(check, 1, 5, 1), 10, 13);
        refused(check, waiting(check, 1, 6, 1), 10, 13);
    }

    @Sentence("a place that lies in lines to be moved (whichever comes second)")
    static void placesAmongMovedLines(Check check) {
        for (int place = 5; place <= 6; place++) {
            for (int line = 2; line <= 4; line++) {
                check.due("place second", waiting(check, 2, 4, 3).command(line, place, 1), -1);
                check.due("place behind a block", waiting(check, 2, 12, 1, 4, 12, 1).command(line, place, 1), -1);
                check.due("lines second", waiting(check, line, place, 1).command(2, 4, 3), -1);
                check.due("block second", waiting(check, line, place, 1, 2, 12, 1).command(4, 12, 1), -1);
                check.due("copied lines may", waiting(check, 2, 3, 3).command(line, place, 1), 1);
                check.due("copied ones second", waiting(check, line, place, 1, 2, 11, 1).command(4, 11, 1), 1);
            }
            for (int line = 1; line <= 5; line += 4) {
                check.due("beside them", waiting(check, 2, 4, 3).command(line, place, 1), 1);
                check.due("beside them", waiting(check, line, place, 1, 2, 12, 1).command(4, 12, 1), 1);
            }
        }
        check.due("as far as there are lines", waiting(check, 5, 5, 1).command(4, 4, 100), -1);
    }

    @Sentence("A block's ends may come in any order.")
    static void endsInAnyOrder(Check check) {
        for (int kind = 10; kind <= 13; kind++) {
            String[] texts = new String[2];
            for (int way = 0; way < 2; way++) {
                EditorPanels x = letters();
                x.command(way == 0 ? 2 : 4, kind, 2);
                x.command(way == 0 ? 4 : 2, kind, 2);
                x.command(5, 5, 1);
                texts[way] = Check.texts(x);
            }
            check.due("kind " + kind, texts[1], texts[0]);
            check.due("and it was done", texts[0].equals("|a|b|c|d|e") ? 0 : 1, 1);
        }
        check.due("ahead of its place", Check.texts(after(check, 1, 6, 1, 5, 12, 1, 4, 12, 1)), "|d|e|a|b|c");
        check.due("both on one line", Check.texts(after(check, 3, 10, 1, 3, 10, 1)), "|a|b|d|e");
    }
}
