/** Promises 5 to 7: find(), change(), word(). */
public final class SentencesOfPromises05To07 {
    public static void main(String[] args) throws IllegalAccessException {
        Check.sentences(SentencesOfPromises05To07.class);
    }

    private static EditorPanels with(String sought, String by, String... texts) {
        EditorPanels x = Check.page(texts);
        Check.word(x, sought, false);
        Check.word(x, by, true);
        return x;
    }

    private static void found(Check check, EditorPanels x, int how, int line, int place) {
        check.due("find(" + how + ")", x.find(how), line);
        check.due("the cursor's line", x.count(0), line);
        check.due("its character", x.count(1), place);
    }

    @Sentence("how = 0 behind the cursor")
    static void behindTheCursor(Check check) {
        EditorPanels x = with("aa", "", "aaa", "", "baa");
        found(check, x, 1, 1, 0);
        found(check, x, 0, 1, 1);
        found(check, x, 0, 3, 1);
        check.due("not from the beginning again", x.find(0), 0);
        check.due("the cursor stays", x.count(0), 3);
        EditorPanels y = with("a", "", "a", "a");
        found(check, y, 1, 1, 0);
        found(check, y, 0, 2, 0);
    }

    @Sentence("(from the beginning, if that is nowhere)")
    static void fromTheBeginning(Check check) {
        EditorPanels x = with("a", "", "a", "a", "   b");
        found(check, x, 0, 1, 0);
        x.command(1, 2, 1);
        x.undo();
        found(check, x, 0, 1, 0);
        x.command(1, 1, 1);
        found(check, x, 0, 1, 0);
        Check.word(x, "b", false);
        found(check, x, 0, 2, 3);
        x.command(2, 8, 3);
        check.due("its character is not there", x.count(0), 0);
        Check.word(x, "a", false);
        found(check, x, 0, 1, 0);
    }

    @Sentence("1 first, 2 last")
    static void firstAndLast(Check check) {
        EditorPanels x = with("aa", "", "xaaa", "b", "aaa");
        found(check, x, 2, 3, 1);
        found(check, x, 2, 3, 1);
        found(check, x, 1, 1, 1);
        found(check, x, 1, 1, 1);
        found(check, x, 2, 3, 1);
        EditorPanels y = with("b", "", "", "b", "");
        found(check, y, 1, 2, 0);
        found(check, y, 2, 2, 0);
        EditorPanels z = with(Check.repeat('a', 20), "", Check.repeat(' ', 52) + Check.repeat('a', 20));
        found(check, z, 1, 1, 52);
        found(check, z, 2, 1, 52);
    }

    @Sentence("3 ahead of the cursor (from the end)")
    static void aheadOfTheCursor(Check check) {
        EditorPanels x = with("aa", "", "aaa", "", "aab");
        found(check, x, 3, 3, 0);
        found(check, x, 3, 1, 1);
        found(check, x, 3, 1, 0);
        check.due("not from the end again", x.find(3), 0);
        check.due("the cursor stays", x.count(0), 1);
        check.due("the cursor stays", x.count(1), 0);
        x.command(1, 1, 1);
        found(check, x, 3, 2, 0);
        x.command(2, 7, 1);
        x.undo();
        found(check, x, 3, 2, 0);
    }

    @Sentence("its line, the cursor is at its first character, the line not excluded any more")
    static void foundInAnExcludedLine(Check check) {
        for (int how = 0; how <= 3; how++) {
            EditorPanels x = with("ab", "", "", "xab", "");
            x.exclude(1, 3);
            found(check, x, how, 2, 1);
            check.due("that one alone", x.count(2), 2);
            check.due("it is shown", x.shown(2), 2);
            check.due("no act", x.count(4), 1);
        }
    }

    @Sentence("0, the cursor staying, for none")
    static void foundNowhere(Check check) {
        EditorPanels x = with("b", "", "ab", "a", "b");
        found(check, x, 1, 1, 1);
        x.exclude(2, 3);
        String[] none = {"c", "bb", "abb", "ba", "B", " b", "ab "};
        for (String text : none) {
            Check.word(x, text, false);
            for (int how = 0; how <= 3; how++) {
                check.due("find(" + how + ") of " + text, x.find(how), 0);
                check.due("the cursor stays", Check.counts(x), " 1 1 2 0 1 0 0");
            }
        }
        EditorPanels y = with("a", "", "");
        for (int how = 0; how <= 3; how++) {
            check.due("of an empty line", y.find(how), 0);
            check.due("without lines", with("a", "").find(how), 0);
        }
        EditorPanels z = with("b", "", " b", "z");
        z.find(1);
        z.command(1, 8, 1);
        Check.word(z, "c", false);
        z.find(0);
        z.find(3);
        z.sign(1, 'd');
        check.due("one whose character was not there stays, too", z.count(1), 1);
    }

    @Sentence("for another how")
    static void anotherHow(Check check) {
        EditorPanels x = with("a", "", "a", "a");
        x.find(2);
        for (int how : new int[] {-1, 4, Integer.MIN_VALUE, Integer.MAX_VALUE}) {
            check.due("find(" + how + ")", x.find(how), 0);
            check.due("the cursor stays", x.count(0), 2);
        }
    }

    @Sentence("or without a text")
    static void findingNothing(Check check) {
        EditorPanels x = with("a", "", "a", "a", "");
        x.find(1);
        x.exclude(1, 3);
        x.word(0, false);
        for (int how = 0; how <= 3; how++) {
            check.due("find(" + how + ")", x.find(how), 0);
            check.due("all stays", Check.counts(x), " 1 0 3 0 1 0 0");
        }
    }

    @Sentence("The text is replaced: at the cursor, if it stands there")
    static void changeAtTheCursor(Check check) {
        EditorPanels x = with("ab", "c", "abab", "ab");
        check.due("nowhere", x.change(false), 0);
        x.find(0);
        x.find(0);
        check.due("there", x.change(false), 1);
        check.due("there alone", Check.texts(x), "|abc|ab");
        check.due("not there any more", x.change(false), 0);
        x.find(1);
        x.sort(1, 2);
        check.due("with its line", x.change(false), 1);
        check.due("with its line", Check.texts(x), "|ab|cc");
        EditorPanels y = with("abc", "d", "ab", "c");
        y.word(0, false);
        y.word('a', false);
        y.find(1);
        Check.word(y, "abc", false);
        check.due("not over the line's end", y.change(false), 0);
        check.due("lines", Check.texts(y), "|ab|c");
        EditorPanels z = with("ab", "c", Check.repeat('.', 70) + "ab");
        z.find(1);
        check.due("at the line's end", z.change(false), 1);
        check.due("at the line's end", Check.text(z, 1), Check.repeat('.', 70) + "c");
        EditorPanels w = with("ab", "c", "ab");
        w.find(1);
        w.exclude(1, 1);
        check.due("in a line that was excluded then", w.change(false), 1);
        check.due("it is so still", Check.texts(w) + Check.counts(w), "|c 1 0 1 0 2 0 0");
    }

    @Sentence("(then the cursor is at the last character of the new one")
    static void cursorBehindAChange(Check check) {
        String twenty = Check.repeat('z', 20);
        String[] news = {"x", "xy", "xyz", twenty};
        for (String by : news) {
            EditorPanels x = with("ab", by, ".ab.");
            x.find(1);
            x.change(false);
            check.due("by " + by, Check.text(x, 1), "." + by + ".");
            check.due("the cursor's line", x.count(0), 1);
            check.due("its character", x.count(1), by.length());
        }
        EditorPanels y = with("a", "aa", "aa");
        y.find(1);
        y.change(false);
        check.due("the next one is behind the new one", y.find(0), 1);
        check.due("the next one is behind the new one", y.count(1), 2);
    }

    @Sentence("or nowhere if that is empty)")
    static void cursorBehindAnEmptyChange(Check check) {
        EditorPanels x = with("ab", "", "abab", "cab");
        x.find(2);
        check.due("by nothing", x.change(false), 1);
        check.due("lines", Check.texts(x), "|abab|c");
        check.due("nowhere", x.count(0), 0);
        check.due("nowhere", x.count(1), -1);
        Check.sign(x, 2, "defg");
        check.due("for good", x.count(0), 0);
        check.due("so that the beginning is next", x.find(0), 1);
        check.due("by nothing at the beginning", x.change(false), 1);
        check.due("nowhere, though there are characters", x.count(0), 0);
    }

    @Sentence("or in all lines that aren't excluded")
    static void changeInAllLines(Check check) {
        EditorPanels x = with("a", "b", "a", "a", "a", "ca");
        x.exclude(2, 3);
        check.due("change(true)", x.change(true), 2);
        check.due("lines", Check.texts(x), "|b|a|a|cb");
        check.due("the others stay excluded", x.count(2), 2);
        x.exclude(1, 4);
        check.due("all are excluded", x.change(true), 0);
        check.due("lines", Check.texts(x), "|b|a|a|cb");
        check.due("without lines", with("a", "b").change(true), 0);
        EditorPanels y = Check.pageOf(300);
        Check.word(y, "a", false);
        check.due("300 of them", y.change(true), 300);
        check.due("line 300", y.at(300, 0), -1);
    }

    @Sentence("from the left, none over another: how many times")
    static void fromTheLeft(Check check) {
        String[][] cases = {
            {"aa", "b", "aaa", "ba", "1"}, {"aa", "b", "aaaa", "bb", "2"}, {"aba", "c", "ababa", "cba", "1"},
            {"a", "aa", "aa", "aaaa", "2"}, {"ab", "b", "aab", "ab", "1"}, {"aa", "a", "aaaaa", "aaa", "2"},
            {"a", "", "aaa", "", "3"}, {"ab", "", "aabb", "ab", "1"}, {"ab", "c", "a", "a", "0"}};
        for (String[] c : cases) {
            EditorPanels x = with(c[0], c[1], c[2]);
            check.due(c[0] + " to " + c[1] + " in " + c[2], x.change(true), Integer.parseInt(c[4]));
            check.due(c[0] + " to " + c[1] + " in " + c[2], Check.text(x, 1), c[3]);
        }
        EditorPanels full = with("a", "b", Check.repeat('a', 72), Check.repeat('a', 72));
        check.due("144 times", full.change(true), 144);
    }

    @Sentence("A line that would have more than 72 characters stays, and is lost")
    static void changedTooLong(Check check) {
        for (boolean all : new boolean[] {false, true}) {
            EditorPanels x = with("a", "bb", "a" + Check.repeat('c', 71));
            x.find(1);
            x.change(all);
            check.due("73 stay", Check.text(x, 1), "a" + Check.repeat('c', 71));
            check.due("73 are lost", x.count(3), 1);
            check.due("the cursor stays", x.count(1), 0);
            EditorPanels y = with("a", "bb", "a" + Check.repeat('c', 70));
            y.find(1);
            y.change(all);
            check.due("72 do not stay", Check.text(y, 1), "bb" + Check.repeat('c', 70));
            check.due("72 are not lost", y.count(3), 0);
        }
        EditorPanels z = with("a", "bb", Check.repeat('c', 68) + "aaa");
        z.change(true);
        check.due("not even a part", Check.text(z, 1), Check.repeat('c', 68) + "aaa");
        EditorPanels w = with("a", Check.repeat('b', 20), Check.repeat('a', 72));
        w.change(true);
        check.due("far too long", Check.text(w, 1), Check.repeat('a', 72));
    }

    @Sentence("(it counts nothing)")
    static void lostLinesCountNothing(Check check) {
        EditorPanels x = with("a", "bb", "aa", Check.repeat('a', 37), "a");
        check.due("three in two lines", x.change(true), 3);
        check.due("lines", Check.texts(x), "|bbbb|" + Check.repeat('a', 37) + "|bb");
        x.find(1);
        check.due("at the cursor", x.change(false), 1);
        x.find(1);
        EditorPanels y = with("a", "bb", Check.repeat('a', 72));
        y.find(1);
        check.due("none at the cursor", y.change(false), 0);
        check.due("none at all", y.change(true), 0);
    }

    @Sentence("Without a text 0.")
    static void changingNothing(Check check) {
        EditorPanels x = with("a", "b", "a", "");
        x.find(1);
        x.word(127, false);
        check.due("at the cursor", x.change(false), 0);
        check.due("in all lines", x.change(true), 0);
        check.due("lines", Check.texts(x), "|a|");
        check.due("counts", Check.counts(x), " 1 0 0 0 0 0 0");
    }

    @Sentence("A character comes behind the text that is looked for, or what it is replaced by (to)")
    static void twoTexts(Check check) {
        EditorPanels x = Check.page("abc");
        check.due("looked for", x.word('b', false), 1);
        check.due("replaced by", x.word('x', true), 1);
        check.due("looked for", x.word('c', false), 2);
        check.due("replaced by", x.word('y', true), 2);
        check.due("replaced by", x.word('z', true), 3);
        x.change(true);
        check.due("line", Check.text(x, 1), "axyz");
    }

    @Sentence("how many it has, 20 at most (more are lost)")
    static void twentyAtMost(Check check) {
        for (boolean to : new boolean[] {false, true}) {
            EditorPanels x = Check.page(Check.repeat('a', 20) + "b");
            for (int i = 1; i <= 20; i++) {
                check.due("word()", x.word('a', to), i);
            }
            check.due("the 21st", x.word('z', to), 20);
            check.due("the 22nd", x.word('z', to), 20);
            x.word(to ? 'b' : '.', !to);
            x.change(true);
            check.due("by its 20", Check.text(x, 1), to ? Check.repeat('a', 40) : ".b");
        }
    }

    @Sentence("by others than 32 .. 126 it is empty: 0")
    static void emptied(Check check) {
        for (int c : new int[] {31, 127, 0, -1, 128, 65536 + 'a', Integer.MIN_VALUE, Integer.MAX_VALUE}) {
            EditorPanels x = with("a", "b", "a");
            check.due("looked for, by " + c, x.word(c, false), 0);
            check.due("so that nothing is", x.find(1), 0);
            check.due("the other is not", x.word('b', true), 2);
            check.due("its first again", x.word('a', false), 1);
            check.due("replaced by, by " + c, x.word(c, true), 0);
            check.due("so that it goes", x.change(true), 1);
            check.due("so that it goes", Check.text(x, 1), "");
        }
        EditorPanels y = new EditorPanels(1);
        check.due("the least", y.word(32, false), 1);
        check.due("the greatest", y.word(126, false), 2);
        check.due("an empty one", y.word(0, true), 0);
        for (int i = 0; i < 25; i++) {
            y.word('a', true);
        }
        check.due("a full one", y.word(127, true), 0);
    }
}
