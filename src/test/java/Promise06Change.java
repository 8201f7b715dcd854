/** Promise 6: replacing at the cursor and in all lines. */
public final class Promise06Change {
    public static void main(String[] args) {
        Check check = new Check();
        atCursor(check);
        inAllLines(check);
        tooLong(check);
        acts(check);
        check.end();
    }

    private static EditorPanels with(String from, String to, String... texts) {
        EditorPanels x = Check.page(texts);
        Check.word(x, from, false);
        Check.word(x, to, true);
        return x;
    }

    private static void atCursor(Check check) {
        EditorPanels x = with("ab", "xyz", "ab ab", "ab");
        check.due("the cursor is nowhere", x.change(false), 0);
        x.find(1);
        check.due("change(false)", x.change(false), 1);
        check.due("lines", Check.texts(x), "|xyz ab|ab");
        check.due("at the last one's line", x.count(0), 1);
        check.due("at the last one", x.count(1), 2);
        check.due("it does not stand there", x.change(false), 0);
        check.due("one act", x.count(4), 1);
        x.find(0);
        check.due("the next one", x.count(1), 4);
        x.exclude(1, 1);
        check.due("in an excluded line too", x.change(false), 1);
        check.due("which stays so", x.count(2), 1);
        check.due("lines", Check.texts(x), "|xyz xyz|ab");

        EditorPanels y = with("ab", "", "cabc", "ab");
        y.find(1);
        check.due("by nothing", y.change(false), 1);
        check.due("lines", Check.texts(y), "|cc|ab");
        check.due("nowhere", y.count(0), 0);
        y.sign(1, 'd');
        check.due("nowhere for good", y.count(1), -1);
        check.due("find(0) from the beginning", y.find(0), 2);
        Check.word(y, "", false);
        check.due("without a text", y.change(false), 0);
        check.due("without a text", y.change(true), 0);
        check.due("lines", Check.texts(y), "|ccd|ab");
    }

    private static void inAllLines(Check check) {
        EditorPanels x = with("aa", "ba", "aaaaa", "a", "aa aa", "caa");
        x.exclude(3, 3);
        check.due("change(true)", x.change(true), 3);
        check.due("lines", Check.texts(x), "|babaa|a|aa aa|cba");
        check.due("the excluded one stays so", x.count(2), 1);
        check.due("again", x.change(true), 1);
        check.due("lines", Check.texts(x), "|babba|a|aa aa|cba");
        check.due("none", x.change(true), 0);
        check.due("three acts", x.count(4), 3);

        EditorPanels y = with("a", "", "aaa", "bab");
        y.command(1, 5, 1);
        check.due("by nothing", y.change(true), 4);
        check.due("lines", Check.texts(y), "||bb");
        check.due("what waits waits on", y.count(5), 1);

        EditorPanels z = with("ab", "c", "ab", "xxab");
        z.find(2);
        z.change(true);
        check.due("the cursor stays", z.count(1), 2);
        z.undo();
        z.find(2);
        Check.word(z, "xxab", false);
        z.change(true);
        check.due("lines", Check.texts(z), "|ab|c");
        check.due("no such character", z.count(0), 0);
        Check.sign(z, 2, "yz");
        check.due("there again", z.count(1), 2);
    }

    private static void tooLong(Check check) {
        String full = Check.repeat('b', 70);
        EditorPanels x = with("a", "cc", full + "a", "a" + full + "a", "aa");
        check.due("two lines of three", x.change(true), 3);
        check.due("72 are not too many", Check.text(x, 1), full + "cc");
        check.due("it stays", Check.text(x, 2), "a" + full + "a");
        check.due("the third", Check.text(x, 3), "cccc");
        check.due("one is lost", x.count(3), 1);
        x.find(1);
        check.due("at the cursor", x.change(false), 0);
        check.due("the cursor stays", x.count(1), 0);
        check.due("one is lost", x.count(3), 1);
        check.due("it was so", x.count(4), 1);
        Check.word(x, "d", true);
        check.due("now it fits", x.change(true), 2);
        check.due("the mark stays", x.count(3), 1);

        EditorPanels y = with("a", "bb", "a" + Check.repeat('c', 71));
        y.find(1);
        check.due("73 are too many", y.change(false), 0);
        check.due("it is lost", y.count(3), 1);
        check.due("that is an act", y.count(4), 1);
        y.undo();
        check.due("which can be undone", y.count(3), 0);
    }

    private static void acts(Check check) {
        EditorPanels x = with("a", "a", "aba");
        check.due("by itself", x.change(true), 2);
        check.due("no act", x.count(4), 0);
        x.find(1);
        check.due("by itself", x.change(false), 1);
        check.due("no act", x.count(4), 0);

        EditorPanels same = with("ab", "cb", "ab", "zab");
        check.due("by one of its length", same.change(true), 2);
        check.due("lines", Check.texts(same), "|cb|zcb");
        Check.word(same, "cb", false);
        Check.word(same, "ab", true);
        check.due("and to a lesser one", same.change(true), 2);
        check.due("lines", Check.texts(same), "|ab|zab");
        check.due("two acts", same.count(4), 2);

        EditorPanels y = with("ab", "bac", "abx");
        y.find(1);
        y.change(false);
        y.undo();
        check.due("undone", Check.texts(y), "|abx");
        check.due("the cursor is nowhere", y.count(0), 0);
    }
}
