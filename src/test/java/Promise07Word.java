/** Promise 7: the two texts, of up to 20 characters. */
public final class Promise07Word {
    public static void main(String[] args) {
        Check check = new Check();
        for (boolean to : new boolean[] {false, true}) {
            limits(check, to);
        }
        twoTexts(check);
        twentyOnly(check);
        check.end();
    }

    private static void limits(Check check, boolean to) {
        EditorPanels x = new EditorPanels(1);
        for (int i = 1; i <= 20; i++) {
            check.due("word(97, " + to + ")", x.word('a', to), i);
        }
        check.due("the 21st", x.word('b', to), 20);
        int[] others = {31, 127, 0, -1, 300, Integer.MIN_VALUE, Integer.MAX_VALUE};
        for (int c : others) {
            check.due("word(" + c + ", " + to + ")", x.word(c, to), 0);
            check.due("word(32, " + to + ")", x.word(32, to), 1);
            check.due("word(126, " + to + ")", x.word(126, to), 2);
        }
        check.due("no act", x.count(4), 0);
    }

    private static void twoTexts(Check check) {
        EditorPanels x = Check.page("a~ ");
        check.due("looked for", x.word('~', false), 1);
        check.due("looked for", x.word(' ', false), 2);
        check.due("replaced by", x.word('!', true), 1);
        x.change(true);
        check.due("lines", Check.texts(x), "|a!");
        check.due("emptied", x.word(-1, false), 0);
        check.due("the other is not", x.word('?', true), 2);
        x.word('a', false);
        x.change(true);
        check.due("lines", Check.texts(x), "|!?!");
    }

    private static void twentyOnly(Check check) {
        EditorPanels x = Check.page(Check.repeat('a', 20) + "c");
        Check.word(x, Check.repeat('a', 20) + "b", false);
        Check.word(x, Check.repeat('d', 20) + "e", true);
        check.due("found by its 20", x.find(1), 1);
        x.change(false);
        check.due("replaced by its 20", Check.texts(x), "|" + Check.repeat('d', 20) + "c");
        check.due("the cursor", x.count(1), 19);
    }
}
