/** Promise 3: characters 32 .. 126 come behind a line, up to 72. */
public final class Promise03Sign {
    public static void main(String[] args) {
        Check check = new Check();
        EditorPanels x = Check.page("", "");
        int[] wrong = {Integer.MIN_VALUE, -1, 0, 31, 127, 128, 255, 65536 + 97, Integer.MAX_VALUE};
        for (int c : wrong) {
            x.sign(1, c);
        }
        check.due("no character", x.at(1, 0), -1);
        x.sign(1, 32);
        x.sign(1, 126);
        x.sign(1, 33);
        check.due("all of them", Check.text(x, 1), " ~!");
        int[] none = {Integer.MIN_VALUE, -1, 0, 3, 300, 301, Integer.MAX_VALUE};
        for (int line : none) {
            x.sign(line, 'z');
        }
        check.due("lines", Check.texts(x), "| ~!|");

        EditorPanels y = Check.page(Check.repeat('a', 71), "");
        y.sign(1, 'b');
        check.due("the 72nd", y.at(1, 71), 'b');
        y.sign(1, 'c');
        check.due("the 73rd", y.at(1, 72), -1);
        check.due("the 72nd stays", y.at(1, 71), 'b');
        check.due("nothing is lost", y.count(3), 0);
        check.due("sign() is no act", y.count(4), 0);
        everyCharacter(check);
        check.end();
    }

    private static void everyCharacter(Check check) {
        EditorPanels x = Check.page("", "");
        for (int c = 32; c <= 126; c++) {
            x.sign(c < 80 ? 1 : 2, c);
        }
        for (int c = 32; c <= 126; c++) {
            check.due("character " + c, c < 80 ? x.at(1, c - 32) : x.at(2, c - 80), c);
        }
    }
}
