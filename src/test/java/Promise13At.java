/** Promise 13: the characters of a line. */
public final class Promise13At {
    public static void main(String[] args) {
        Check check = new Check();
        EditorPanels x = Check.page("a ~", "", Check.repeat('q', 72));
        check.due("at(1, 0)", x.at(1, 0), 'a');
        check.due("at(1, 1)", x.at(1, 1), ' ');
        check.due("at(1, 2)", x.at(1, 2), '~');
        check.due("at(1, 3)", x.at(1, 3), -1);
        check.due("at(1, -1)", x.at(1, -1), -1);
        check.due("at(2, 0)", x.at(2, 0), -1);
        check.due("at(3, 71)", x.at(3, 71), 'q');
        check.due("at(3, 72)", x.at(3, 72), -1);
        int[] wrong = {0, 4, -1, 300, 301, Integer.MIN_VALUE, Integer.MAX_VALUE};
        for (int line : wrong) {
            check.due("at(" + line + ", 0)", x.at(line, 0), -1);
        }
        check.due("far inside", x.at(1, Integer.MAX_VALUE), -1);
        check.due("far outside", x.at(1, Integer.MIN_VALUE), -1);
        x.exclude(1, 1);
        check.due("of an excluded one", x.at(1, 0), 'a');
        x.command(3, 1, 1);
        check.due("of a deleted one", x.at(3, 0), -1);
        check.end();
    }
}
