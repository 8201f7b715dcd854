/** Promise 8: excluding lines. */
public final class Promise08Exclude {
    public static void main(String[] args) {
        Check check = new Check();
        EditorPanels x = Check.page("a", "b", "c", "d");
        check.due("exclude(2, 3)", x.exclude(2, 3), 2);
        check.due("excluded ones", x.count(2), 2);
        check.due("exclude(1, 4)", x.exclude(1, 4), 2);
        check.due("acts", x.count(4), 2);
        check.due("all are", x.exclude(1, 4), 0);
        check.due("that is no act", x.count(4), 2);
        x.undo();
        check.due("shown(1)", x.shown(1), 1);
        check.due("shown(2)", x.shown(2), -2);
        check.due("from above to", x.exclude(4, 1), 0);
        check.due("none", x.count(2), 2);
        check.due("one line", x.exclude(4, 4), 1);
        int[][] wrong = {{0, 1}, {1, 0}, {1, 5}, {5, 1}, {5, 5}, {-1, 2}, {Integer.MIN_VALUE, Integer.MAX_VALUE}};
        for (int[] w : wrong) {
            check.due("exclude(" + w[0] + ", " + w[1] + ")", x.exclude(w[0], w[1]), -2);
        }
        check.due("nothing changed", x.count(2), 3);
        x.command(1, 10, 1);
        check.due("while something waits", x.exclude(1, 1), 1);
        check.due("it waits on", x.count(5), 1);

        EditorPanels y = Check.pageOf(300);
        check.due("all 300", y.exclude(1, 300), 300);
        check.due("on one row", y.shown(1), -300);
        check.end();
    }
}
