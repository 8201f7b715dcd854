/** Promise 17: the counts. */
public final class Promise17Count {
    public static void main(String[] args) {
        Check check = new Check();
        EditorPanels x = Check.page("a", "xb", "b");
        int[] others = {-1, 7, 8, 9, 30, 31, Integer.MIN_VALUE, Integer.MAX_VALUE};
        for (int what : others) {
            check.due("count(" + what + ")", x.count(what), -1);
        }
        check.due("the cursor is nowhere", x.count(0), 0);
        check.due("the cursor is nowhere", x.count(1), -1);
        x.word('b', false);
        x.find(0);
        check.due("the cursor's line", x.count(0), 2);
        check.due("its character", x.count(1), 1);
        x.exclude(1, 2);
        check.due("excluded ones", x.count(2), 2);
        x.command(1, 8, 1);
        x.command(2, 8, 1);
        x.command(3, 8, 1);
        check.due("lost ones", x.count(3), 3);
        check.due("acts", x.count(4), 4);
        check.due("nothing waits", x.count(5), 0);
        for (int kind : new int[] {3, 4, 5, 6, 10, 11, 12, 13}) {
            x.command(1, kind, 1);
            check.due("kind " + kind + " waits", x.count(5), 1);
            x.command(1, 14, 1);
            check.due("nothing waits", x.count(5), 0);
        }
        x.panel(0, 7);
        check.due("the panel", x.count(6), 7);
        x.save(0, 0);
        x.save(9, 0);
        x.save(9, 1);
        check.due("edition of 0", x.count(10), 1);
        check.due("edition of 1", x.count(11), 0);
        check.due("edition of 9", x.count(19), 2);
        check.due("lines of 0", x.count(20), 3);
        check.due("lines of 1", x.count(21), 0);
        check.due("lines of 9", x.count(29), 3);
        check.end();
    }
}
