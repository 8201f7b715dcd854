/** Promise 11: members with editions. */
public final class Promise11Save {
    public static void main(String[] args) {
        Check check = new Check();
        EditorPanels x = Check.page("a", "b");
        for (int member = 0; member <= 9; member++) {
            check.due("another edition", x.save(member, 1), 0);
            check.due("another edition", x.save(member, -1), 0);
            check.due("lines of none", x.count(20 + member), 0);
            check.due("save(" + member + ", 0)", x.save(member, 0), 1);
            check.due("its edition", x.count(10 + member), 1);
            check.due("its lines", x.count(20 + member), 2);
        }
        x.line();
        check.due("saved in between", x.save(4, 0), 0);
        check.due("its lines", x.count(24), 2);
        check.due("its edition", x.count(14), 1);
        check.due("save(4, 1)", x.save(4, 1), 1);
        check.due("its edition", x.count(14), 2);
        check.due("its lines", x.count(24), 3);
        check.due("another one's lines", x.count(25), 2);
        check.due("another one's edition", x.count(15), 1);
        int[] wrong = {-1, 10, Integer.MIN_VALUE, Integer.MAX_VALUE};
        for (int member : wrong) {
            check.due("save(" + member + ", 0)", x.save(member, 0), -4);
        }
        check.due("far editions", x.save(0, Integer.MAX_VALUE), 0);
        check.due("far editions", x.save(0, Integer.MIN_VALUE), 0);
        check.due("no act", x.count(4), 0);
        EditorPanels y = new EditorPanels(3);
        check.due("without lines", y.save(9, 0), 1);
        check.due("without lines", y.count(29), 0);
        check.due("without lines", y.count(19), 1);
        check.end();
    }
}
