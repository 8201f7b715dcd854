/** Promise 15: going to panels and back. */
public final class Promise15Panel {
    public static void main(String[] args) {
        Check check = new Check();
        EditorPanels x = new EditorPanels(1);
        check.due("back from 0", x.panel(0, 0), 0);
        for (int v = 1; v <= 9; v++) {
            check.due("panel(0, " + v + ")", x.panel(0, v), v);
            check.due("count(6)", x.count(6), v);
        }
        check.due("the same once more", x.panel(0, 9), 9);
        check.due("back to it", x.panel(0, 0), 9);
        int[] fields = {-1, 1, 9, Integer.MIN_VALUE, Integer.MAX_VALUE};
        for (int field : fields) {
            check.due("panel(" + field + ", 0)", x.panel(field, 0), -4);
            check.due("panel(" + field + ", 5)", x.panel(field, 5), -4);
        }
        int[] values = {-1, 10, Integer.MIN_VALUE, Integer.MAX_VALUE};
        for (int v : values) {
            check.due("panel(0, " + v + ")", x.panel(0, v), -4);
        }
        check.due("nothing changed", x.count(6), 9);
        for (int v = 8; v >= 0; v--) {
            check.due("back", x.panel(0, 0), v);
        }
        check.due("0 at last", x.panel(0, 0), 0);
        check.due("and on", x.panel(0, 4), 4);
        check.due("back", x.panel(0, 0), 0);
        farAndBack(check);
        check.end();
    }

    /** As far as an object's 512 calls reach. */
    private static void farAndBack(Check check) {
        EditorPanels x = new EditorPanels(1);
        for (int i = 0; i < 256; i++) {
            check.due("panel", x.panel(0, 1 + i % 9), 1 + i % 9);
        }
        for (int i = 254; i >= 0; i--) {
            check.due("back", x.panel(0, 0), 1 + i % 9);
        }
        check.due("0 at last", x.panel(0, 0), 0);

        EditorPanels y = new EditorPanels(1);
        for (int i = 0; i < 512; i++) {
            check.due("panel", y.panel(0, 1 + i % 9), 1 + i % 9);
        }
    }
}
