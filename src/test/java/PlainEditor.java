import java.util.ArrayDeque;
import java.util.ArrayList;
import java.util.Comparator;
import java.util.Deque;
import java.util.HashSet;
import java.util.List;
import java.util.Set;

/** The document once more, as plainly as the Java library allows: what the class is compared with. */
final class PlainEditor {
    private static final class Row {
        String text = "";
        boolean excluded;
        boolean lost;

        Row twin() {
            Row twin = new Row();
            twin.text = text;
            twin.excluded = excluded;
            twin.lost = lost;
            return twin;
        }

        String state() {
            return text + (excluded ? "/excluded" : "/") + (lost ? "/lost" : "/");
        }
    }

    private final int rows;
    private List<Row> page = new ArrayList<>();
    private final Deque<List<Row>> acts = new ArrayDeque<>();
    private Row cursorRow;
    private int cursorPlace;
    private String from = "";
    private String to = "";
    private int[] source;
    private int[] place;
    private int[] end;
    private final List<List<Integer>> macros = new ArrayList<>();
    private int gone;
    private final int[] editions = new int[10];
    private final int[] saved = new int[10];
    private final Deque<Integer> panels = new ArrayDeque<>();

    PlainEditor(int rows) {
        this.rows = rows;
        panels.push(0);
        for (int i = 0; i < 10; i++) {
            macros.add(new ArrayList<>());
        }
    }

    private boolean is(int line) {
        return line >= 1 && line <= page.size();
    }

    private static boolean isCharacter(int c) {
        return c >= 32 && c <= 126;
    }

    private List<Row> twins(List<Row> of) {
        List<Row> twins = new ArrayList<>();
        for (Row row : of) {
            twins.add(row.twin());
        }
        return twins;
    }

    private void act(List<Row> ahead) {
        acts.push(ahead);
        if (acts.size() > 20) {
            acts.removeLast();
        }
    }

    private void actIfAnother(List<Row> ahead) {
        List<String> then = new ArrayList<>();
        List<String> now = new ArrayList<>();
        ahead.forEach(row -> then.add(row.state()));
        page.forEach(row -> now.add(row.state()));
        if (!then.equals(now)) {
            act(ahead);
        }
    }

    int line() {
        if (page.size() == 300) {
            return -3;
        }
        page.add(new Row());
        return page.size();
    }

    void sign(int line, int c) {
        if (is(line) && isCharacter(c) && page.get(line - 1).text.length() < 72) {
            page.get(line - 1).text += (char) c;
        }
    }

    int command(int line, int kind, int n) {
        if (!is(line)) {
            return -2;
        }
        if (kind < 0 || kind > 15 || n < 1 || n > 100 || kind == 15 && n > 10) {
            return -4;
        }
        boolean waits = source != null || place != null || end != null;
        if (waits && (kind <= 2 || kind >= 7 && kind <= 9 || kind == 15)) {
            return -1;
        }
        if (kind == 15) {
            gone = 0;
            return run(n - 1, line);
        }
        if (kind == 14) {
            source = null;
            place = null;
            end = null;
            return 1;
        }
        List<Row> ahead = twins(page);
        int answer = done(line, kind, n);
        if (answer == 1) {
            act(ahead);
        }
        return answer;
    }

    private int run(int name, int line) {
        for (int row : macros.get(name)) {
            gone++;
            if (gone > 20) {
                return -3;
            }
            int answer = row < 0 ? run(-1 - row, line) : command(line, row % 16, row / 16);
            if (answer != 1) {
                return answer;
            }
        }
        return 1;
    }

    private int done(int line, int kind, int n) {
        int last = Math.min(page.size(), line + n - 1);
        Row row = page.get(line - 1);
        switch (kind) {
            case 0:
                List<Row> blanks = new ArrayList<>();
                for (int i = 0; i < n; i++) {
                    blanks.add(new Row());
                }
                return insert(line, blanks);
            case 1:
                page.subList(line - 1, last).clear();
                return 1;
            case 2:
                return repeat(line, line, n);
            case 3:
            case 4:
                return end != null || source != null ? -1 : meet(new int[] {kind, line, last}, place);
            case 5:
            case 6:
                return end != null || place != null ? -1 : meet(source, new int[] {kind, line});
            case 7:
                String shifted = " ".repeat(n) + row.text;
                row.lost = shifted.length() > 72 && !shifted.substring(72).isBlank();
                if (!row.lost) {
                    row.text = shifted.substring(0, Math.min(72, shifted.length()));
                }
                return 1;
            case 8:
                int cut = Math.min(n, row.text.length());
                row.lost = !row.text.substring(0, cut).isBlank();
                if (!row.lost) {
                    row.text = row.text.substring(cut);
                }
                return 1;
            case 9:
                page.subList(line - 1, last).forEach(r -> r.excluded = true);
                return 1;
            default:
                return block(line, kind, n);
        }
    }

    private int insert(int index, List<Row> fresh) {
        if (page.size() + fresh.size() > 300) {
            return -3;
        }
        page.addAll(index, fresh);
        return 1;
    }

    private int repeat(int first, int last, int n) {
        List<Row> fresh = new ArrayList<>();
        for (int i = 0; i < n; i++) {
            fresh.addAll(twins(page.subList(first - 1, last)));
        }
        return insert(last, fresh);
    }

    private int block(int line, int kind, int n) {
        if (end == null) {
            if (source != null || place != null && (kind == 10 || kind == 13)) {
                return -1;
            }
            end = new int[] {kind, line};
            return 0;
        }
        if (end[0] != kind) {
            return -1;
        }
        int first = Math.min(line, end[1]);
        int last = Math.max(line, end[1]);
        int answer;
        if (kind == 10) {
            page.subList(first - 1, last).clear();
            answer = 1;
        } else if (kind == 13) {
            answer = repeat(first, last, n);
        } else {
            answer = meet(new int[] {kind - 8, first, last}, place);
        }
        if (answer >= 0) {
            end = null;
        }
        return answer;
    }

    private int meet(int[] what, int[] where) {
        if (what == null || where == null) {
            source = what;
            place = where;
            return 0;
        }
        List<Row> part = page.subList(what[1] - 1, what[2]);
        int index = where[0] == 5 ? where[1] : where[1] - 1;
        if (what[0] == 3) {
            int answer = insert(index, twins(part));
            if (answer != 1) {
                return answer;
            }
        } else {
            if (where[1] >= what[1] && where[1] <= what[2]) {
                return -1;
            }
            List<Row> moved = new ArrayList<>(part);
            part.clear();
            page.addAll(index >= what[2] ? index - moved.size() : index, moved);
        }
        source = null;
        place = null;
        return 1;
    }

    private boolean cursorIsThere() {
        return page.contains(cursorRow) && cursorPlace < cursorRow.text.length();
    }

    int find(int how) {
        if (from.isEmpty()) {
            return 0;
        }
        int now = cursorIsThere() ? page.indexOf(cursorRow) * 100 + cursorPlace : -1;
        int found = -1;
        for (int i = 0; i < page.size(); i++) {
            for (int k = 0; k < 72; k++) {
                int here = i * 100 + k;
                if (!page.get(i).text.startsWith(from, k)) {
                    continue;
                }
                boolean behind = how == 0 && here > now && found < 0;
                boolean first = how == 1 && found < 0;
                boolean ahead = how == 3 && (now < 0 || here < now);
                if (behind || first || ahead || how == 2) {
                    found = here;
                }
            }
        }
        if (found < 0) {
            return 0;
        }
        cursorRow = page.get(found / 100);
        cursorPlace = found % 100;
        cursorRow.excluded = false;
        return found / 100 + 1;
    }

    int change(boolean all) {
        if (from.isEmpty()) {
            return 0;
        }
        List<Row> ahead = twins(page);
        int times = 0;
        if (all) {
            for (Row row : page) {
                int here = occurrences(row.text);
                String changed = row.text.replace(from, to);
                if (row.excluded || here == 0) {
                    continue;
                }
                if (changed.length() > 72) {
                    row.lost = true;
                } else {
                    row.text = changed;
                    times += here;
                }
            }
        } else if (cursorIsThere() && cursorRow.text.startsWith(from, cursorPlace)) {
            String text = cursorRow.text;
            String changed = text.substring(0, cursorPlace) + to + text.substring(cursorPlace + from.length());
            if (changed.length() > 72) {
                cursorRow.lost = true;
            } else {
                cursorRow.text = changed;
                times = 1;
                cursorPlace += to.length() - 1;
                cursorRow = to.isEmpty() ? null : cursorRow;
            }
        }
        actIfAnother(ahead);
        return times;
    }

    private int occurrences(String text) {
        int times = 0;
        for (int i = text.indexOf(from); i >= 0; i = text.indexOf(from, i + from.length())) {
            times++;
        }
        return times;
    }

    int word(int c, boolean isTo) {
        String old = isTo ? to : from;
        String now = !isCharacter(c) ? "" : old.length() < 20 ? old + (char) c : old;
        if (isTo) {
            to = now;
        } else {
            from = now;
        }
        return now.length();
    }

    int exclude(int first, int last) {
        if (!is(first) || !is(last)) {
            return -2;
        }
        List<Row> ahead = twins(page);
        int fresh = 0;
        for (int i = first; i <= last; i++) {
            fresh += page.get(i - 1).excluded ? 0 : 1;
            page.get(i - 1).excluded = true;
        }
        actIfAnother(ahead);
        return fresh;
    }

    int sort(int first, int last) {
        if (!is(first) || !is(last) || first > last) {
            return -2;
        }
        List<Row> ahead = twins(page);
        List<Row> before = new ArrayList<>(page);
        page.subList(first - 1, last).sort(Comparator.comparing(row -> row.text));
        int moved = 0;
        for (int i = 0; i < page.size(); i++) {
            moved += page.get(i) == before.get(i) ? 0 : 1;
        }
        actIfAnother(ahead);
        return moved;
    }

    int undo() {
        if (acts.isEmpty()) {
            return 0;
        }
        page = acts.pop();
        cursorRow = null;
        source = null;
        place = null;
        end = null;
        return 1;
    }

    int save(int member, int edition) {
        if (member < 0 || member > 9) {
            return -4;
        }
        if (editions[member] != edition) {
            return 0;
        }
        editions[member]++;
        saved[member] = page.size();
        return 1;
    }

    int lines() {
        return page.size();
    }

    int at(int line, int i) {
        return is(line) && i >= 0 && i < page.get(line - 1).text.length() ? page.get(line - 1).text.charAt(i) : -1;
    }

    int macro(int name, int row) {
        if (name < 0 || name > 9 || row < -10 || row >= 0 && row % 16 == 15 || macros.get(name).size() >= 20) {
            return -4;
        }
        if (row < 0 && reachedFrom(-1 - row).contains(name)) {
            return 0;
        }
        macros.get(name).add(row);
        return 1;
    }

    private Set<Integer> reachedFrom(int name) {
        Set<Integer> reached = new HashSet<>();
        Deque<Integer> left = new ArrayDeque<>();
        left.add(name);
        while (!left.isEmpty()) {
            int next = left.remove();
            if (reached.add(next)) {
                macros.get(next).stream().filter(row -> row < 0).forEach(row -> left.add(-1 - row));
            }
        }
        return reached;
    }

    int panel(int field, int v) {
        if (field != 0 || v < 0 || v > 9) {
            return -4;
        }
        if (v > 0) {
            panels.push(v);
        } else if (panels.size() > 1) {
            panels.pop();
        }
        return panels.peek();
    }

    int shown(int row) {
        List<Integer> screen = new ArrayList<>();
        for (int i = 1; i <= page.size(); i++) {
            int top = screen.isEmpty() ? 1 : screen.get(screen.size() - 1);
            if (!page.get(i - 1).excluded) {
                screen.add(i);
            } else if (top < 0) {
                screen.set(screen.size() - 1, top - 1);
            } else {
                screen.add(-1);
            }
        }
        return row >= 1 && row <= rows && row <= screen.size() ? screen.get(row - 1) : 0;
    }

    int count(int what) {
        switch (what) {
            case 0:
                return cursorIsThere() ? page.indexOf(cursorRow) + 1 : 0;
            case 1:
                return cursorIsThere() ? cursorPlace : -1;
            case 2:
                return (int) page.stream().filter(row -> row.excluded).count();
            case 3:
                return (int) page.stream().filter(row -> row.lost).count();
            case 4:
                return acts.size();
            case 5:
                return source != null || place != null || end != null ? 1 : 0;
            case 6:
                return panels.peek();
            default:
                return what >= 10 && what <= 19 ? editions[what - 10] : what >= 20 && what <= 29 ? saved[what - 20] : -1;
        }
    }
}
