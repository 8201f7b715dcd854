/**
 * A text editor by line commands. The project's document says what each call answers; lines, here too, are numbered
 * from 1 on, so that row 0 of the rows that hold them stays unused.
 */
public final class EditorPanels {
    public static final int NONE = -1;

    private static final int MAX_LINES = 300;
    private static final int MAX_CHARACTERS = 72;
    private static final int MAX_SCREEN = 65536;
    private static final int MAX_NUMBER = 100;
    private static final int MAX_ACTS = 20;
    private static final int MAX_PHRASE = 20;
    private static final int MAX_MACRO_ROWS = 20;
    private static final int MAX_CALLS = 512;
    private static final int MACROS = 10;
    private static final int MEMBERS = 10;
    private static final int LAST_PANEL = 9;

    private static final int FIRST_CHARACTER = 32;
    private static final int LAST_CHARACTER = 126;
    private static final int BLANK = 32;

    private static final int DONE = 1;
    private static final int WAITS = 0;
    private static final int REFUSED = -1;
    private static final int NO_LINE = -2;
    private static final int FULL = -3;
    private static final int OUTSIDE = -4;

    private static final int ADD_BLANKS = 0;
    private static final int DELETE = 1;
    private static final int REPEAT = 2;
    private static final int COPY = 3;
    private static final int MOVE = 4;
    private static final int BEHIND = 5;
    private static final int AHEAD = 6;
    private static final int SHIFT_RIGHT = 7;
    private static final int SHIFT_LEFT = 8;
    private static final int BLOCK_DELETE = 10;
    private static final int BLOCK_COPY = 11;
    private static final int BLOCK_MOVE = 12;
    private static final int BLOCK_REPEAT = 13;
    private static final int DROP_WAITING = 14;
    private static final int RUN_MACRO = 15;
    private static final int KINDS = 16;

    private static final int EXCLUDED = 1;
    private static final int LOST = 2;

    private final int screenRows;
    private final Page page;
    private final History history;
    private final Waiting waiting;
    private final Phrase sought;
    private final Phrase replacement;
    private final Macros macros;
    private final Members members;
    private final Panels panels;
    private int macroRowsGone;

    public EditorPanels(int rows) {
        screenRows = Math.max(0, Math.min(rows, MAX_SCREEN));
        Text blank = new Text(new int[0], 0);
        page = new Page(blank);
        history = new History(blank);
        waiting = new Waiting();
        sought = new Phrase();
        replacement = new Phrase();
        macros = new Macros();
        members = new Members();
        panels = new Panels();
    }

    public int line() {
        if (!page.hasRoomFor(1)) {
            return FULL;
        }
        page.insertBlanks(page.sheet.size + 1, 1);
        return page.sheet.size;
    }

    public void sign(int line, int c) {
        if (page.sheet.has(line) && isCharacter(c)) {
            page.append(line, c);
        }
    }

    public int command(int line, int kind, int n) {
        if (kind != RUN_MACRO) {
            return obey(line, kind, n);
        }
        if (!page.sheet.has(line)) {
            return NO_LINE;
        }
        if (n < 1 || n > MACROS) {
            return OUTSIDE;
        }
        if (waiting.isAny()) {
            return REFUSED;
        }
        macroRowsGone = 0;
        return runMacro(n - 1, line, 0);
    }

    public int find(int how) {
        if (sought.size == 0) {
            return 0;
        }
        boolean here = page.cursorIsSomewhere();
        switch (how) {
            case 0:
                return here ? page.seekOn(sought, page.cursorLine, page.cursorPlace + 1) : page.seekOn(sought, 1, 0);
            case 1:
                return page.seekOn(sought, 1, 0);
            case 2:
                return page.seekBack(sought, page.sheet.size, MAX_CHARACTERS);
            case 3:
                return here ? page.seekBack(sought, page.cursorLine, page.cursorPlace - 1)
                        : page.seekBack(sought, page.sheet.size, MAX_CHARACTERS);
            default:
                return 0;
        }
    }

    public int change(boolean all) {
        if (sought.size == 0) {
            return 0;
        }
        history.prepare(page.sheet);
        int times = all ? page.replaceAll(sought, replacement) : page.replaceAtCursor(sought, replacement);
        history.keepIfAnother(page.sheet);
        return times;
    }

    public int word(int c, boolean to) {
        Phrase phrase = to ? replacement : sought;
        if (isCharacter(c)) {
            phrase.add(c);
        } else {
            phrase.size = 0;
        }
        return phrase.size;
    }

    public int exclude(int from, int to) {
        if (!page.sheet.has(from) || !page.sheet.has(to)) {
            return NO_LINE;
        }
        history.prepare(page.sheet);
        int fresh = page.sheet.markLines(from, to, EXCLUDED);
        history.keepIfAnother(page.sheet);
        return fresh;
    }

    public int sort(int from, int to) {
        if (!page.sheet.has(from) || !page.sheet.has(to) || from > to) {
            return NO_LINE;
        }
        history.prepare(page.sheet);
        int moved = page.sortLines(from, to);
        history.keepIfAnother(page.sheet);
        return moved;
    }

    public int undo() {
        if (!history.takeBack(page.sheet)) {
            return 0;
        }
        waiting.clear();
        page.loseCursor();
        return 1;
    }

    public int save(int member, int edition) {
        if (!members.has(member)) {
            return OUTSIDE;
        }
        return members.store(member, edition, page.sheet.size) ? 1 : 0;
    }

    public int lines() {
        return page.sheet.size;
    }

    public int at(int line, int i) {
        return page.sheet.has(line) ? page.sheet.textOf(line).characterAt(i) : NONE;
    }

    public int macro(int name, int row) {
        if (!macros.has(name) || macros.rowIsOutside(row) || macros.isFull(name)) {
            return OUTSIDE;
        }
        return macros.addRow(name, row) ? 1 : 0;
    }

    public int panel(int field, int v) {
        if (field != 0 || v < 0 || v > LAST_PANEL) {
            return OUTSIDE;
        }
        if (v == 0) {
            panels.goBack();
        } else {
            panels.goTo(v);
        }
        return panels.current();
    }

    public int shown(int row) {
        if (row < 1 || row > screenRows) {
            return 0;
        }
        return page.sheet.shownOn(row);
    }

    public int count(int what) {
        if (what >= 10 && what < 10 + MEMBERS) {
            return members.editionOf(what - 10);
        }
        if (what >= 20 && what < 20 + MEMBERS) {
            return members.linesOf(what - 20);
        }
        switch (what) {
            case 0:
                return page.cursorIsSomewhere() ? page.cursorLine : 0;
            case 1:
                return page.cursorIsSomewhere() ? page.cursorPlace : NONE;
            case 2:
                return page.sheet.marked(EXCLUDED);
            case 3:
                return page.sheet.marked(LOST);
            case 4:
                return history.size;
            case 5:
                return waiting.isAny() ? 1 : 0;
            case 6:
                return panels.current();
            default:
                return NONE;
        }
    }

    private static boolean isCharacter(int c) {
        return c >= FIRST_CHARACTER && c <= LAST_CHARACTER;
    }

    /** Every line command but the run of a macro, which goes through here row by row. */
    private int obey(int line, int kind, int n) {
        if (!page.sheet.has(line)) {
            return NO_LINE;
        }
        if (kind < 0 || kind >= RUN_MACRO || n < 1 || n > MAX_NUMBER) {
            return OUTSIDE;
        }
        if (kind == DROP_WAITING) {
            waiting.clear();
            return DONE;
        }
        history.prepare(page.sheet);
        int answer;
        switch (kind) {
            case COPY:
            case MOVE:
                answer = giveSource(kind, line, page.sheet.lastOf(line, n));
                break;
            case BEHIND:
            case AHEAD:
                answer = givePlace(kind, line);
                break;
            case BLOCK_DELETE:
            case BLOCK_COPY:
            case BLOCK_MOVE:
            case BLOCK_REPEAT:
                answer = waiting.isBlockOpen() ? closeBlock(kind, line, n) : openBlock(kind, line);
                break;
            default:
                answer = waiting.isAny() ? REFUSED : obeyAtOnce(line, kind, n);
                break;
        }
        if (answer == DONE) {
            waiting.clear();
            history.keepPrepared();
        }
        return answer;
    }

    private int obeyAtOnce(int line, int kind, int n) {
        switch (kind) {
            case ADD_BLANKS:
                return addBlanks(line, n);
            case DELETE:
                page.remove(line, page.sheet.lastOf(line, n));
                return DONE;
            case REPEAT:
                return repeatLines(line, line, n);
            case SHIFT_RIGHT:
                page.shiftRight(line, n);
                return DONE;
            case SHIFT_LEFT:
                page.shiftLeft(line, n);
                return DONE;
            default:
                page.sheet.markLines(line, page.sheet.lastOf(line, n), EXCLUDED);
                return DONE;
        }
    }

    private int addBlanks(int line, int n) {
        if (!page.hasRoomFor(n)) {
            return FULL;
        }
        page.insertBlanks(line + 1, n);
        return DONE;
    }

    private int repeatLines(int first, int last, int times) {
        if (!page.hasRoomFor((last - first + 1) * times)) {
            return FULL;
        }
        page.copyLines(first, last, times, last + 1);
        return DONE;
    }

    private int giveSource(int kind, int first, int last) {
        if (waiting.isBlockOpen() || waiting.isSourceGiven()) {
            return REFUSED;
        }
        return meet(kind, first, last, waiting.placeKind, waiting.placeLine);
    }

    private int givePlace(int kind, int line) {
        if (waiting.isBlockOpen() || waiting.isPlaceGiven()) {
            return REFUSED;
        }
        return meet(waiting.sourceKind, waiting.sourceFirst, waiting.sourceLast, kind, line);
    }

    private int openBlock(int kind, int line) {
        boolean isSource = kind == BLOCK_COPY || kind == BLOCK_MOVE;
        if (waiting.isSourceGiven() || (waiting.isPlaceGiven() && !isSource)) {
            return REFUSED;
        }
        waiting.keepBlock(kind, line);
        return WAITS;
    }

    private int closeBlock(int kind, int line, int n) {
        if (kind != waiting.blockKind) {
            return REFUSED;
        }
        int first = Math.min(line, waiting.blockLine);
        int last = Math.max(line, waiting.blockLine);
        switch (kind) {
            case BLOCK_COPY:
                return meet(COPY, first, last, waiting.placeKind, waiting.placeLine);
            case BLOCK_MOVE:
                return meet(MOVE, first, last, waiting.placeKind, waiting.placeLine);
            case BLOCK_REPEAT:
                return repeatLines(first, last, n);
            default:
                page.remove(first, last);
                return DONE;
        }
    }

    /** Copies or moves; the one of source and place that the other is not there for (its kind is 0) waits. */
    private int meet(int sourceKind, int first, int last, int placeKind, int placeLine) {
        if (placeKind == 0) {
            waiting.keepSource(sourceKind, first, last);
            return WAITS;
        }
        if (sourceKind == 0) {
            waiting.keepPlace(placeKind, placeLine);
            return WAITS;
        }
        int target = placeKind == BEHIND ? placeLine + 1 : placeLine;
        if (sourceKind == MOVE) {
            if (placeLine >= first && placeLine <= last) {
                return REFUSED;
            }
            page.moveLines(first, last, target);
            return DONE;
        }
        if (!page.hasRoomFor(last - first + 1)) {
            return FULL;
        }
        page.copyLines(first, last, 1, target);
        return DONE;
    }

    /** Macros make no ring, so that the depth stays below their number; the guard only says so. */
    private int runMacro(int name, int line, int depth) {
        if (depth >= MACROS) {
            return FULL;
        }
        for (int i = 0; i < macros.sizeOf(name); i++) {
            if (macroRowsGone >= MAX_MACRO_ROWS) {
                return FULL;
            }
            macroRowsGone++;
            int row = macros.rowOf(name, i);
            int answer = row < 0 ? runMacro(-1 - row, line, depth + 1) : obey(line, row % KINDS, row / KINDS);
            if (answer != DONE) {
                return answer;
            }
        }
        return DONE;
    }

    /**
     * The characters of a line. A text is never altered, so that lines, their copies and the states kept for undoing
     * share it. Nine characters stand in a long, the first one highest, a missing one as 0: a long run of calls makes
     * many texts, so each is small, and they compare as numbers.
     */
    private static final class Text {
        private static final int MASK = 127;
        private static final int PER_LONG = 9;
        private static final int LONGS = MAX_CHARACTERS / PER_LONG;
        private static final int OFFSET = FIRST_CHARACTER - 1;
        private static final int[] SHIFTS = {56, 49, 42, 35, 28, 21, 14, 7, 0};

        private final long[] packed = new long[LONGS];
        final int length;

        Text(int[] characters, int wanted) {
            length = Math.max(0, Math.min(MAX_CHARACTERS, Math.min(characters.length, wanted)));
            for (int i = 0; i < length; i++) {
                packed[i / PER_LONG] |= (long) (characters[i] - OFFSET) << SHIFTS[i % PER_LONG];
            }
        }

        int characterAt(int i) {
            if (i < 0 || i >= length) {
                return NONE;
            }
            return (int) ((packed[i / PER_LONG] >>> SHIFTS[i % PER_LONG]) & MASK) + OFFSET;
        }

        int compareWith(Text other) {
            for (int i = 0; i < LONGS; i++) {
                if (packed[i] != other.packed[i]) {
                    return packed[i] < other.packed[i] ? -1 : 1;
                }
            }
            return 0;
        }

        /** NONE for a text of blanks alone. */
        int lastInk() {
            for (int i = length - 1; i >= 0; i--) {
                if (characterAt(i) != BLANK) {
                    return i;
                }
            }
            return NONE;
        }

        boolean beginsWithBlanks(int n) {
            for (int i = 0; i < n && i < length; i++) {
                if (characterAt(i) != BLANK) {
                    return false;
                }
            }
            return true;
        }
    }

    /** A text in the making: what goes beyond a line's length is dropped, and told. */
    private static final class Draft {
        private final int[] characters = new int[MAX_CHARACTERS];
        private int length;
        private boolean over;

        void begin() {
            length = 0;
            over = false;
        }

        void add(int c) {
            if (length < MAX_CHARACTERS) {
                characters[length] = c;
                length++;
            } else {
                over = true;
            }
        }

        void addBlanks(int n) {
            for (int i = 0; i < n; i++) {
                add(BLANK);
            }
        }

        void addPart(Text text, int from, int end) {
            for (int i = Math.max(0, from); i < end && i < text.length; i++) {
                add(text.characterAt(i));
            }
        }

        void addPhrase(Phrase phrase) {
            for (int i = 0; i < phrase.size; i++) {
                add(phrase.characters[i]);
            }
        }

        boolean isOver() {
            return over;
        }

        /** The old text itself if it has these characters already: a new one would take room for nothing. */
        Text finish(Text old) {
            return isLike(old) ? old : new Text(characters, length);
        }

        private boolean isLike(Text text) {
            if (length != text.length) {
                return false;
            }
            for (int i = 0; i < length; i++) {
                if (characters[i] != text.characterAt(i)) {
                    return false;
                }
            }
            return true;
        }
    }

    /** What is looked for, or what it is replaced by. */
    private static final class Phrase {
        final int[] characters = new int[MAX_PHRASE];
        int size;

        void add(int c) {
            if (size < MAX_PHRASE) {
                characters[size] = c;
                size++;
            }
        }

        boolean standsIn(Text text, int place) {
            if (place < 0 || place + size > text.length) {
                return false;
            }
            for (int i = 0; i < size; i++) {
                if (text.characterAt(place + i) != characters[i]) {
                    return false;
                }
            }
            return true;
        }

        int firstIn(Text text, int from) {
            for (int i = from; i + size <= text.length; i++) {
                if (standsIn(text, i)) {
                    return i;
                }
            }
            return NONE;
        }

        int lastIn(Text text, int from) {
            for (int i = Math.min(from, text.length - size); i >= 0; i--) {
                if (standsIn(text, i)) {
                    return i;
                }
            }
            return NONE;
        }
    }

    /** Lines as they stand, with their marks: the present ones, or those of a kept state. */
    private static final class Sheet {
        private final Text[] texts = new Text[MAX_LINES + 1];
        private final int[] marks = new int[MAX_LINES + 1];
        int size;

        Sheet(Text blank) {
            for (int i = 0; i <= MAX_LINES; i++) {
                texts[i] = blank;
            }
        }

        boolean has(int line) {
            return line >= 1 && line <= size;
        }

        Text textOf(int line) {
            return texts[has(line) ? line : 0];
        }

        int lastOf(int first, int n) {
            return Math.min(size, first + n - 1);
        }

        void setText(int line, Text text) {
            if (has(line)) {
                texts[line] = text;
            }
        }

        void clearLine(int line, Text blank) {
            if (has(line)) {
                texts[line] = blank;
                marks[line] = 0;
            }
        }

        boolean isMarked(int line, int mark) {
            return has(line) && (marks[line] & mark) != 0;
        }

        void unmark(int line, int mark) {
            if (has(line)) {
                marks[line] &= ~mark;
            }
        }

        /** How many had not been marked. */
        int markLines(int first, int last, int mark) {
            int fresh = 0;
            for (int i = Math.max(1, first); i <= last && i <= size; i++) {
                if ((marks[i] & mark) == 0) {
                    marks[i] |= mark;
                    fresh++;
                }
            }
            return fresh;
        }

        int marked(int mark) {
            int found = 0;
            for (int i = 1; i <= size; i++) {
                if ((marks[i] & mark) != 0) {
                    found++;
                }
            }
            return found;
        }

        int shownOn(int row) {
            int rows = 0;
            for (int i = 1; i <= size; i++) {
                boolean excluded = isMarked(i, EXCLUDED);
                if (!excluded || !isMarked(i - 1, EXCLUDED)) {
                    rows++;
                }
                if (rows == row) {
                    return excluded ? -excludedTogether(i) : i;
                }
            }
            return 0;
        }

        private int excludedTogether(int first) {
            int together = 0;
            for (int i = first; isMarked(i, EXCLUDED) && i <= MAX_LINES; i++) {
                together++;
            }
            return together;
        }

        void take(Sheet from, int first, int last, int target) {
            int shift = target - first;
            for (int i = Math.max(1, first); i <= last && i <= MAX_LINES; i++) {
                int line = i + shift;
                if (line >= 1 && line <= MAX_LINES) {
                    texts[line] = from.texts[i];
                    marks[line] = from.marks[i];
                }
            }
        }

        void become(Sheet other) {
            take(other, 1, other.size, 1);
            size = other.size;
        }

        boolean isLike(Sheet other) {
            if (size != other.size) {
                return false;
            }
            for (int i = 1; i <= size; i++) {
                boolean same = texts[i] == other.texts[i] || texts[i].compareWith(other.texts[i]) == 0;
                if (!same || marks[i] != other.marks[i]) {
                    return false;
                }
            }
            return true;
        }

        void openGap(int target, int n) {
            for (int i = size; i >= target && i >= 1 && i + n <= MAX_LINES; i--) {
                texts[i + n] = texts[i];
                marks[i + n] = marks[i];
            }
            size = Math.min(MAX_LINES, size + n);
        }

        void closeGap(int target, int n) {
            for (int i = Math.max(1, target); i + n <= size; i++) {
                texts[i] = texts[i + n];
                marks[i] = marks[i + n];
            }
            size = Math.max(0, size - n);
        }
    }

    /** The present lines and the cursor, which stays with its line (0 is nowhere) through all that is done to them. */
    private static final class Page {
        private final Text blank;
        private final Draft draft = new Draft();
        private final Sheet scratch;
        private final int[] order = new int[MAX_LINES];
        final Sheet sheet;
        int cursorLine;
        int cursorPlace;

        Page(Text blank) {
            this.blank = blank;
            sheet = new Sheet(blank);
            scratch = new Sheet(blank);
        }

        boolean hasRoomFor(int n) {
            return sheet.size + n <= MAX_LINES;
        }

        boolean cursorIsSomewhere() {
            return sheet.has(cursorLine) && cursorPlace >= 0 && cursorPlace < sheet.textOf(cursorLine).length;
        }

        void loseCursor() {
            cursorLine = 0;
            cursorPlace = 0;
        }

        void append(int line, int c) {
            Text old = sheet.textOf(line);
            draft.begin();
            draft.addPart(old, 0, old.length);
            draft.add(c);
            sheet.setText(line, draft.finish(old));
        }

        void insertBlanks(int target, int n) {
            sheet.openGap(target, n);
            pushCursor(target, n);
            for (int i = 0; i < n; i++) {
                sheet.clearLine(target + i, blank);
            }
        }

        void remove(int first, int last) {
            int n = last - first + 1;
            sheet.closeGap(first, n);
            if (cursorLine > last) {
                cursorLine -= n;
            } else if (cursorLine >= first) {
                loseCursor();
            }
        }

        void copyLines(int first, int last, int times, int target) {
            int n = last - first + 1;
            scratch.take(sheet, first, last, 1);
            sheet.openGap(target, n * times);
            pushCursor(target, n * times);
            for (int i = 0; i < times; i++) {
                sheet.take(scratch, 1, n, target + i * n);
            }
        }

        /** The lines come ahead of the one that has the target's number now. */
        void moveLines(int first, int last, int target) {
            int n = last - first + 1;
            int landing = target > last ? target - n : target;
            scratch.take(sheet, first, last, 1);
            sheet.closeGap(first, n);
            sheet.openGap(landing, n);
            sheet.take(scratch, 1, n, landing);
            cursorLine = movedLine(cursorLine, first, last, landing);
        }

        private static int movedLine(int line, int first, int last, int landing) {
            if (line >= first && line <= last) {
                return landing + line - first;
            }
            int n = last - first + 1;
            int closed = line > last ? line - n : line;
            return closed >= landing ? closed + n : closed;
        }

        private void pushCursor(int target, int n) {
            if (cursorLine >= target) {
                cursorLine += n;
            }
        }

        void shiftRight(int line, int n) {
            Text old = sheet.textOf(line);
            int last = old.lastInk();
            if (last != NONE && last + n >= MAX_CHARACTERS) {
                sheet.markLines(line, line, LOST);
                return;
            }
            draft.begin();
            draft.addBlanks(n);
            draft.addPart(old, 0, old.length);
            sheet.setText(line, draft.finish(old));
            sheet.unmark(line, LOST);
        }

        void shiftLeft(int line, int n) {
            Text old = sheet.textOf(line);
            if (!old.beginsWithBlanks(n)) {
                sheet.markLines(line, line, LOST);
                return;
            }
            draft.begin();
            draft.addPart(old, n, old.length);
            sheet.setText(line, draft.finish(old));
            sheet.unmark(line, LOST);
        }

        int seekOn(Phrase phrase, int line, int place) {
            for (int i = line; i <= sheet.size; i++) {
                int found = phrase.firstIn(sheet.textOf(i), i == line ? place : 0);
                if (found != NONE) {
                    return pointAt(i, found);
                }
            }
            return 0;
        }

        int seekBack(Phrase phrase, int line, int place) {
            for (int i = line; i >= 1; i--) {
                int found = phrase.lastIn(sheet.textOf(i), i == line ? place : MAX_CHARACTERS);
                if (found != NONE) {
                    return pointAt(i, found);
                }
            }
            return 0;
        }

        private int pointAt(int line, int place) {
            cursorLine = line;
            cursorPlace = place;
            sheet.unmark(line, EXCLUDED);
            return line;
        }

        int replaceAtCursor(Phrase phrase, Phrase by) {
            Text old = sheet.textOf(cursorLine);
            if (!cursorIsSomewhere() || !phrase.standsIn(old, cursorPlace)) {
                return 0;
            }
            draft.begin();
            draft.addPart(old, 0, cursorPlace);
            draft.addPhrase(by);
            draft.addPart(old, cursorPlace + phrase.size, old.length);
            if (!settleDraft(cursorLine)) {
                return 0;
            }
            if (by.size == 0) {
                loseCursor();
            } else {
                cursorPlace += by.size - 1;
            }
            return 1;
        }

        int replaceAll(Phrase phrase, Phrase by) {
            int times = 0;
            for (int i = 1; i <= sheet.size; i++) {
                if (!sheet.isMarked(i, EXCLUDED)) {
                    times += replaceInLine(i, phrase, by);
                }
            }
            return times;
        }

        private int replaceInLine(int line, Phrase phrase, Phrase by) {
            Text old = sheet.textOf(line);
            int times = 0;
            int next = 0;
            draft.begin();
            for (int i = 0; i < old.length; i++) {
                if (i < next) {
                    continue;
                }
                if (phrase.standsIn(old, i)) {
                    draft.addPhrase(by);
                    next = i + phrase.size;
                    times++;
                } else {
                    draft.add(old.characterAt(i));
                }
            }
            return times > 0 && settleDraft(line) ? times : 0;
        }

        private boolean settleDraft(int line) {
            if (draft.isOver()) {
                sheet.markLines(line, line, LOST);
                return false;
            }
            sheet.setText(line, draft.finish(sheet.textOf(line)));
            return true;
        }

        /** How many stand elsewhere then. */
        int sortLines(int first, int last) {
            int n = Math.min(MAX_LINES, last - first + 1);
            for (int i = 0; i < n; i++) {
                insertInOrder(first + i, i);
            }
            scratch.become(sheet);
            int cursor = cursorLine;
            int moved = 0;
            for (int i = 0; i < n; i++) {
                if (order[i] != first + i) {
                    sheet.take(scratch, order[i], order[i], first + i);
                    moved++;
                }
                if (order[i] == cursor) {
                    cursorLine = first + i;
                }
            }
            return moved;
        }

        /** A line comes behind all that are not greater, so that equal ones stay as they were. */
        private void insertInOrder(int line, int sorted) {
            Text text = sheet.textOf(line);
            int low = 0;
            int high = sorted;
            for (int i = 0; i <= sorted && low < high; i++) {
                int middle = (low + high) / 2;
                if (sheet.textOf(order[middle]).compareWith(text) <= 0) {
                    low = middle + 1;
                } else {
                    high = middle;
                }
            }
            for (int i = sorted; i > low; i--) {
                order[i] = order[i - 1];
            }
            order[low] = line;
        }
    }

    /**
     * The states ahead of the last acts, in a ring that has one place more, for a state whose act is not sure yet. A
     * place gets its sheet when it is come to first, and keeps it: most objects see few acts.
     */
    private static final class History {
        private static final int PLACES = MAX_ACTS + 1;

        private final Text blank;
        private final Sheet[] states = new Sheet[PLACES];
        private int next;
        int size;

        History(Text blank) {
            this.blank = blank;
        }

        void prepare(Sheet sheet) {
            stateAt(next).become(sheet);
        }

        void keepIfAnother(Sheet sheet) {
            if (!stateAt(next).isLike(sheet)) {
                keepPrepared();
            }
        }

        void keepPrepared() {
            next = (next + 1) % PLACES;
            size = Math.min(MAX_ACTS, size + 1);
        }

        boolean takeBack(Sheet sheet) {
            if (size == 0) {
                return false;
            }
            size--;
            next = (next + PLACES - 1) % PLACES;
            sheet.become(stateAt(next));
            return true;
        }

        private Sheet stateAt(int place) {
            if (states[place] == null) {
                states[place] = new Sheet(blank);
            }
            return states[place];
        }
    }

    /** What waits, by line numbers; 0 is no kind that waits, so it stands for what is not there. */
    private static final class Waiting {
        int sourceKind;
        int sourceFirst;
        int sourceLast;
        int placeKind;
        int placeLine;
        int blockKind;
        int blockLine;

        boolean isSourceGiven() {
            return sourceKind != 0;
        }

        boolean isPlaceGiven() {
            return placeKind != 0;
        }

        boolean isBlockOpen() {
            return blockKind != 0;
        }

        boolean isAny() {
            return isSourceGiven() || isPlaceGiven() || isBlockOpen();
        }

        void clear() {
            sourceKind = 0;
            placeKind = 0;
            blockKind = 0;
        }

        /** A block that is a source is open no longer. */
        void keepSource(int kind, int first, int last) {
            sourceKind = kind;
            sourceFirst = first;
            sourceLast = last;
            blockKind = 0;
        }

        void keepPlace(int kind, int line) {
            placeKind = kind;
            placeLine = line;
        }

        void keepBlock(int kind, int line) {
            blockKind = kind;
            blockLine = line;
        }
    }

    /** The macros' rows, and for each macro the set of those that its run comes to, itself among them. */
    private static final class Macros {
        private final int[] rows = new int[MACROS * MAX_MACRO_ROWS];
        private final int[] sizes = new int[MACROS];
        private final int[] reached = new int[MACROS];

        Macros() {
            for (int i = 0; i < MACROS; i++) {
                reached[i] = 1 << i;
            }
        }

        boolean has(int name) {
            return name >= 0 && name < MACROS;
        }

        boolean rowIsOutside(int row) {
            return row < 0 ? !has(-1 - row) : row % KINDS == RUN_MACRO;
        }

        boolean isFull(int name) {
            return sizeOf(name) >= MAX_MACRO_ROWS;
        }

        int sizeOf(int name) {
            return has(name) ? sizes[name] : 0;
        }

        int rowOf(int name, int i) {
            return has(name) && i >= 0 && i < sizes[name] ? rows[name * MAX_MACRO_ROWS + i] : 0;
        }

        /** False when the row would make a ring. */
        boolean addRow(int name, int row) {
            if (!has(name) || isFull(name)) {
                return false;
            }
            if (row < 0 && !join(name, -1 - row)) {
                return false;
            }
            rows[name * MAX_MACRO_ROWS + sizes[name]] = row;
            sizes[name]++;
            return true;
        }

        private boolean join(int name, int other) {
            if (!has(other) || (reached[other] & (1 << name)) != 0) {
                return false;
            }
            for (int i = 0; i < MACROS; i++) {
                if ((reached[i] & (1 << name)) != 0) {
                    reached[i] |= reached[other];
                }
            }
            return true;
        }
    }

    /** No call reads a member's text, so that only its number of lines is kept. */
    private static final class Members {
        private final int[] editions = new int[MEMBERS];
        private final int[] sizes = new int[MEMBERS];

        boolean has(int member) {
            return member >= 0 && member < MEMBERS;
        }

        boolean store(int member, int edition, int size) {
            if (!has(member) || editions[member] != edition) {
                return false;
            }
            editions[member]++;
            sizes[member] = size;
            return true;
        }

        int editionOf(int member) {
            return has(member) ? editions[member] : NONE;
        }

        int linesOf(int member) {
            return has(member) ? sizes[member] : NONE;
        }
    }

    /** The way from panel 0 to the present one; it is never longer than the calls that an object is used for. */
    private static final class Panels {
        private final int[] way = new int[MAX_CALLS];
        private int steps;

        int current() {
            return steps == 0 ? 0 : way[steps - 1];
        }

        void goTo(int panel) {
            if (steps < MAX_CALLS) {
                way[steps] = panel;
                steps++;
            }
        }

        void goBack() {
            if (steps > 0) {
                steps--;
            }
        }
    }
}
