import java.util.Arrays;

/** A press that prints what the writer was after; README.md says how to use it. */
public final class SetAsMeant {
    public static final int BAD = -1, FULL = -2, FINDING = -3, STATE = -4, SPENT = -6, NONE = -9;

    private static final int NOTHING = 1, BEYOND = 2, UNLIKE = 3, NOUGHT = 4, SIZE = 5;
    private static final int LAW = 0, BLOT = 1, DOUBLE = 2, SHY = 3, SLY = 4, INKED = 5, KINDS = 6;
    private static final int ROWS = 6, TEXTS = 4, KEPT = 3, LAWS = 8, DEEDS = 40;
    private static final int ROW_MOST = 40, TEXT_MOST = 60;
    private static final int SIGNS = 6, SIGN_SETS = 64, LAW_SETS = 256;
    private static final int SHEET_MOST = 8, OUT_MOST = 16;
    private static final int WRITTEN_MOST = 6, SHORT_MOST = 4, SHORT_SHEETS = 1296;
    /** SLOTS is a power of two, SPREAD odd: see Alikes. */
    private static final int SLOTS = 2048, SPREAD = -1640531535;
    private static final int TIMES_MOST = 9, REST_TIMES = 60, DEPTH_MOST = 3, PARTS = 12;
    private static final int LOTS_MOST = 20, SEED_MOST = 2147483646;
    private static final int BLANK = 32, FIRST_SIGN = 65;
    /** Stands for the sign behind the last one, which nobody wrote. */
    private static final int END = 6;
    private static final int MISSING = -1;
    private static final int ROUNDS = 200;
    /** The letters of the KINDS, by the KINDS' numbers. */
    private static final int[] LETTERS = {108, 98, 100, 115, 117, 105};
    /** Sets of SIGNS are 0 to 63, so a long is a set of them: here all that have a SIGN, by SIGNS. */
    private static final long[] HAVING = {0xAAAAAAAAAAAAAAAAL, 0xCCCCCCCCCCCCCCCCL, 0xF0F0F0F0F0F0F0F0L,
        0xFF00FF00FF00FF00L, 0xFFFF0000FFFF0000L, 0xFFFFFFFF00000000L};

    private final Row[] rows = new Row[ROWS];
    private final Row[] texts = new Row[TEXTS];
    private final Reader reader = new Reader();
    private final Press now = new Press();
    private final Press[] kept = new Press[KEPT];
    private final Writings writings = new Writings();
    private final Alikes alikes = new Alikes();
    private final Row scratch = new Row(OUT_MOST);
    private final Trial trial = new Trial();
    private final Law spare = new Law();
    private final long[] seen = new long[REST_TIMES + 1];
    private final int[] answered = new int[SIZE + 1];
    private int latest = 0;
    private int told = 0;
    private long above = 0;
    private long below = 1;

    public SetAsMeant() {
        for (int r = 0; r < rows.length; r++) {
            rows[r] = new Row(ROW_MOST);
        }
        for (int t = 0; t < texts.length; t++) {
            texts[t] = new Row(TEXT_MOST);
        }
        for (int k = 0; k < kept.length; k++) {
            kept[k] = new Press();
        }
    }

    // ---- 1 rows, texts, presses

    public int row(int r, int n) {
        Row row = rowOf(r);
        if (row == null || n > ROW_MOST) {
            return BAD;
        }
        if (n < 0) {
            return answer(SIZE);
        }
        row.renew(n, 0);
        return n;
    }

    public int lay(int r, int i, int v) {
        Row row = rowOf(r);
        if (row == null) {
            return BAD;
        }
        if (!row.isThere()) {
            return answer(NOTHING);
        }
        if (!row.hasPlace(i)) {
            return answer(BEYOND);
        }
        told = row.cell(i);
        row.change(i, v);
        return 1;
    }

    public int at(int r, int i) {
        Row row = rowOf(r);
        if (row == null) {
            return BAD;
        }
        if (!row.isThere()) {
            return answer(NOTHING);
        }
        if (!row.hasPlace(i)) {
            return answer(BEYOND);
        }
        told = row.cell(i);
        return 1;
    }

    public int tear(int r) {
        Row row = rowOf(r);
        if (row == null) {
            return BAD;
        }
        if (!row.isThere()) {
            return answer(NOTHING);
        }
        row.leave();
        return 1;
    }

    public int copy(int r, int i, int to, int j, int n) {
        Row from = rowOf(r);
        Row into = rowOf(to);
        if (from == null || into == null) {
            return BAD;
        }
        if (n < 0) {
            return answer(SIZE);
        }
        if (!from.isThere() || !into.isThere()) {
            return answer(NOTHING);
        }
        if (!from.hasPlaces(i, n) || !into.hasPlaces(j, n)) {
            return answer(BEYOND);
        }
        System.arraycopy(from.cells, i, into.cells, j, n);
        return 1;
    }

    public int mean(int r) {
        Row row = rowOf(r);
        if (row == null) {
            return BAD;
        }
        if (!row.isThere()) {
            return answer(NOTHING);
        }
        if (row.size == 0) {
            return answer(NOUGHT);
        }
        told = (int) (row.sum() / row.size);
        return 1;
    }

    public int text(int t, int n) {
        Row text = textOf(t);
        if (text == null || n > TEXT_MOST) {
            return BAD;
        }
        if (n < 0) {
            return answer(SIZE);
        }
        text.renew(n, BLANK);
        return n;
    }

    public int put(int t, int i, int v) {
        Row text = textOf(t);
        if (text == null) {
            return BAD;
        }
        if (!text.isThere()) {
            return answer(NOTHING);
        }
        if (!text.hasPlace(i)) {
            return answer(BEYOND);
        }
        int was = text.cell(i);
        text.change(i, (byte) v);
        return was + 1000;
    }

    public int fault(int t) {
        Row text = textOf(t);
        if (text == null) {
            return BAD;
        }
        if (!text.isThere()) {
            return answer(NOTHING);
        }
        return reader.read(text);
    }

    public int press(int t) {
        Row text = textOf(t);
        if (text == null) {
            return BAD;
        }
        if (!text.isThere()) {
            return answer(NOTHING);
        }
        if (reader.read(text) != NONE) {
            return STATE;
        }
        now.begin(reader);
        for (int k = 0; k < kept.length; k++) {
            kept[k].size = 0;
        }
        return now.size;
    }

    public int law(int k, int what) {
        Law law = now.numbered(k);
        if (law == null || what < 0 || what > 4) {
            return BAD;
        }
        told = law.tell(what);
        return 1;
    }

    public int mark(int k, int kind) {
        Law law = now.numbered(k);
        if (law == null || kind <= LAW || kind >= KINDS) {
            return BAD;
        }
        if (!law.isOf(kind)) {
            return answer(UNLIKE);
        }
        switch (kind) {
            case BLOT:
                return now.inksOf(law.x);
            case DOUBLE:
                return now.lawsOf(law.x) - 1;
            case SHY:
                return now.chosen(law.x, law.z, now.onSet()) == k ? 1 : 0;
            case SLY:
                return now.chosen(law.x, END, now.onSet()) == k ? 1 : 0;
            default:
                return now.outOfSign(law.y, END, now.onSet(), 0L) == packed(0L, law.y) ? 1 : 0;
        }
    }

    public int hush(int k, int is) {
        Law law = now.numbered(k);
        if (law == null || is < 0 || is > 1) {
            return BAD;
        }
        int was = law.isHushed ? 1 : 0;
        law.isHushed = is == 1;
        return was;
    }

    public int swap(int k, int l) {
        if (now.numbered(k) == null || now.numbered(l) == null) {
            return BAD;
        }
        now.exchange(k, l);
        return 1;
    }

    // ---- 2 what comes out

    public int set(int r, int to) {
        Row sheet = rowOf(r);
        Row into = rowOf(to);
        if (sheet == null || into == null) {
            return BAD;
        }
        if (refuses(sheet, SHEET_MOST)) {
            return FINDING;
        }
        into.unpack(now.outOf(sheet, now.onSet()));
        return into.size;
    }

    public int by(int r, int i) {
        Row sheet = rowOf(r);
        if (sheet == null || i < 0) {
            return BAD;
        }
        if (refuses(sheet, SHEET_MOST)) {
            return FINDING;
        }
        if (!sheet.hasPlace(i)) {
            return answer(BEYOND);
        }
        return now.chosen(sheet.cell(i), sheet.behind(i), now.onSet());
    }

    public int first(int r) {
        Row sheet = rowOf(r);
        if (sheet == null) {
            return BAD;
        }
        if (refuses(sheet, SHEET_MOST)) {
            return FINDING;
        }
        scratch.unpack(now.outOf(sheet, now.onSet()));
        int longer = Math.max(sheet.size, scratch.size);
        for (int i = 0; i < longer; i++) {
            if (sheet.cell(i) != scratch.cell(i)) {
                return i;
            }
        }
        return NONE;
    }

    public int again(int r, int n, int to) {
        Row sheet = rowOf(r);
        Row into = rowOf(to);
        if (sheet == null || into == null || n < 0 || n > TIMES_MOST) {
            return BAD;
        }
        if (refuses(sheet, SHEET_MOST)) {
            return FINDING;
        }
        int on = now.onSet();
        scratch.unpack(sheet.pack());
        for (int time = 0; time < n; time++) {
            if (scratch.size > SHEET_MOST) {
                return SPENT;
            }
            scratch.unpack(now.outOf(scratch, on));
        }
        into.unpack(scratch.pack());
        return into.size;
    }

    public int rests(int r) {
        Row sheet = rowOf(r);
        if (sheet == null) {
            return BAD;
        }
        if (refuses(sheet, SHEET_MOST)) {
            return FINDING;
        }
        int on = now.onSet();
        seen[0] = sheet.pack();
        scratch.unpack(seen[0]);
        for (int time = 1; time <= REST_TIMES; time++) {
            long out = now.outOf(scratch, on);
            int earlier = placeSeen(out, time);
            if (earlier != NONE) {
                told = time - earlier;
                return earlier;
            }
            scratch.unpack(out);
            if (scratch.size > SHEET_MOST) {
                return SPENT;
            }
            seen[time] = out;
        }
        return SPENT;
    }

    public int same(int r, int q) {
        Row sheet = rowOf(r);
        Row other = rowOf(q);
        if (sheet == null || other == null) {
            return BAD;
        }
        if (refuses(sheet, SHEET_MOST) || refuses(other, SHEET_MOST)) {
            return FINDING;
        }
        int on = now.onSet();
        return now.outOf(sheet, on) == now.outOf(other, on) ? 1 : 0;
    }

    // ---- 3 what was written

    public int meant(int r, int n) {
        Row out = rowOf(r);
        if (out == null || n < 0 || n > WRITTEN_MOST) {
            return BAD;
        }
        if (refuses(out, OUT_MOST)) {
            return FINDING;
        }
        writings.know(now);
        writings.aim(out.pack(), n);
        tell(writings.many(n), 1);
        return 1;
    }

    public int smallest(int r, int to) {
        return believed(r, 1, to);
    }

    public int outs(int n) {
        if (n < 0 || n > SHORT_MOST) {
            return BAD;
        }
        writings.know(now);
        alikes.gather(writings, n);
        return alikes.unlike;
    }

    public int twins(int n, int r) {
        Row into = rowOf(r);
        if (into == null || n < 0 || n > SHORT_MOST) {
            return BAD;
        }
        writings.know(now);
        alikes.gather(writings, n);
        if (alikes.firstTwin == NONE) {
            return NONE;
        }
        into.renew(0, 0);
        into.addSheet(alikes.firstTwin, n);
        into.addSheet(alikes.secondTwin, n);
        return 1;
    }

    public int harmless(int set, int n) {
        if (set < 0 || set >= SIGN_SETS || n < 0 || n > WRITTEN_MOST) {
            return BAD;
        }
        writings.know(now);
        tell(writings.manyWithout(set, n), 1);
        return 1;
    }

    public int believed(int r, int depth, int to) {
        Row out = rowOf(r);
        Row into = rowOf(to);
        if (out == null || into == null || depth < 0 || depth > DEPTH_MOST) {
            return BAD;
        }
        if (refuses(out, OUT_MOST)) {
            return FINDING;
        }
        writings.know(now);
        long belief = out.pack();
        for (int d = 0; d < depth; d++) {
            belief = writings.earliest(belief);
            if (belief == NONE) {
                return NONE;
            }
        }
        into.unpack(belief);
        return into.size;
    }

    // ---- 4 what to forbid, what to hush

    public int forbid(int r) {
        Row out = rowOf(r);
        if (out == null) {
            return BAD;
        }
        if (refuses(out, OUT_MOST)) {
            return FINDING;
        }
        writings.know(now);
        long used = writings.usedFor(out.pack());
        int fewest = SIGNS + 1;
        int least = NONE;
        for (int signs = 0; signs < SIGN_SETS; signs++) {
            if (Integer.bitCount(signs) < fewest && (used & setsWithout(signs)) == 0) {
                fewest = Integer.bitCount(signs);
                least = signs;
            }
        }
        if (least == NONE) {
            return NONE;
        }
        told = least;
        return fewest;
    }

    public int silence(int r, int q) {
        Row sheet = rowOf(r);
        Row out = rowOf(q);
        if (sheet == null || out == null) {
            return BAD;
        }
        if (refuses(sheet, SHEET_MOST) || refuses(out, OUT_MOST)) {
            return FINDING;
        }
        int on = now.onSet();
        long aim = out.pack();
        int fewest = LAWS + 1;
        int least = NONE;
        trial.lie(sheet, now);
        for (int laws = 0; laws < LAW_SETS; laws++) {
            if ((laws & on) == laws && Integer.bitCount(laws) < fewest
                    && trial.outBy(on - laws) == aim) {
                fewest = Integer.bitCount(laws);
                least = laws;
            }
        }
        if (least == NONE) {
            return NONE;
        }
        told = least;
        return fewest;
    }

    public int which(int r, int q) {
        Row sheet = rowOf(r);
        Row out = rowOf(q);
        if (sheet == null || out == null) {
            return BAD;
        }
        if (refuses(sheet, SHEET_MOST) || refuses(out, OUT_MOST)) {
            return FINDING;
        }
        long aim = out.pack();
        int many = 0;
        int least = NONE;
        trial.lie(sheet, now);
        for (int laws = 0; laws < 1 << now.size; laws++) {
            if (trial.outBy(laws) == aim) {
                least = many == 0 ? laws : least;
                many++;
            }
        }
        told = least;
        return many;
    }

    public int kinds(int k, int r, int q) {
        Row sheet = rowOf(r);
        Row out = rowOf(q);
        Law law = now.numbered(k);
        if (law == null || sheet == null || out == null) {
            return BAD;
        }
        if (refuses(sheet, SHEET_MOST) || refuses(out, OUT_MOST)) {
            return FINDING;
        }
        int on = now.onSet();
        long aim = out.pack();
        int fit = 0;
        spare.take(law);
        for (int kind = 0; kind < KINDS; kind++) {
            law.become(kind, spare.x, Math.max(spare.y, 0), Math.max(spare.z, 0));
            if (now.outOf(sheet, on) == aim) {
                fit |= 1 << kind;
            }
        }
        law.take(spare);
        return fit;
    }

    // ---- 5 chances

    public int odds(int r, int q, int p) {
        Row sheet = rowOf(r);
        Row out = rowOf(q);
        if (sheet == null || out == null || p < 0 || p > PARTS) {
            return BAD;
        }
        if (refuses(sheet, SHEET_MOST) || refuses(out, OUT_MOST)) {
            return FINDING;
        }
        int on = now.onSet();
        long aim = out.pack();
        long sum = 0;
        long whole = 0;
        trial.lie(sheet, now);
        for (int failing = 0; failing < LAW_SETS; failing++) {
            long weight = weight(on, failing, p);
            whole += weight;
            if (weight > 0 && trial.outBy(on - failing) == aim) {
                sum += weight;
            }
        }
        tell(sum, whole);
        return 1;
    }

    public int mid(int r, int p) {
        Row sheet = rowOf(r);
        if (sheet == null || p < 0 || p > PARTS) {
            return BAD;
        }
        if (refuses(sheet, SHEET_MOST)) {
            return FINDING;
        }
        int on = now.onSet();
        long sum = 0;
        long whole = 0;
        trial.lie(sheet, now);
        for (int failing = 0; failing < LAW_SETS; failing++) {
            long weight = weight(on, failing, p);
            whole += weight;
            if (weight > 0) {
                sum += weight * signsIn(trial.outBy(on - failing));
            }
        }
        tell(sum, whole);
        return 1;
    }

    // ---- 6 printed truly

    public int print(int r) {
        Row sheet = rowOf(r);
        if (sheet == null) {
            return BAD;
        }
        if (refuses(sheet, SHEET_MOST)) {
            return FINDING;
        }
        if (now.done >= DEEDS) {
            return FULL;
        }
        scratch.unpack(now.outOf(sheet, now.onSet()));
        now.addDeed(scratch);
        return scratch.size;
    }

    public int ink(int sign) {
        if (sign < 0 || sign >= SIGNS) {
            return BAD;
        }
        return now.inksOf(sign);
    }

    public int undo(int n) {
        if (n < 0 || n > now.done) {
            return BAD;
        }
        int many = now.done - n;
        for (int i = 0; i < many; i++) {
            now.dropDeed(scratch);
        }
        return many;
    }

    public int drawer(int deed, int r) {
        Row into = rowOf(r);
        if (into == null || deed < 0 || deed >= now.done) {
            return BAD;
        }
        into.unpack(now.deed(deed));
        return into.size;
    }

    public int lots(int n, int seed) {
        if (n < 1 || n > LOTS_MOST || seed < 1 || seed > SEED_MOST) {
            return BAD;
        }
        int on = now.onSet();
        int many = 0;
        long lot = seed;
        for (int i = 0; i < n; i++) {
            lot = lotAfter(lot);
            int signs = (int) (lot % 9);
            scratch.renew(0, 0);
            for (int j = 0; j < signs; j++) {
                lot = lotAfter(lot);
                scratch.add((int) (lot / 16 % SIGNS));
            }
            if (now.outOf(scratch, on) == scratch.pack()) {
                many++;
            }
        }
        return many;
    }

    public int keep(int k) {
        if (k < 0 || k >= kept.length) {
            return BAD;
        }
        if (now.size == 0) {
            return STATE;
        }
        kept[k].take(now);
        return now.done;
    }

    public int on(int k) {
        if (k < 0 || k >= kept.length) {
            return BAD;
        }
        if (!kept[k].isKept()) {
            return answer(NOTHING);
        }
        now.take(kept[k]);
        return now.done;
    }

    // ---- 7 what is told

    public int asked() {
        return told;
    }

    public long upper() {
        return above;
    }

    public long lower() {
        return below;
    }

    public int count(int what) {
        switch (what) {
            case 0:
                return now.size;
            case 1:
                return Integer.bitCount(now.onSet());
            case 2:
                return now.done;
            case 3:
                return now.inksInAll();
            case 4:
                return now.lawsOfKind(DOUBLE);
            case 5:
                return now.lawsOfKind(SHY);
            case 6:
                return manyThere(rows);
            case 7:
                return manyThere(texts);
            case 8:
                return pressesKept();
            default:
                return BAD;
        }
    }

    public int finding() {
        return latest;
    }

    public int findings(int f) {
        if (f < NOTHING || f > SIZE) {
            return BAD;
        }
        return answered[f];
    }

    public long digest() {
        long h = 17;
        for (int what = 0; what <= 8; what++) {
            h = 31 * h + count(what);
        }
        h = now.digested(h, scratch);
        for (int k = 0; k < kept.length; k++) {
            h = 31 * h + (kept[k].isKept() ? kept[k].done : MISSING);
        }
        for (int r = 0; r < rows.length; r++) {
            h = rows[r].digested(h);
        }
        for (int t = 0; t < texts.length; t++) {
            h = texts[t].digested(h);
        }
        return h;
    }

    // ---- what the calls share

    private Row rowOf(int r) {
        return r >= 0 && r < rows.length ? rows[r] : null;
    }

    private Row textOf(int t) {
        return t >= 0 && t < texts.length ? texts[t] : null;
    }

    private int answer(int f) {
        if (f >= NOTHING && f < answered.length) {
            answered[f]++;
            latest = f;
        }
        return FINDING;
    }

    /** Whether a ROW can't be read as so many SIGNS at most; the FINDING is answered then. */
    private boolean refuses(Row row, int most) {
        if (!row.isThere()) {
            answer(NOTHING);
        } else if (row.size > most) {
            answer(SIZE);
        } else if (!row.holdsSigns()) {
            answer(UNLIKE);
        } else {
            return false;
        }
        return true;
    }

    private int placeSeen(long out, int times) {
        for (int i = 0; i < times && i < seen.length; i++) {
            if (seen[i] == out) {
                return i;
            }
        }
        return NONE;
    }

    /** All sets of SIGNS, by bits, that have none of these. */
    private static long setsWithout(int signs) {
        long sets = -1L;
        for (int sign = 0; sign < HAVING.length; sign++) {
            sets &= (signs >> sign & 1) == 1 ? ~HAVING[sign] : -1L;
        }
        return sets;
    }

    /** How many of all chances fall to just these LAWS failing; 0: some of them are not ON. */
    private static long weight(int on, int failing, int p) {
        if ((failing & on) != failing) {
            return 0;
        }
        long weight = 1;
        for (int k = 0; k < LAWS; k++) {
            if ((on >> k & 1) == 1) {
                weight *= (failing >> k & 1) == 1 ? p : PARTS - p;
            }
        }
        return weight;
    }

    private void tell(long over, long under) {
        long shared = over;
        long rest = under;
        for (int i = 0; i < ROUNDS && rest != 0; i++) {
            long next = shared % rest;
            shared = rest;
            rest = next;
        }
        if (shared > 0) {
            above = over / shared;
            below = under / shared;
        }
    }

    private static long lotAfter(long lot) {
        return lot * 48271 % 2147483647L;
    }

    private static int manyThere(Row[] all) {
        int many = 0;
        for (int i = 0; i < all.length; i++) {
            many += all[i].isThere() ? 1 : 0;
        }
        return many;
    }

    private int pressesKept() {
        int many = 0;
        for (int k = 0; k < kept.length; k++) {
            many += kept[k].isKept() ? 1 : 0;
        }
        return many;
    }

    /**
     * Signs are packed by three bits each, as 1 to 6, so that up to 16 of them are one number
     * and two sheets are alike just if their numbers are.
     */
    private static long packed(long signs, int sign) {
        return signs << 3 | sign + 1;
    }

    private static int signsIn(long signs) {
        int many = 0;
        for (long rest = signs; rest != 0 && many < OUT_MOST; rest >>= 3) {
            many++;
        }
        return many;
    }

    /** A ROW or a TEXT; one array serves it for good, so that no call makes a new one. */
    private static final class Row {
        private final int[] cells;
        private int size = MISSING;

        Row(int most) {
            cells = new int[Math.max(most, 0)];
        }

        boolean isThere() {
            return size >= 0;
        }

        boolean hasPlace(int i) {
            return i >= 0 && i < size && i < cells.length;
        }

        boolean hasPlaces(int i, int n) {
            return i >= 0 && n >= 0 && n <= size && i <= size - n;
        }

        int cell(int i) {
            return hasPlace(i) ? cells[i] : NONE;
        }

        /** The sign that was written right behind a place. */
        int behind(int i) {
            return hasPlace(i + 1) ? cells[i + 1] : END;
        }

        void change(int i, int v) {
            if (hasPlace(i)) {
                cells[i] = v;
            }
        }

        void leave() {
            size = MISSING;
        }

        void renew(int n, int v) {
            size = Math.min(Math.max(n, 0), cells.length);
            Arrays.fill(cells, v);
        }

        void add(int v) {
            if (size >= 0 && size < cells.length) {
                cells[size] = v;
                size++;
            }
        }

        /** Adds the sheet of n signs that has so many others of its size ahead of it. */
        void addSheet(int number, int n) {
            int place = 1;
            for (int i = 1; i < n && i < SHORT_MOST; i++) {
                place *= SIGNS;
            }
            for (int i = 0; i < n && place > 0; i++) {
                add(number / place % SIGNS);
                place /= SIGNS;
            }
        }

        long sum() {
            long sum = 0;
            for (int i = 0; i < size; i++) {
                sum += cell(i);
            }
            return sum;
        }

        boolean holdsSigns() {
            for (int i = 0; i < size; i++) {
                if (cell(i) < 0 || cell(i) >= SIGNS) {
                    return false;
                }
            }
            return true;
        }

        long pack() {
            long signs = 0;
            for (int i = 0; i < size && i < OUT_MOST; i++) {
                signs = packed(signs, cell(i));
            }
            return signs;
        }

        void unpack(long signs) {
            int many = signsIn(signs);
            renew(0, 0);
            for (int i = many - 1; i >= 0; i--) {
                add((int) (signs >> 3 * i & 7) - 1);
            }
        }

        long digested(long before) {
            long h = 31 * before + size;
            for (int i = 0; i < size; i++) {
                h = 31 * h + cell(i);
            }
            return h;
        }
    }

    /** A LAW of any KIND: KINDS change under kinds(), so they are numbers, not classes. */
    private static final class Law {
        private int kind = LAW;
        private int x = 0;
        private int y = NONE;
        private int z = NONE;
        private boolean isHushed = false;

        void become(int newKind, int newX, int newY, int newZ) {
            kind = newKind;
            x = newX;
            y = newY;
            z = newZ;
        }

        void take(Law other) {
            become(other.kind, other.x, other.y, other.z);
            isHushed = other.isHushed;
        }

        boolean isOf(int other) {
            return other == LAW || other == kind
                    || other == SHY && kind == SLY
                    || other == DOUBLE && kind == INKED;
        }

        boolean holds(int sign, int next) {
            if (sign != x) {
                return false;
            }
            return !isOf(SHY) || next == z || kind == SLY && next == END;
        }

        /** The signs ahead, with those behind them as which x is set. */
        long after(long signs) {
            switch (kind) {
                case BLOT:
                    return signs;
                case DOUBLE:
                    return packed(packed(signs, x), y);
                case INKED:
                    return packed(packed(signs, y), x);
                default:
                    return packed(signs, y);
            }
        }

        int tell(int what) {
            switch (what) {
                case 0:
                    return kind;
                case 1:
                    return x;
                case 2:
                    return y;
                case 3:
                    return z;
                default:
                    return isHushed ? 0 : 1;
            }
        }
    }

    /** Reads LAWS out of a TEXT; aside, as a TEXT with a FAULT must leave the PRESS alone. */
    private static final class Reader {
        private final Law[] items = new Law[LAWS];
        private int size = 0;

        Reader() {
            for (int k = 0; k < items.length; k++) {
                items[k] = new Law();
            }
        }

        /** The first place at which the TEXT can't go on as LAWS; NONE: it can. */
        int read(Row text) {
            size = 0;
            for (int i = 0; i < text.size; i++) {
                if (text.cell(i) == BLANK) {
                    continue;
                }
                int kind = kindOf(text.cell(i));
                if (kind == NONE || size >= items.length) {
                    return i;
                }
                int signs = signsOf(kind);
                for (int s = 1; s <= signs; s++) {
                    if (signAt(text, i + s) == NONE) {
                        return i + s;
                    }
                }
                items[size].become(kind, signAt(text, i + 1),
                        signs > 1 ? signAt(text, i + 2) : NONE,
                        signs > 2 ? signAt(text, i + 3) : NONE);
                size++;
                i += signs;
            }
            return NONE;
        }

        private static int kindOf(int letter) {
            for (int kind = 0; kind < LETTERS.length; kind++) {
                if (LETTERS[kind] == letter) {
                    return kind;
                }
            }
            return NONE;
        }

        private static int signsOf(int kind) {
            if (kind == BLOT) {
                return 1;
            }
            return kind == SHY || kind == SLY ? 3 : 2;
        }

        private static int signAt(Row text, int i) {
            int sign = text.cell(i) - FIRST_SIGN;
            return sign >= 0 && sign < SIGNS ? sign : NONE;
        }
    }

    /** LAWS in their order, with what was printed by them. */
    private static final class Press {
        private final Law[] laws = new Law[LAWS];
        private final long[] deeds = new long[DEEDS];
        private final int[] inks = new int[SIGNS];
        private int size = 0;
        private int done = 0;

        Press() {
            for (int k = 0; k < laws.length; k++) {
                laws[k] = new Law();
            }
        }

        void begin(Reader from) {
            size = Math.min(from.size, laws.length);
            for (int k = 0; k < size; k++) {
                laws[k].take(from.items[k]);
            }
            done = 0;
            Arrays.fill(inks, 0);
        }

        void take(Press other) {
            for (int k = 0; k < laws.length; k++) {
                laws[k].take(other.laws[k]);
            }
            System.arraycopy(other.deeds, 0, deeds, 0, deeds.length);
            System.arraycopy(other.inks, 0, inks, 0, inks.length);
            size = other.size;
            done = other.done;
        }

        /** No PRESS is kept without LAWS, so one without them is missing. */
        boolean isKept() {
            return size > 0;
        }

        Law numbered(int k) {
            return k >= 0 && k < size && k < laws.length ? laws[k] : null;
        }

        void exchange(int k, int l) {
            if (numbered(k) != null && numbered(l) != null) {
                Law law = laws[k];
                laws[k] = laws[l];
                laws[l] = law;
            }
        }

        int onSet() {
            int on = 0;
            for (int k = 0; k < size; k++) {
                on |= laws[k].isHushed ? 0 : 1 << k;
            }
            return on;
        }

        int lawsOf(int x) {
            int many = 0;
            for (int k = 0; k < size; k++) {
                many += laws[k].x == x ? 1 : 0;
            }
            return many;
        }

        int lawsOfKind(int kind) {
            int many = 0;
            for (int k = 0; k < size; k++) {
                many += laws[k].isOf(kind) ? 1 : 0;
            }
            return many;
        }

        /** The LAWS, by bits, that hold of a sign. */
        int holding(int sign, int next) {
            int holding = 0;
            for (int k = 0; k < size; k++) {
                holding |= laws[k].holds(sign, next) ? 1 << k : 0;
            }
            return holding;
        }

        /** The LAW by which a sign is set, were just these LAWS ON; NONE: by none. */
        int chosen(int sign, int next, int on) {
            for (int k = 0; k < size; k++) {
                if ((on >> k & 1) == 1 && laws[k].holds(sign, next)) {
                    return k;
                }
            }
            return NONE;
        }

        long outOfSign(int sign, int next, int on, long signs) {
            Law law = numbered(chosen(sign, next, on));
            return law == null ? packed(signs, sign) : law.after(signs);
        }

        long outOf(Row sheet, int on) {
            long out = 0;
            for (int i = 0; i < sheet.size && i < SHEET_MOST; i++) {
                out = outOfSign(sheet.cell(i), sheet.behind(i), on, out);
            }
            return out;
        }

        int inksOf(int sign) {
            return sign >= 0 && sign < inks.length ? inks[sign] : 0;
        }

        int inksInAll() {
            int many = 0;
            for (int sign = 0; sign < inks.length; sign++) {
                many += inks[sign];
            }
            return many;
        }

        long deed(int n) {
            return n >= 0 && n < done && n < deeds.length ? deeds[n] : 0;
        }

        void addDeed(Row out) {
            if (done < deeds.length) {
                deeds[done] = out.pack();
                done++;
                takeInk(out, 1);
            }
        }

        void dropDeed(Row room) {
            if (done > 0) {
                room.unpack(deed(done - 1));
                takeInk(room, -1);
                done--;
            }
        }

        private void takeInk(Row out, int each) {
            for (int i = 0; i < out.size; i++) {
                int sign = out.cell(i);
                if (sign >= 0 && sign < inks.length) {
                    inks[sign] += each;
                }
            }
        }

        long digested(long before, Row room) {
            long h = before;
            for (int k = 0; k < size; k++) {
                for (int what = 0; what <= 4; what++) {
                    h = 31 * h + laws[k].tell(what);
                }
            }
            for (int sign = 0; sign < inks.length; sign++) {
                h = 31 * h + inks[sign];
            }
            for (int n = 0; n < done; n++) {
                room.unpack(deed(n));
                h = room.digested(h);
            }
            return h;
        }
    }

    /** A SHEET under a PRESS, with what holds at each place: so sets of LAWS are tried on it fast. */
    private static final class Trial {
        private final int[] signs = new int[SHEET_MOST];
        private final int[] holding = new int[SHEET_MOST];
        private int size = 0;
        private Press press = null;

        void lie(Row sheet, Press under) {
            press = under;
            size = Math.min(sheet.size, signs.length);
            for (int i = 0; i < size; i++) {
                signs[i] = sheet.cell(i);
                holding[i] = under.holding(sheet.cell(i), sheet.behind(i));
            }
        }

        long outBy(int on) {
            long out = 0;
            for (int i = 0; i < size && press != null; i++) {
                int able = holding[i] & on;
                // the ones below the lowest bit are as many as its place; all, so no LAW, if there is none
                Law law = press.numbered(Integer.bitCount((able & -able) - 1));
                out = law == null ? packed(out, signs[i]) : law.after(out);
            }
            return out;
        }
    }

    /**
     * All sheets of a size at once. What a sign is set as hangs on it and the one behind it alone,
     * so ends of sheets are counted by their first sign and the place of the aim they start at.
     */
    private static final class Writings {
        private final long[] pieces = new long[SIGNS * (SIGNS + 1)];
        private final int[] sizes = new int[SIGNS * (SIGNS + 1)];
        /** How many ends, or the sets that they are written in. */
        private final long[] ways = new long[(WRITTEN_MOST + 1) * SIGNS * (OUT_MOST + 1)];
        private final int[] ends = new int[(WRITTEN_MOST + 1) * SIGNS];
        private long aim = 0;
        private int aimSize = 0;

        void know(Press press) {
            int on = press.onSet();
            for (int sign = 0; sign < SIGNS; sign++) {
                for (int next = 0; next <= SIGNS; next++) {
                    int piece = pieceOf(sign, next);
                    pieces[piece] = press.outOfSign(sign, next, on, 0L);
                    sizes[piece] = signsIn(pieces[piece]);
                }
            }
        }

        private static int pieceOf(int sign, int next) {
            int piece = sign * (SIGNS + 1) + next;
            return piece >= 0 && piece < SIGNS * (SIGNS + 1) ? piece : 0;
        }

        /** Counts the ends of up to n signs by which the aim's ends come out. */
        void aim(long out, int n) {
            aim = out;
            aimSize = signsIn(out);
            for (int size = 1; size <= n && size <= WRITTEN_MOST; size++) {
                for (int sign = 0; sign < SIGNS; sign++) {
                    for (int place = 0; place <= aimSize; place++) {
                        ways[wayOf(size, sign, place)] = waysFrom(size, sign, place);
                    }
                }
            }
        }

        private static int wayOf(int size, int sign, int place) {
            int way = (size * SIGNS + sign) * (OUT_MOST + 1) + place;
            return way >= 0 && way < (WRITTEN_MOST + 1) * SIGNS * (OUT_MOST + 1) ? way : 0;
        }

        private long waysFrom(int size, int sign, int place) {
            if (size == 1) {
                return placeAfter(sign, END, place) == aimSize ? 1 : 0;
            }
            long many = 0;
            for (int next = 0; next < SIGNS; next++) {
                int after = placeAfter(sign, next, place);
                many += after == NONE ? 0 : ways[wayOf(size - 1, next, after)];
            }
            return many;
        }

        /** The place of the aim behind what a sign is set as; NONE: that does not stand there. */
        private int placeAfter(int sign, int next, int place) {
            int piece = pieceOf(sign, next);
            int after = place + sizes[piece];
            if (after > aimSize) {
                return NONE;
            }
            long there = aim >> 3 * (aimSize - after) & (1L << 3 * sizes[piece]) - 1;
            return there == pieces[piece] ? after : NONE;
        }

        /** How many sheets of n signs come out as the aim. */
        long many(int n) {
            if (n == 0) {
                return aimSize == 0 ? 1 : 0;
            }
            long many = 0;
            for (int sign = 0; sign < SIGNS; sign++) {
                many += ways[wayOf(n, sign, 0)];
            }
            return many;
        }

        /** The sets of SIGNS, by bits, that sheets of up to 4 signs are written in and come out so. */
        long usedFor(long out) {
            aim = out;
            aimSize = signsIn(out);
            long sets = aimSize == 0 ? 1 : 0;
            for (int size = 1; size <= SHORT_MOST; size++) {
                for (int sign = 0; sign < SIGNS; sign++) {
                    for (int place = 0; place <= aimSize; place++) {
                        ways[wayOf(size, sign, place)] = usedFrom(size, sign, place);
                    }
                    sets |= ways[wayOf(size, sign, 0)];
                }
            }
            return sets;
        }

        private long usedFrom(int size, int sign, int place) {
            long sets = size == 1 && placeAfter(sign, END, place) == aimSize ? 1 : 0;
            for (int next = 0; next < SIGNS && size > 1; next++) {
                int after = placeAfter(sign, next, place);
                sets |= after == NONE ? 0 : ways[wayOf(size - 1, next, after)];
            }
            return sign < HAVING.length ? withSign(sets, sign, HAVING[sign]) : sets;
        }

        private static long withSign(long sets, int sign, long having) {
            return sets & having | (sets & ~having) << (1 << sign);
        }

        /** The first sheet that comes out so, packed; NONE: there is none. */
        long earliest(long out) {
            aim(out, WRITTEN_MOST);
            for (int n = 0; n <= WRITTEN_MOST; n++) {
                if (many(n) > 0) {
                    return earliestOf(n);
                }
            }
            return NONE;
        }

        private long earliestOf(int n) {
            long sheet = 0;
            int last = NONE;
            int place = 0;
            for (int left = n; left > 0; left--) {
                for (int sign = 0; sign < SIGNS; sign++) {
                    int after = last == NONE ? 0 : placeAfter(last, sign, place);
                    if (after != NONE && ways[wayOf(left, sign, after)] > 0) {
                        sheet = packed(sheet, sign);
                        last = sign;
                        place = after;
                        break;
                    }
                }
            }
            return sheet;
        }

        int manyWithout(int set, int n) {
            if (n == 0) {
                return 1;
            }
            int many = 0;
            for (int size = 1; size <= n && size <= WRITTEN_MOST; size++) {
                many = 0;
                for (int sign = 0; sign < SIGNS; sign++) {
                    ends[endOf(size, sign)] = endsWithout(set, size, sign);
                    many += ends[endOf(size, sign)];
                }
            }
            return many;
        }

        private static int endOf(int size, int sign) {
            int end = size * SIGNS + sign;
            return end >= 0 && end < (WRITTEN_MOST + 1) * SIGNS ? end : 0;
        }

        private int endsWithout(int set, int size, int sign) {
            if (size == 1) {
                return isWithout(set, sign, END) ? 1 : 0;
            }
            int many = 0;
            for (int next = 0; next < SIGNS; next++) {
                many += isWithout(set, sign, next) ? ends[endOf(size - 1, next)] : 0;
            }
            return many;
        }

        private boolean isWithout(int set, int sign, int next) {
            long piece = pieces[pieceOf(sign, next)];
            // signs are packed as 1 to 6, and 0 is none: so the set moves up by one
            return ((set << 1) >> (piece & 7) & 1) == 0 && ((set << 1) >> (piece >> 3 & 7) & 1) == 0;
        }

        /** What the sheet of n signs comes out as that has so many others of its size ahead. */
        long outOfNumbered(int number, int n) {
            long out = 0;
            int shift = 0;
            int next = END;
            int rest = number;
            for (int i = 0; i < n; i++) {
                int sign = rest % SIGNS;
                int piece = pieceOf(sign, next);
                out |= pieces[piece] << shift;
                shift += 3 * sizes[piece];
                next = sign;
                rest /= SIGNS;
            }
            return out;
        }
    }

    /** Sheets of one size that come out alike, found by a table of what came out so far. */
    private static final class Alikes {
        private final long[] outs = new long[SHORT_SHEETS];
        /** Numbers of sheets and 1 more; 0: free. */
        private final int[] slots = new int[SLOTS];
        private int unlike = 0;
        private int firstTwin = NONE;
        private int secondTwin = NONE;

        void gather(Writings writings, int n) {
            Arrays.fill(slots, 0);
            unlike = 0;
            firstTwin = NONE;
            secondTwin = NONE;
            int many = 1;
            for (int i = 0; i < n && i < SHORT_MOST; i++) {
                many *= SIGNS;
            }
            for (int number = 0; number < many && number < outs.length; number++) {
                outs[number] = writings.outOfNumbered(number, n);
                int earlier = earliestLike(number);
                if (earlier == number) {
                    unlike++;
                } else if (firstTwin == NONE || earlier < firstTwin) {
                    firstTwin = earlier;
                    secondTwin = number;
                }
            }
        }

        private int earliestLike(int number) {
            if (number < 0 || number >= outs.length) {
                return number;
            }
            // the upper bits of the product hang on every sign, so that like ends spread too
            int slot = (int) outs[number] * SPREAD >>> 21;
            for (int i = 0; i < slots.length; i++) {
                slot = slot + 1 & slots.length - 1;
                int there = slots[slot] - 1;
                if (there < 0 || there >= outs.length) {
                    slots[slot] = number + 1;
                    return number;
                }
                if (outs[there] == outs[number]) {
                    return there;
                }
            }
            return number;
        }
    }
}
