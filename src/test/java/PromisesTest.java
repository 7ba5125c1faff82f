import java.util.function.IntSupplier;

/** Each promise by itself: ordinary inputs, the edges that the document names, and wrong inputs. */
public final class PromisesTest extends Bench {
    public static void main(String[] args) {
        newObject();
        row();
        lay();
        at();
        tear();
        copy();
        mean();
        text();
        put();
        fault();
        press();
        law();
        mark();
        hush();
        swap();
        set();
        by();
        first();
        again();
        rests();
        same();
        meant();
        smallest();
        outs();
        twins();
        harmless();
        believed();
        forbid();
        silence();
        which();
        kinds();
        odds();
        mid();
        print();
        ink();
        undo();
        drawer();
        lots();
        keep();
        on();
        asked();
        upperAndLower();
        count();
        finding();
        digest();
        end();
    }

    // ---- the tools

    /** ROW r: missing, too long, of no SIGN, in the document's order; all else of the call is right. */
    private static void refusesNoSheet(SetAsMeant x, String what, int r, int most, IntSupplier call) {
        x.row(r, 1);
        x.tear(r);
        found(x, what + " of a missing ROW", NOTHING, call);
        x.row(r, most + 1);
        x.lay(r, 0, 6);
        found(x, what + " of too many, even if one is no SIGN", SIZE, call);
        x.row(r, most);
        x.lay(r, most - 1, 6);
        found(x, what + " of a 6", UNLIKE, call);
        x.lay(r, most - 1, -1);
        found(x, what + " of a -1", UNLIKE, call);
        x.lay(r, most - 1, MIN);
        found(x, what + " of the least int", UNLIKE, call);
        x.lay(r, most - 1, 5);
        long before = x.findings(NOTHING) + x.findings(SIZE) + x.findings(UNLIKE);
        call.getAsInt();
        due(what + " of as many as may be goes through",
            x.findings(NOTHING) + x.findings(SIZE) + x.findings(UNLIKE), before);
    }

    // ---- 1 rows, texts, presses

    private static void newObject() {
        where = "promise 1";
        SetAsMeant x = new SetAsMeant();
        for (int what = 0; what <= 8; what++) {
            due("count(" + what + ")", x.count(what), 0);
        }
        for (int sign = 0; sign < 6; sign++) {
            due("ink(" + sign + ")", x.ink(sign), 0);
        }
        for (int r = 0; r < 6; r++) {
            due("tear(" + r + ")", x.tear(r), FINDING);
        }
        for (int t = 0; t < 4; t++) {
            due("fault(" + t + ")", x.fault(t), FINDING);
        }
        for (int k = 0; k < 3; k++) {
            due("on(" + k + ")", x.on(k), FINDING);
        }
        due("law(0, 0)", x.law(0, 0), BAD);
        SetAsMeant y = new SetAsMeant();
        y.row(0, 5);
        due("another object's rows are its own", x.tear(0), FINDING);
    }

    private static void row() {
        where = "promise 2";
        SetAsMeant x = new SetAsMeant();
        due("row(0, 3)", x.row(0, 3), 3);
        due("its ints", signs(x, 0), "AAA");
        due("row(5, 40)", x.row(5, 40), 40);
        due("row(1, 0)", x.row(1, 0), 0);
        due("rows there", x.count(6), 3);
        x.lay(0, 1, 5);
        x.lay(0, 2, 4);
        bad(x, "row(-1, 1)", () -> x.row(-1, 1));
        bad(x, "row(6, 1)", () -> x.row(6, 1));
        bad(x, "row(0, 41)", () -> x.row(0, 41));
        bad(x, "row(0, MAX)", () -> x.row(0, MAX));
        bad(x, "row(6, -1)", () -> x.row(6, -1));
        found(x, "row(0, -1)", SIZE, () -> x.row(0, -1));
        found(x, "row(0, MIN)", SIZE, () -> x.row(0, MIN));
        found(x, "row(4, -1)", SIZE, () -> x.row(4, -1));
        due("a refused row stays", signs(x, 0), "AFE");
        due("row(0, 2) anew", x.row(0, 2), 2);
        due("its ints anew", signs(x, 0), "AA");
        due("row(0, 3) anew", x.row(0, 3), 3);
        due("its ints anew again", signs(x, 0), "AAA");
    }

    private static void lay() {
        where = "promise 3";
        SetAsMeant x = new SetAsMeant();
        x.row(2, 40);
        due("lay(2, 39, MIN)", x.lay(2, 39, MIN), 1);
        due("what it was", x.asked(), 0);
        due("lay(2, 39, 7)", x.lay(2, 39, 7), 1);
        due("what it was then", x.asked(), MIN);
        due("lay(2, 0, -1)", x.lay(2, 0, -1), 1);
        due("what that was", x.asked(), 0);
        due("at(2, 39)", x.at(2, 39), 1);
        due("what it is", x.asked(), 7);
        bad(x, "lay(-1, 0, 0)", () -> x.lay(-1, 0, 0));
        bad(x, "lay(6, 0, 0)", () -> x.lay(6, 0, 0));
        bad(x, "lay(6, -1, 0)", () -> x.lay(6, -1, 0));
        found(x, "lay(3, 0, 1)", NOTHING, () -> x.lay(3, 0, 1));
        found(x, "lay(3, -1, 1)", NOTHING, () -> x.lay(3, -1, 1));
        found(x, "lay(2, 40, 1)", BEYOND, () -> x.lay(2, 40, 1));
        found(x, "lay(2, -1, 1)", BEYOND, () -> x.lay(2, -1, 1));
        x.row(2, 3);
        found(x, "lay(2, 3, 1)", BEYOND, () -> x.lay(2, 3, 1));
        found(x, "lay(2, MAX, 1)", BEYOND, () -> x.lay(2, MAX, 1));
    }

    private static void at() {
        where = "promise 4";
        SetAsMeant x = new SetAsMeant();
        x.row(1, 2);
        x.lay(1, 1, -77);
        due("at(1, 1)", x.at(1, 1), 1);
        due("place 1", x.asked(), -77);
        due("at(1, 0)", x.at(1, 0), 1);
        due("place 0", x.asked(), 0);
        x.at(1, 1);
        bad(x, "at(-1, 0)", () -> x.at(-1, 0));
        bad(x, "at(6, 9)", () -> x.at(6, 9));
        found(x, "at(0, 0)", NOTHING, () -> x.at(0, 0));
        found(x, "at(0, -5)", NOTHING, () -> x.at(0, -5));
        found(x, "at(1, 2)", BEYOND, () -> x.at(1, 2));
        found(x, "at(1, -1)", BEYOND, () -> x.at(1, -1));
        found(x, "at(1, MIN)", BEYOND, () -> x.at(1, MIN));
    }

    private static void tear() {
        where = "promise 5";
        SetAsMeant x = new SetAsMeant();
        x.row(0, 2);
        x.row(5, 0);
        due("tear(5)", x.tear(5), 1);
        due("rows there", x.count(6), 1);
        due("tear(0)", x.tear(0), 1);
        found(x, "tear(0) again", NOTHING, () -> x.tear(0));
        found(x, "at(0, 0)", NOTHING, () -> x.at(0, 0));
        bad(x, "tear(-1)", () -> x.tear(-1));
        bad(x, "tear(6)", () -> x.tear(6));
    }

    private static void copy() {
        where = "promise 6";
        SetAsMeant x = new SetAsMeant();
        sheet(x, 0, "ABCDE");
        sheet(x, 1, "FFFF");
        due("copy(0, 1, 1, 2, 2)", x.copy(0, 1, 1, 2, 2), 1);
        due("ROW 1", signs(x, 1), "FFBC");
        due("ROW 0", signs(x, 0), "ABCDE");
        due("copy(0, 0, 0, 1, 4)", x.copy(0, 0, 0, 1, 4), 1);
        due("ROW 0 on itself, up", signs(x, 0), "AABCD");
        due("copy(0, 2, 0, 0, 3)", x.copy(0, 2, 0, 0, 3), 1);
        due("ROW 0 on itself, down", signs(x, 0), "BCDCD");
        sheet(x, 2, "EDCBA");
        due("all of it", x.copy(2, 0, 0, 0, 5), 1);
        due("ROW 0, all of it", signs(x, 0), "EDCBA");
        x.tear(2);
        due("none, at both ends", x.copy(0, 5, 1, 4, 0), 1);
        due("ROW 1 stays", signs(x, 1), "FFBC");
        bad(x, "copy(-1, 0, 0, 0, 0)", () -> x.copy(-1, 0, 0, 0, 0));
        bad(x, "copy(0, 0, 6, 0, -1)", () -> x.copy(0, 0, 6, 0, -1));
        found(x, "copy(0, 0, 1, 0, -1)", SIZE, () -> x.copy(0, 0, 1, 0, -1));
        found(x, "copy(2, 0, 3, 0, MIN)", SIZE, () -> x.copy(2, 0, 3, 0, MIN));
        found(x, "copy(0, 0, 2, 0, 0)", NOTHING, () -> x.copy(0, 0, 2, 0, 0));
        found(x, "copy(2, 0, 0, 9, 0)", NOTHING, () -> x.copy(2, 0, 0, 9, 0));
        found(x, "copy(0, 4, 1, 0, 2)", BEYOND, () -> x.copy(0, 4, 1, 0, 2));
        found(x, "copy(0, 0, 1, 3, 2)", BEYOND, () -> x.copy(0, 0, 1, 3, 2));
        found(x, "copy(0, -1, 1, 0, 1)", BEYOND, () -> x.copy(0, -1, 1, 0, 1));
        found(x, "copy(0, 0, 1, -1, 1)", BEYOND, () -> x.copy(0, 0, 1, -1, 1));
        found(x, "copy(0, 6, 1, 0, 0)", BEYOND, () -> x.copy(0, 6, 1, 0, 0));
        found(x, "copy(0, MAX, 1, 0, 1)", BEYOND, () -> x.copy(0, MAX, 1, 0, 1));
        found(x, "copy(0, 1, 1, 0, MAX)", BEYOND, () -> x.copy(0, 1, 1, 0, MAX));
    }

    private static void mean() {
        where = "promise 7";
        SetAsMeant x = new SetAsMeant();
        x.row(0, 3);
        x.lay(0, 0, 8);
        due("mean(0)", x.mean(0), 1);
        due("8 by 3", x.asked(), 2);
        x.lay(0, 0, -8);
        x.mean(0);
        due("-8 by 3", x.asked(), -2);
        for (int i = 0; i < 3; i++) {
            x.lay(0, i, MAX);
        }
        x.mean(0);
        due("the mean of the greatest ints", x.asked(), MAX);
        for (int i = 0; i < 3; i++) {
            x.lay(0, i, MIN);
        }
        x.mean(0);
        due("the mean of the least ints", x.asked(), MIN);
        x.row(1, 0);
        found(x, "mean(1)", NOUGHT, () -> x.mean(1));
        found(x, "mean(2)", NOTHING, () -> x.mean(2));
        bad(x, "mean(-1)", () -> x.mean(-1));
        bad(x, "mean(6)", () -> x.mean(6));
    }

    private static void text() {
        where = "promise 8";
        SetAsMeant x = new SetAsMeant();
        due("text(0, 2)", x.text(0, 2), 2);
        due("its first blank", x.put(0, 0, 65), 1032);
        due("its second blank", x.put(0, 1, 65), 1032);
        due("text(3, 60)", x.text(3, 60), 60);
        due("text(1, 0)", x.text(1, 0), 0);
        due("texts there", x.count(7), 3);
        bad(x, "text(-1, 1)", () -> x.text(-1, 1));
        bad(x, "text(4, -1)", () -> x.text(4, -1));
        bad(x, "text(0, 61)", () -> x.text(0, 61));
        found(x, "text(0, -1)", SIZE, () -> x.text(0, -1));
        found(x, "text(2, MIN)", SIZE, () -> x.text(2, MIN));
        due("text(0, 3) anew", x.text(0, 3), 3);
        due("a blank anew", x.put(0, 0, 0), 1032);
    }

    private static void put() {
        where = "promise 9";
        SetAsMeant x = new SetAsMeant();
        x.text(1, 60);
        due("put(1, 59, 200)", x.put(1, 59, 200), 1032);
        due("200 cut to a byte", x.put(1, 59, 256 + 7), 1000 - 56);
        due("263 cut to a byte", x.put(1, 59, MIN), 1007);
        due("the least int cut to a byte", x.put(1, 59, -128), 1000);
        due("-128", x.put(1, 59, 127), 872);
        due("127", x.put(1, 59, 127), 1127);
        bad(x, "put(-1, 0, 0)", () -> x.put(-1, 0, 0));
        bad(x, "put(4, 0, 0)", () -> x.put(4, 0, 0));
        found(x, "put(0, -1, 0)", NOTHING, () -> x.put(0, -1, 0));
        found(x, "put(1, 60, 0)", BEYOND, () -> x.put(1, 60, 0));
        found(x, "put(1, -1, 0)", BEYOND, () -> x.put(1, -1, 0));
        x.text(1, 2);
        found(x, "put(1, 2, 0)", BEYOND, () -> x.put(1, 2, 0));
    }

    private static void faultOf(String s, int want) {
        due("a fault of '" + s + "'", textOf(new SetAsMeant(), 2, s).fault(2), want);
    }

    private static void fault() {
        where = "promise 10";
        faultOf("", NONE);
        faultOf("    ", NONE);
        faultOf("lAB", NONE);
        faultOf("  lAB  bC dDE sEFA uBAC   iFA  ", NONE);
        faultOf("lABbCdDEsEFAuBACiFA", NONE);
        faultOf("lAB bC dDE sEFA uBAC iFA lCC bA", NONE);
        faultOf("lAB bC dDE sEFA uBAC iFA lCC bA ", NONE);
        faultOf("bAbBbCbDbEbFbAbB", NONE);
        faultOf("bAbBbCbDbEbFbAbBbC", 16);
        faultOf("bAbBbCbDbEbFbAbB  xC", 18);
        faultOf("bAbBbCbDbEbFbAbB b", 17);
        faultOf("A", 0);
        faultOf("  A", 2);
        faultOf("LAB", 0);
        faultOf("l", 1);
        faultOf("lA", 2);
        faultOf("l AB", 1);
        faultOf("lA B", 2);
        faultOf("lGB", 1);
        faultOf("lA@", 2);
        faultOf("lab", 1);
        faultOf("lABC", 3);
        faultOf("bAB", 2);
        faultOf("dA", 2);
        faultOf("dABC", 3);
        faultOf("iA ", 2);
        faultOf("sAB", 3);
        faultOf("sAB ", 3);
        faultOf("sABCD", 4);
        faultOf("uAB", 3);
        faultOf("uABCD", 4);
        faultOf("lAB\tbC", 3);
        faultOf("lAB " + (char) (108 + 128), 4);
        SetAsMeant x = pressOf("lAB");
        textOf(x, 1, "bC x");
        still(x, "fault(1)", 3, () -> x.fault(1));
        bad(x, "fault(-1)", () -> x.fault(-1));
        bad(x, "fault(4)", () -> x.fault(4));
        found(x, "fault(3)", NOTHING, () -> x.fault(3));
    }

    private static void press() {
        where = "promise 11";
        SetAsMeant x = textOf(new SetAsMeant(), 0, " lAB bC ");
        textOf(x, 1, "lAB bC x");
        x.text(2, 0);
        due("press(0)", x.press(0), 2);
        sheet(x, 0, "AC");
        x.print(0);
        x.hush(1, 1);
        x.keep(0);
        x.keep(2);
        still(x, "press(1) by a fault", STATE, () -> x.press(1));
        found(x, "press(3)", NOTHING, () -> x.press(3));
        bad(x, "press(-1)", () -> x.press(-1));
        bad(x, "press(4)", () -> x.press(4));
        due("press(0) anew", x.press(0), 2);
        due("all are ON", x.count(1), 2);
        due("DEEDS", x.count(2), 0);
        due("INKS in all", x.count(3), 0);
        due("ink(1)", x.ink(1), 0);
        due("kept ones", x.count(8), 0);
        due("on(0)", x.on(0), FINDING);
        due("ROWS stay", signs(x, 0), "AC");
        due("press(2) without laws", x.press(2), 0);
        due("LAWS", x.count(0), 0);
        textOf(x, 3, "bAbBbCbDbEbFbAbB");
        due("press(3) of eight", x.press(3), 8);
        x.put(3, 0, 'l');
        x.law(0, 0);
        due("a PRESS stays when its TEXT changes", x.asked(), 1);
    }

    private static void law() {
        where = "promise 12";
        SetAsMeant x = pressOf("lAB bC dDE sEFA uBAC iFA");
        x.hush(2, 1);
        lawIs(x, 0, 0, 0, 1, NONE, 1);
        lawIs(x, 1, 1, 2, NONE, NONE, 1);
        lawIs(x, 2, 2, 3, 4, NONE, 0);
        lawIs(x, 3, 3, 4, 5, 0, 1);
        lawIs(x, 4, 4, 1, 0, 2, 1);
        lawIs(x, 5, 5, 5, 0, NONE, 1);
        bad(x, "law(-1, 0)", () -> x.law(-1, 0));
        bad(x, "law(6, 0)", () -> x.law(6, 0));
        bad(x, "law(0, 5)", () -> x.law(0, 5));
        bad(x, "law(0, -1)", () -> x.law(0, -1));
        SetAsMeant none = new SetAsMeant();
        bad(none, "law(0, 0) without laws", () -> none.law(0, 0));
    }

    private static void mark() {
        where = "promise 13";
        String press = "lAB bC dDE sEFA uBAC iFA";
        String kinds = "lbdsui";
        boolean[][] is = new boolean[6][6];
        for (int k = 0; k < 6; k++) {
            is[k][k] = true;
        }
        is[4][3] = true;
        is[5][2] = true;
        for (int k = 0; k < 6; k++) {
            int law = k;
            SetAsMeant x = pressOf(press);
            bad(x, "mark(" + k + ", 0)", () -> x.mark(law, 0));
            bad(x, "mark(" + k + ", 6)", () -> x.mark(law, 6));
            bad(x, "mark(" + k + ", -1)", () -> x.mark(law, -1));
            for (int kind = 1; kind < 6; kind++) {
                int asked = kind;
                String what = "mark of " + kinds.charAt(k) + " as " + kinds.charAt(kind);
                if (is[k][kind]) {
                    due(what + " goes through", x.mark(k, kind) >= 0 ? 1 : 0, 1);
                } else {
                    found(x, what, UNLIKE, () -> x.mark(law, asked));
                }
            }
        }
        SetAsMeant y = pressOf(press);
        bad(y, "mark(6, 1)", () -> y.mark(6, 1));
        bad(y, "mark(-1, 1)", () -> y.mark(-1, 1));
        markOfBlotsAndDoubles();
        markOfShyOnes();
        markOfInkedOnes();
    }

    private static void markOfBlotsAndDoubles() {
        SetAsMeant x = pressOf("bA dAB iAC lAD sABC dBA lBB");
        due("no INKS of A", x.mark(0, 1), 0);
        x.hush(0, 1);
        sheet(x, 0, "AA");
        x.print(0);
        due("two INKS of A", x.mark(0, 1), 2);
        due("a DOUBLE among five of A", x.mark(1, 2), 4);
        due("an INKED one among five of A", x.mark(2, 2), 4);
        due("a DOUBLE among two of B", x.mark(5, 2), 1);
        due("a DOUBLE alone", pressOf("dAB").mark(0, 2), 0);
    }

    private static void markOfShyOnes() {
        SetAsMeant x = pressOf("sABC lCD uABC lAE");
        due("a SHY one of x, z", x.mark(0, 3), 1);
        due("a SLY one behind a SHY one", x.mark(2, 3), 0);
        due("a SLY one of x", x.mark(2, 4), 1);
        x.hush(0, 1);
        due("a hushed SHY one", x.mark(0, 3), 0);
        due("a SLY one behind a hushed one", x.mark(2, 3), 1);
        x.swap(2, 3);
        due("a SLY one of x behind a LAW", x.mark(3, 4), 0);
        due("a SLY one of x, z behind a LAW", x.mark(3, 3), 0);
        x.swap(0, 3);
        due("a SLY one ahead", x.mark(0, 4), 1);
        x.hush(0, 1);
        due("a hushed SLY one of x", x.mark(0, 4), 0);
    }

    private static void markOfInkedOnes() {
        due("y, by no LAW", pressOf("iAB").mark(0, 5), 1);
        due("y set otherwise", pressOf("iAB lBC").mark(0, 5), 0);
        due("y set as itself by a LAW", pressOf("iAB lBB").mark(0, 5), 1);
        due("y that is x", pressOf("iAA").mark(0, 5), 0);
        due("y blotted", pressOf("iAB bB").mark(0, 5), 0);
        due("y by a SLY one, being last", pressOf("iAB uBCA").mark(0, 5), 0);
        due("y by a SHY one, being last", pressOf("iAB sBCA").mark(0, 5), 1);
        SetAsMeant x = pressOf("iAB lBC");
        x.hush(1, 1);
        due("y by a hushed one", x.mark(0, 5), 1);
    }

    private static void hush() {
        where = "promise 14";
        SetAsMeant x = pressOf("lAB bC");
        due("hush(1, 1)", x.hush(1, 1), 0);
        due("hush(1, 1) again", x.hush(1, 1), 1);
        due("LAWS ON", x.count(1), 1);
        sheet(x, 0, "AC");
        x.set(0, 1);
        due("a hushed one does not hold", signs(x, 1), "BC");
        due("hush(1, 0)", x.hush(1, 0), 1);
        due("hush(1, 0) again", x.hush(1, 0), 0);
        x.set(0, 1);
        due("one that is ON again holds", signs(x, 1), "B");
        bad(x, "hush(2, 1)", () -> x.hush(2, 1));
        bad(x, "hush(-1, 1)", () -> x.hush(-1, 1));
        bad(x, "hush(0, 2)", () -> x.hush(0, 2));
        bad(x, "hush(0, -1)", () -> x.hush(0, -1));
    }

    private static void swap() {
        where = "promise 15";
        SetAsMeant x = pressOf("lAB sACD bA");
        x.hush(0, 1);
        due("swap(0, 2)", x.swap(0, 2), 1);
        lawIs(x, 0, 1, 0, NONE, NONE, 1);
        lawIs(x, 1, 3, 0, 2, 3, 1);
        lawIs(x, 2, 0, 0, 1, NONE, 0);
        due("swap(1, 1)", x.swap(1, 1), 1);
        lawIs(x, 1, 3, 0, 2, 3, 1);
        bad(x, "swap(0, 3)", () -> x.swap(0, 3));
        bad(x, "swap(3, 0)", () -> x.swap(3, 0));
        bad(x, "swap(-1, 0)", () -> x.swap(-1, 0));
        bad(x, "swap(0, -1)", () -> x.swap(0, -1));
    }

    // ---- 2 what comes out

    private static void comes(String press, String written, String out) {
        SetAsMeant x = sheet(pressOf(press), 0, written);
        x.row(5, 40);
        due(press + ": set of " + written, x.set(0, 5), out.length());
        due(press + ": " + written, signs(x, 5), out);
        due("what was written stays", signs(x, 0), written);
        x.set(0, 0);
        due(press + ": " + written + " onto itself", signs(x, 0), out);
    }

    private static void set() {
        where = "promise 16";
        comes("", "", "");
        comes("", "ABCDEFAB", "ABCDEFAB");
        comes("lAB", "ABA", "BBB");
        comes("bA", "ABA", "B");
        comes("bA", "AAAAAAAA", "");
        comes("dAB", "AAC", "ABABC");
        comes("dAB", "AAAAAAAA", "ABABABABABABABAB");
        comes("iAB", "AAC", "BABAC");
        comes("iEF", "EEEEEEEE", "FEFEFEFEFEFEFEFE");
        comes("sABC", "ACA", "BCA");
        comes("sABC", "ABAC", "ABBC");
        comes("uABC", "ACAAA", "BCAAB");
        comes("uABC", "AB", "AB");
        comes("uABA", "AAA", "BBB");
        comes("sABC lBC", "AB", "AC");
        comes("lCD sABC", "AC", "BD");
        comes("bC sABC", "AC", "B");
        comes("bC uABC", "AD", "AD");
        comes("lAB lAC", "A", "B");
        comes("sABC lAD", "ACA", "BCD");
        comes("lAD sABC", "AC", "DC");
        SetAsMeant x = pressOf("lAB lAC");
        x.hush(0, 1);
        sheet(x, 0, "A");
        x.set(0, 1);
        due("the first that is ON", signs(x, 1), "C");
        bad(x, "set(-1, 0)", () -> x.set(-1, 0));
        bad(x, "set(6, 0)", () -> x.set(6, 0));
        bad(x, "set(5, 6)", () -> x.set(5, 6));
        bad(x, "set(0, -1)", () -> x.set(0, -1));
        refusesNoSheet(x, "set", 3, 8, () -> x.set(3, 4));
    }

    private static void by() {
        where = "promise 17";
        SetAsMeant x = pressOf("sABC lAD uCAF bE");
        sheet(x, 0, "ACAEFC");
        int[] want = {0, NONE, 1, 3, NONE, 2};
        for (int i = 0; i < want.length; i++) {
            due("by(0, " + i + ")", x.by(0, i), want[i]);
        }
        x.hush(0, 1);
        due("by(0, 0) with 0 hushed", x.by(0, 0), 1);
        found(x, "by(0, 6)", BEYOND, () -> x.by(0, 6));
        found(x, "by(0, MAX)", BEYOND, () -> x.by(0, MAX));
        bad(x, "by(0, -1)", () -> x.by(0, -1));
        bad(x, "by(1, -1)", () -> x.by(1, -1));
        bad(x, "by(6, 0)", () -> x.by(6, 0));
        refusesNoSheet(x, "by", 3, 8, () -> x.by(3, 0));
        x.row(3, 2);
        x.lay(3, 0, 9);
        found(x, "by(3, 5), of no SIGN", UNLIKE, () -> x.by(3, 5));
    }

    private static void firstOf(String press, String written, int want) {
        due(press + ": first of " + written, sheet(pressOf(press), 0, written).first(0), want);
    }

    private static void first() {
        where = "promise 18";
        firstOf("lAB", "", NONE);
        firstOf("lAB", "CDEF", NONE);
        firstOf("lAA", "AA", NONE);
        firstOf("lAB", "BBA", 2);
        firstOf("lAB", "A", 0);
        firstOf("bA", "A", 0);
        firstOf("bA", "BA", 1);
        firstOf("bA", "AAB", 0);
        firstOf("bA", "BBAB", 2);
        firstOf("bA", "AA", 0);
        firstOf("dAB", "A", 1);
        firstOf("dAB", "AB", 2);
        firstOf("iAB", "A", 0);
        firstOf("dAB", "CCCCCCCA", 8);
        SetAsMeant x = pressOf("lAB");
        bad(x, "first(-1)", () -> x.first(-1));
        bad(x, "first(6)", () -> x.first(6));
        refusesNoSheet(x, "first", 3, 8, () -> x.first(3));
    }

    private static void again() {
        where = "promise 19";
        SetAsMeant x = sheet(pressOf("lAB lBC"), 0, "AB");
        String[] want = {"AB", "BC", "CC", "CC"};
        for (int n = 0; n < want.length; n++) {
            due("again(0, " + n + ", 1)", x.again(0, n, 1), 2);
            due("set " + n + " times", signs(x, 1), want[n]);
        }
        due("again(0, 9, 1)", x.again(0, 9, 1), 2);
        due("again onto itself", x.again(0, 2, 0), 2);
        due("set twice onto itself", signs(x, 0), "CC");
        bad(x, "again(0, 10, 1)", () -> x.again(0, 10, 1));
        bad(x, "again(0, -1, 1)", () -> x.again(0, -1, 1));
        bad(x, "again(6, 1, 1)", () -> x.again(6, 1, 1));
        bad(x, "again(0, 1, 6)", () -> x.again(0, 1, 6));
        bad(x, "again(5, 1, -1)", () -> x.again(5, 1, -1));
        refusesNoSheet(x, "again", 3, 8, () -> x.again(3, 0, 4));
        SetAsMeant y = sheet(pressOf("dAB dBA"), 0, "A");
        due("1, 2, 4, 8", y.again(0, 3, 1), 8);
        due("16 at the last time", y.again(0, 4, 1), 16);
        due("what came out", signs(y, 1), "ABBABAABBAABABBA");
        still(y, "16 ahead of the last time", SPENT, () -> y.again(0, 5, 1));
        still(y, "far ahead of the last time", SPENT, () -> y.again(0, 9, 1));
        y.lay(0, 0, 6);
        found(y, "no SIGN, ahead of SPENT", UNLIKE, () -> y.again(0, 5, 1));
    }

    private static void restsOf(String press, String written, int want, int round) {
        SetAsMeant x = sheet(pressOf(press), 0, written);
        due(press + ": rests of " + written, x.rests(0), want);
        due(press + ": round of " + written, x.asked(), round);
    }

    private static void rests() {
        where = "promise 20";
        restsOf("", "ABC", 0, 1);
        restsOf("lAB", "", 0, 1);
        restsOf("lAB", "A", 1, 1);
        restsOf("lAB", "B", 0, 1);
        restsOf("lAB lBA", "A", 0, 2);
        restsOf("lAB lBC lCB", "A", 1, 2);
        restsOf("lAB lBC lCA lDE lED", "AD", 0, 6);
        restsOf("bA", "ABA", 1, 1);
        restsOf("lAB lBC bC", "A", 3, 1);
        // 12 + 48 are 60 times
        restsOf("sBAA lBC uABA sBAA uCAB uBBB", "CCACCBBB", 12, 48);
        // 49 + 12 are 61 times
        SetAsMeant x = sheet(pressOf("uBAB uACC sBBC sCCC uACB sAAA uBAB lCB"), 0, "ACCCBCCB");
        still(x, "what comes again in 61 times", SPENT, () -> x.rests(0));
        SetAsMeant y = sheet(pressOf("dAB"), 0, "A");
        y.lay(0, 0, 0);
        still(y, "more and more", SPENT, () -> y.rests(0));
        sheet(y, 0, "ABBBBBBB");
        still(y, "9 at once", SPENT, () -> y.rests(0));
        y.lay(0, 0, 7);
        found(y, "no SIGN, ahead of SPENT", UNLIKE, () -> y.rests(0));
        bad(y, "rests(-1)", () -> y.rests(-1));
        bad(y, "rests(6)", () -> y.rests(6));
        refusesNoSheet(y, "rests", 3, 8, () -> y.rests(3));
    }

    private static void same() {
        where = "promise 21";
        SetAsMeant x = pressOf("lAB bC");
        sheet(x, 0, "ACA");
        sheet(x, 1, "BB");
        sheet(x, 2, "BBB");
        due("same(0, 1)", x.same(0, 1), 1);
        due("same(1, 0)", x.same(1, 0), 1);
        due("same(0, 2)", x.same(0, 2), 0);
        due("same(2, 2)", x.same(2, 2), 1);
        bad(x, "same(5, 6)", () -> x.same(5, 6));
        bad(x, "same(-1, 0)", () -> x.same(-1, 0));
        refusesNoSheet(x, "same, the first", 3, 8, () -> x.same(3, 0));
        refusesNoSheet(x, "same, the other", 3, 8, () -> x.same(0, 3));
        x.tear(3);
        x.row(4, 9);
        found(x, "missing, too long", NOTHING, () -> x.same(3, 4));
        found(x, "too long, missing", SIZE, () -> x.same(4, 3));
        x.row(4, 1);
        x.lay(4, 0, 6);
        found(x, "no SIGN, missing", UNLIKE, () -> x.same(4, 3));
    }

    // ---- 3 what was written

    private static void meantOf(String press, String out, long... want) {
        SetAsMeant x = sheet(pressOf(press), 0, out);
        for (int n = 0; n < want.length; n++) {
            due("meant(0, " + n + ")", x.meant(0, n), 1);
            due(press + ": how many of " + n + " come out as " + out, x.upper(), want[n]);
            due("lower()", x.lower(), 1);
        }
    }

    private static void meant() {
        where = "promise 22";
        meantOf("", "", 1, 0, 0, 0, 0, 0, 0);
        meantOf("", "AB", 0, 0, 1, 0, 0, 0, 0);
        meantOf("bA", "", 1, 1, 1, 1, 1, 1, 1);
        meantOf("bA", "B", 0, 1, 2, 3, 4, 5, 6);
        meantOf("bAbBbCbDbEbF", "", 1, 6, 36, 216, 1296, 7776, 46656);
        meantOf("lAB", "BBBBBB", 0, 0, 0, 0, 0, 0, 64);
        meantOf("dAB", "ABABABABABAB", 0, 0, 0, 0, 0, 0, 1);
        meantOf("dAB", "ABABABABABABABAB", 0, 0, 0, 0, 0, 0, 0);
        meantOf("dAB", "ABB", 0, 0, 1, 0);
        meantOf("sABC", "BC", 0, 0, 2, 0);
        meantOf("uABC", "BB", 0, 0, 2, 0);
        SetAsMeant x = sheet(pressOf("lAB"), 0, "A");
        sheet(x, 1, "B");
        x.odds(0, 1, 3);
        due("lower() ahead", x.lower(), 4);
        x.meant(1, 1);
        due("upper() behind", x.upper(), 2);
        due("lower() behind", x.lower(), 1);
        bad(x, "meant(0, 7)", () -> x.meant(0, 7));
        bad(x, "meant(5, -1)", () -> x.meant(5, -1));
        bad(x, "meant(6, 1)", () -> x.meant(6, 1));
        refusesNoSheet(x, "meant", 3, 16, () -> x.meant(3, 2));
    }

    private static void smallestOf(String press, String out, String want) {
        SetAsMeant x = sheet(pressOf(press), 0, out);
        sheet(x, 1, "FFFFFFFFF");
        due(press + ": smallest of " + out, x.smallest(0, 1), want.length());
        due(press + ": it", signs(x, 1), want);
        due("ROW 0", signs(x, 0), out);
    }

    private static void smallest() {
        where = "promise 23";
        smallestOf("", "", "");
        smallestOf("", "FEDCBA", "FEDCBA");
        smallestOf("lAB", "B", "A");
        smallestOf("lAB", "BCB", "ACA");
        smallestOf("bA", "", "");
        smallestOf("bA", "BC", "BC");
        smallestOf("dAB lCB lDB", "AB", "A");
        smallestOf("lEF lCF", "F", "C");
        smallestOf("sABC", "BC", "AC");
        smallestOf("uABC", "BB", "BA");
        smallestOf("dAB", "ABABABABABAB", "AAAAAA");
        SetAsMeant x = sheet(pressOf("dAB"), 0, "ABABABABABABAB");
        sheet(x, 1, "EE");
        still(x, "none of 6 signs", NONE, () -> x.smallest(0, 1));
        sheet(x, 0, "CCCCCCC");
        still(x, "7 signs as they are", NONE, () -> x.smallest(0, 1));
        sheet(x, 0, "A");
        still(x, "an A alone", NONE, () -> x.smallest(0, 1));
        sheet(x, 0, "AB");
        due("onto itself", x.smallest(0, 0), 1);
        due("it", signs(x, 0), "A");
        bad(x, "smallest(6, 0)", () -> x.smallest(6, 0));
        bad(x, "smallest(0, 6)", () -> x.smallest(0, 6));
        bad(x, "smallest(5, -1)", () -> x.smallest(5, -1));
        refusesNoSheet(x, "smallest", 3, 16, () -> x.smallest(3, 4));
    }

    private static void outsOf(String press, int... want) {
        SetAsMeant x = pressOf(press);
        for (int n = 0; n < want.length; n++) {
            int size = n;
            still(x, press + ": outs(" + n + ")", want[n], () -> x.outs(size));
        }
    }

    private static void outs() {
        where = "promise 24";
        outsOf("", 1, 6, 36, 216, 1296);
        outsOf("lAB", 1, 5, 25, 125, 625);
        outsOf("bA", 1, 6, 31, 156, 781);
        outsOf("dAB", 1, 6, 36, 216, 1296);
        outsOf("dAA dBB dCC dDD dEE dFF", 1, 6, 36, 216, 1296);
        outsOf("bAbBbCbDbEbF", 1, 1, 1, 1, 1);
        outsOf("lAFlBFlCFlDFlEF", 1, 1, 1, 1, 1);
        outsOf("dFF bA bB bC bD bE", 1, 2, 3, 4, 5);
        outsOf("sABC", 1, 6, 35, 204, 1189);
        SetAsMeant x = new SetAsMeant();
        due("outs(4) without LAWS", x.outs(4), 1296);
        textOf(x, 0, "lAB");
        x.press(0);
        due("outs(3) behind it", x.outs(3), 125);
        due("outs(1) behind it", x.outs(1), 5);
        bad(x, "outs(-1)", () -> x.outs(-1));
        bad(x, "outs(5)", () -> x.outs(5));
    }

    private static void twinsOf(String press, int n, String want) {
        SetAsMeant x = pressOf(press);
        sheet(x, 4, "CCCCCCCCCC");
        if (want == null) {
            still(x, press + ": twins(" + n + ", 4)", NONE, () -> x.twins(n, 4));
        } else {
            due(press + ": twins(" + n + ", 4)", x.twins(n, 4), 1);
            due(press + ": they", signs(x, 4), want);
        }
    }

    private static void twins() {
        where = "promise 25";
        twinsOf("", 0, null);
        twinsOf("", 1, null);
        twinsOf("", 4, null);
        twinsOf("lAB", 0, null);
        twinsOf("lAB", 1, "AB");
        twinsOf("lAB", 2, "AAAB");
        twinsOf("lFA", 1, "AF");
        twinsOf("lFA", 4, "AAAAAAAF");
        twinsOf("lEF", 2, "AEAF");
        twinsOf("lEF lBC", 1, "BC");
        // B, C are found ahead of A, F, but A is the first such first one
        twinsOf("lCB lFA", 1, "AF");
        twinsOf("lAD lBD", 1, "AB");
        twinsOf("bA bC", 1, "AC");
        twinsOf("dAB", 4, null);
        twinsOf("uABC", 2, "AAAB");
        twinsOf("sABC", 2, "ACBC");
        SetAsMeant x = pressOf("lAB");
        due("twins(4, 0)", x.twins(4, 0), 1);
        due("twins(1, 0) behind it", x.twins(1, 0), 1);
        due("they", signs(x, 0), "AB");
        x.hush(0, 1);
        still(x, "none behind it", NONE, () -> x.twins(1, 0));
        still(x, "none of 4 behind it", NONE, () -> x.twins(4, 0));
        bad(x, "twins(-1, 0)", () -> x.twins(-1, 0));
        bad(x, "twins(5, 0)", () -> x.twins(5, 0));
        bad(x, "twins(1, 6)", () -> x.twins(1, 6));
        bad(x, "twins(1, -1)", () -> x.twins(1, -1));
    }

    private static void harmlessOf(String press, int set, int n, long want) {
        SetAsMeant x = pressOf(press);
        due("harmless(" + set + ", " + n + ")", x.harmless(set, n), 1);
        due(press + ": how many of " + n + " without " + set, x.upper(), want);
        due("lower()", x.lower(), 1);
    }

    private static void harmless() {
        where = "promise 26";
        harmlessOf("", 0, 0, 1);
        harmlessOf("", 63, 0, 1);
        harmlessOf("", 0, 6, 46656);
        harmlessOf("", 63, 1, 0);
        harmlessOf("", 1, 2, 25);
        harmlessOf("", 33, 2, 16);
        harmlessOf("lAB", 2, 1, 4);
        harmlessOf("lAB", 1, 6, 46656);
        harmlessOf("bA", 1, 3, 216);
        harmlessOf("dAB", 1, 1, 5);
        harmlessOf("dAB", 2, 1, 4);
        harmlessOf("iAB", 1, 1, 5);
        harmlessOf("iAB", 2, 1, 4);
        harmlessOf("iEF", 32, 2, 16);
        harmlessOf("sABC", 2, 2, 24);
        harmlessOf("uABC", 2, 1, 4);
        harmlessOf("uABC", 2, 2, 19);
        SetAsMeant x = pressOf("lAB");
        bad(x, "harmless(-1, 1)", () -> x.harmless(-1, 1));
        bad(x, "harmless(64, 1)", () -> x.harmless(64, 1));
        bad(x, "harmless(0, -1)", () -> x.harmless(0, -1));
        bad(x, "harmless(0, 7)", () -> x.harmless(0, 7));
    }

    private static void believed() {
        where = "promise 27";
        SetAsMeant x = sheet(pressOf("lAB lBC"), 0, "C");
        String[] want = {"C", "B", "A"};
        for (int depth = 0; depth < 3; depth++) {
            due("believed(0, " + depth + ", 1)", x.believed(0, depth, 1), 1);
            due("what is", signs(x, 1), want[depth]);
        }
        still(x, "believed(0, 3, 1)", NONE, () -> x.believed(0, 3, 1));
        sheet(x, 0, "B");
        still(x, "none at 2, so none at 3", NONE, () -> x.believed(0, 3, 1));
        sheet(x, 0, "DEDEDEDEDEDEDEDE");
        due("16 at depth 0", x.believed(0, 0, 2), 16);
        due("they", signs(x, 2), "DEDEDEDEDEDEDEDE");
        sheet(x, 0, "C");
        due("onto itself", x.believed(0, 2, 0), 1);
        due("it", signs(x, 0), "A");
        SetAsMeant y = sheet(pressOf("dAB"), 0, "ABBB");
        due("depth 3", y.believed(0, 3, 1), 1);
        due("that", signs(y, 1), "A");
        bad(x, "believed(0, -1, 1)", () -> x.believed(0, -1, 1));
        bad(x, "believed(0, 4, 1)", () -> x.believed(0, 4, 1));
        bad(x, "believed(6, 1, 1)", () -> x.believed(6, 1, 1));
        bad(x, "believed(5, 1, 6)", () -> x.believed(5, 1, 6));
        refusesNoSheet(x, "believed", 3, 16, () -> x.believed(3, 0, 4));
    }

    // ---- 4 what to forbid, what to hush

    private static void forbidOf(String press, String out, int want, int which) {
        SetAsMeant x = sheet(pressOf(press), 0, out);
        due(press + ": forbid of " + out, x.forbid(0), want);
        due(press + ": which for " + out, x.asked(), which);
    }

    private static void forbid() {
        where = "promise 28";
        forbidOf("", "A", 1, 1);
        forbidOf("", "FE", 1, 16);
        forbidOf("", "ABCD", 1, 1);
        forbidOf("", "AAAAA", 0, 0);
        forbidOf("lAB", "A", 0, 0);
        forbidOf("lAB", "B", 2, 3);
        forbidOf("lAB lCB", "B", 3, 7);
        forbidOf("lABlCBlDBlEBlFB", "B", 6, 63);
        forbidOf("lAB", "BD", 1, 8);
        forbidOf("dAB", "ABABABAB", 1, 1);
        forbidOf("dAB", "ABABABABA", 0, 0);
        forbidOf("lEB lFA", "ABAB", 2, 18);
        forbidOf("bC", "A", 1, 1);
        forbidOf("sABC bC", "B", 2, 3);
        forbidOf("uABC bD", "B", 2, 3);
        forbidOf("lAC sBCA bA", "CA", 0, 0);
        SetAsMeant x = pressOf("bA");
        x.row(0, 1);
        x.lay(0, 0, 3);
        x.at(0, 0);
        x.row(0, 0);
        still(x, "an empty one", NONE, () -> x.forbid(0));
        bad(x, "forbid(-1)", () -> x.forbid(-1));
        bad(x, "forbid(6)", () -> x.forbid(6));
        refusesNoSheet(x, "forbid", 3, 16, () -> x.forbid(3));
    }

    /** All refusals of the calls that want a SHEET, then a ROW of up to 16. */
    private static void refusesSheetThenRow(SetAsMeant x, String what, Pair call) {
        sheet(x, 0, "A");
        bad(x, what + " of -1", () -> call.answer(-1, 0));
        bad(x, what + " of 6", () -> call.answer(6, 0));
        x.row(5, 1);
        x.tear(5);
        bad(x, what + " of a missing ROW and of 6", () -> call.answer(5, 6));
        bad(x, what + " as -1", () -> call.answer(0, -1));
        refusesNoSheet(x, what + ", the SHEET", 3, 8, () -> call.answer(3, 0));
        refusesNoSheet(x, what + ", the ROW", 3, 16, () -> call.answer(0, 3));
        x.tear(3);
        x.row(4, 9);
        found(x, what + ": too long, missing", SIZE, () -> call.answer(4, 3));
        found(x, what + ": missing, too long", NOTHING, () -> call.answer(3, 4));
        x.row(4, 1);
        x.lay(4, 0, -3);
        found(x, what + ": no SIGN, missing", UNLIKE, () -> call.answer(4, 3));
    }

    private interface Pair {
        int answer(int r, int q);
    }

    private static void silenceOf(String press, String written, String out, int want, int which) {
        SetAsMeant x = pair(press, written, out);
        due(press + ": silence of " + written + " as " + out, x.silence(0, 1), want);
        due(press + ": which", x.asked(), which);
    }

    private static void silence() {
        where = "promise 29";
        silenceOf("", "AB", "AB", 0, 0);
        silenceOf("lAB", "A", "B", 0, 0);
        silenceOf("lAB", "A", "A", 1, 1);
        silenceOf("lAB lAC", "A", "C", 1, 1);
        silenceOf("lAB lAC", "A", "A", 2, 3);
        silenceOf("dAB dBB", "AB", "ABB", 1, 1);
        silenceOf("iCB uCBA dBB", "BC", "BBC", 1, 4);
        silenceOf("lABlABlABlABlABlABlABlAB", "A", "A", 8, 255);
        SetAsMeant x = pair("lAB lAC", "A", "D");
        still(x, "by none", NONE, () -> x.silence(0, 1));
        x.hush(0, 1);
        sheet(x, 1, "B");
        still(x, "by one that is hushed", NONE, () -> x.silence(0, 1));
        sheet(x, 1, "A");
        due("of those that are ON", x.silence(0, 1), 1);
        due("which", x.asked(), 2);
        due("none is hushed by it", x.count(1), 1);
        refusesSheetThenRow(x, "silence", x::silence);
    }

    private static void whichOf(String press, String written, String out, int want, int first) {
        SetAsMeant x = pair(press, written, out);
        due(press + ": which of " + written + " as " + out, x.which(0, 1), want);
        due(press + ": the first", x.asked(), first);
        for (int k = 0; k < x.count(0); k++) {
            x.hush(k, 1);
        }
        x.at(0, 0);
        due(press + ": which, all hushed", x.which(0, 1), want);
        due(press + ": the first, all hushed", x.asked(), first);
    }

    private static void which() {
        where = "promise 30";
        whichOf("", "A", "A", 1, 0);
        whichOf("", "A", "B", 0, NONE);
        whichOf("lAB lAC", "A", "A", 1, 0);
        whichOf("lAB lAC", "A", "B", 2, 1);
        whichOf("lAB lAC", "A", "C", 1, 2);
        whichOf("lAB lAC", "A", "D", 0, NONE);
        whichOf("lAB lAC lDE", "A", "C", 2, 2);
        whichOf("lABlABlABlABlABlABlABlAB", "A", "B", 255, 1);
        whichOf("lABlABlABlABlABlABlABlAB", "C", "C", 256, 0);
        SetAsMeant x = pair("lAB lAC", "A", "D");
        refusesSheetThenRow(x, "which", x::which);
    }

    private static void kindsOf(String press, int k, String written, String out, int want) {
        SetAsMeant x = pair(press, written, out);
        still(x, press + ": kinds of " + k + ", " + written + " as " + out, want, () -> x.kinds(k, 0, 1));
    }

    private static void kinds() {
        where = "promise 31";
        kindsOf("lAB", 0, "A", "B", 1 | 16);
        kindsOf("lAB", 0, "A", "", 2);
        kindsOf("lAB", 0, "A", "AB", 4);
        kindsOf("lAB", 0, "A", "A", 8);
        kindsOf("lAB", 0, "A", "BA", 32);
        kindsOf("lAB", 0, "A", "C", 0);
        kindsOf("lAB", 0, "C", "C", 63);
        kindsOf("lAB", 0, "AA", "BA", 8);
        kindsOf("bC", 0, "C", "A", 1 | 16);
        kindsOf("bC", 0, "C", "CA", 4);
        kindsOf("bC", 0, "CA", "AA", 1 | 8 | 16);
        kindsOf("sABC", 0, "AC", "BC", 1 | 8 | 16);
        kindsOf("sABC", 0, "AC", "ABC", 4);
        kindsOf("uABC lAD", 0, "AD", "DD", 8 | 16);
        kindsOf("lAC uABC", 1, "A", "C", 63);
        SetAsMeant x = pair("lAB bC", "AC", "B");
        x.hush(0, 1);
        due("a hushed one, any way", x.kinds(0, 0, 1), 0);
        sheet(x, 1, "A");
        due("a hushed one, no way", x.kinds(0, 0, 1), 63);
        lawIs(x, 0, 0, 0, 1, NONE, 0);
        lawIs(x, 1, 1, 2, NONE, NONE, 1);
        bad(x, "kinds(-1, 0, 1)", () -> x.kinds(-1, 0, 1));
        bad(x, "kinds(2, 0, 1)", () -> x.kinds(2, 0, 1));
        bad(x, "kinds(2, 5, 1)", () -> x.kinds(2, 5, 1));
        refusesSheetThenRow(x, "kinds", (r, q) -> x.kinds(1, r, q));
    }

    // ---- 5 chances

    private static void oddsOf(String press, String written, String out, int p, long over, long under) {
        SetAsMeant x = pair(press, written, out);
        due("odds(0, 1, " + p + ")", x.odds(0, 1, p), 1);
        due(press + ": upper() of " + written + " as " + out + " by " + p, x.upper(), over);
        due(press + ": lower() of " + written + " as " + out + " by " + p, x.lower(), under);
    }

    private static void odds() {
        where = "promise 32";
        oddsOf("", "A", "A", 5, 1, 1);
        oddsOf("", "A", "B", 5, 0, 1);
        oddsOf("lAB", "A", "B", 3, 3, 4);
        oddsOf("lAB", "A", "A", 3, 1, 4);
        oddsOf("lAB", "A", "C", 3, 0, 1);
        oddsOf("lAB", "A", "B", 0, 1, 1);
        oddsOf("lAB", "A", "A", 0, 0, 1);
        oddsOf("lAB", "A", "B", 12, 0, 1);
        oddsOf("lAB", "A", "A", 12, 1, 1);
        oddsOf("lAB", "AAA", "BBB", 6, 1, 2);
        oddsOf("lAB", "AAA", "BAB", 6, 0, 1);
        oddsOf("lAB lAC", "A", "C", 6, 1, 4);
        oddsOf("lAB lBC", "AB", "BC", 1, 121, 144);
        oddsOf("dAB dBB", "AB", "ABB", 5, 35, 72);
        oddsOf("lABlBClCDlDElEFlFAlABlAB", "BCDEF", "CDEFA", 7, 3125, 248832);
        oddsOf("lABlABlABlABlABlABlABlAB", "A", "A", 11, 214358881L, 429981696L);
        SetAsMeant x = pair("lAB lAC", "A", "C");
        x.hush(0, 1);
        x.odds(0, 1, 2);
        due("a hushed one fails by no chance", x.upper() * 100 + x.lower(), 506);
        bad(x, "odds(0, 1, -1)", () -> x.odds(0, 1, -1));
        bad(x, "odds(0, 5, 13)", () -> x.odds(0, 5, 13));
        refusesSheetThenRow(x, "odds", (r, q) -> x.odds(r, q, 3));
    }

    private static void midOf(String press, String written, int p, long over, long under) {
        SetAsMeant x = sheet(pressOf(press), 0, written);
        due("mid(0, " + p + ")", x.mid(0, p), 1);
        due(press + ": upper() of " + written + " by " + p, x.upper(), over);
        due(press + ": lower() of " + written + " by " + p, x.lower(), under);
    }

    private static void mid() {
        where = "promise 33";
        midOf("", "ABC", 5, 3, 1);
        midOf("lAB", "", 5, 0, 1);
        midOf("bA", "A", 3, 1, 4);
        midOf("bA", "A", 0, 0, 1);
        midOf("bA", "A", 12, 1, 1);
        midOf("dAB", "AA", 4, 10, 3);
        midOf("dAB", "AAAAAAAA", 0, 16, 1);
        midOf("bA dAB", "AC", 6, 7, 4);
        SetAsMeant x = sheet(pressOf("bA dAB"), 0, "A");
        x.hush(0, 1);
        x.mid(0, 3);
        due("a hushed one fails by no chance", x.upper() * 100 + x.lower(), 704);
        bad(x, "mid(0, -1)", () -> x.mid(0, -1));
        bad(x, "mid(5, 13)", () -> x.mid(5, 13));
        bad(x, "mid(6, 1)", () -> x.mid(6, 1));
        bad(x, "mid(-1, 1)", () -> x.mid(-1, 1));
        refusesNoSheet(x, "mid", 3, 8, () -> x.mid(3, 1));
    }

    // ---- 6 printed truly

    private static void print() {
        where = "promise 34";
        SetAsMeant x = sheet(pressOf("dAB bC"), 0, "AC");
        due("print(0)", x.print(0), 2);
        due("DEEDS", x.count(2), 1);
        due("an INK of A", x.ink(0), 1);
        due("an INK of B", x.ink(1), 1);
        due("no INK of C", x.ink(2), 0);
        sheet(x, 0, "C");
        due("nothing comes out", x.print(0), 0);
        due("yet it is a DEED", x.count(2), 2);
        due("INKS in all", x.count(3), 2);
        refusesNoSheet(x, "print", 3, 8, () -> x.print(3));
        bad(x, "print(-1)", () -> x.print(-1));
        bad(x, "print(6)", () -> x.print(6));
        sheet(x, 0, "AAAAAAAA");
        for (int n = x.count(2); n < 40; n++) {
            due("DEED " + n, x.print(0), 16);
        }
        still(x, "a 41st DEED", FULL, () -> x.print(0));
        x.row(0, 9);
        found(x, "too long, ahead of FULL", SIZE, () -> x.print(0));
        bad(x, "print(6), ahead of FULL", () -> x.print(6));
        SetAsMeant y = sheet(new SetAsMeant(), 0, "FF");
        due("without LAWS", y.print(0), 2);
        due("INKS of F", y.ink(5), 2);
    }

    private static void ink() {
        where = "promise 35";
        SetAsMeant x = sheet(pressOf("lAB iEF"), 0, "ABAEE");
        x.print(0);
        x.print(0);
        int[] want = {0, 6, 0, 0, 4, 4};
        for (int sign = 0; sign < 6; sign++) {
            due("ink(" + sign + ")", x.ink(sign), want[sign]);
        }
        bad(x, "ink(-1)", () -> x.ink(-1));
        bad(x, "ink(6)", () -> x.ink(6));
    }

    private static void undo() {
        where = "promise 36";
        SetAsMeant x = pressOf("lAB");
        sheet(x, 0, "A");
        sheet(x, 1, "CC");
        sheet(x, 2, "DDA");
        x.print(0);
        x.print(1);
        x.print(2);
        x.hush(0, 1);
        bad(x, "undo(-1)", () -> x.undo(-1));
        bad(x, "undo(4)", () -> x.undo(4));
        still(x, "undo(3): none is from 3 on", 0, () -> x.undo(3));
        due("undo(1)", x.undo(1), 2);
        due("DEEDS", x.count(2), 1);
        due("INKS of B", x.ink(1), 1);
        due("INKS of C", x.ink(2), 0);
        due("INKS of D", x.ink(3), 0);
        due("LAWS stay", x.hush(0, 1), 1);
        due("drawer(1, 3)", x.drawer(1, 3), BAD);
        x.print(1);
        due("a new DEED 1", x.drawer(1, 3), 2);
        due("undo(0)", x.undo(0), 2);
        due("INKS in all", x.count(3), 0);
        still(x, "undo(0) of none", 0, () -> x.undo(0));
        bad(x, "undo(1) of none", () -> x.undo(1));
    }

    private static void drawer() {
        where = "promise 37";
        SetAsMeant x = sheet(pressOf("dAB"), 0, "AAAAAAAA");
        x.print(0);
        sheet(x, 0, "C");
        x.print(0);
        sheet(x, 0, "");
        x.print(0);
        x.row(4, 40);
        due("drawer(0, 4)", x.drawer(0, 4), 16);
        due("DEED 0", signs(x, 4), "ABABABABABABABAB");
        due("drawer(1, 4)", x.drawer(1, 4), 1);
        due("DEED 1", signs(x, 4), "C");
        due("drawer(2, 5)", x.drawer(2, 5), 0);
        due("it is there", x.tear(5), 1);
        bad(x, "drawer(3, 0)", () -> x.drawer(3, 0));
        bad(x, "drawer(-1, 0)", () -> x.drawer(-1, 0));
        bad(x, "drawer(0, 6)", () -> x.drawer(0, 6));
        bad(x, "drawer(0, -1)", () -> x.drawer(0, -1));
    }

    /** How many of n SHEETS by LOTS are without a SIGN of a set, counted by itself. */
    private static int lotsWithout(int set, int n, long seed) {
        int many = 0;
        long lot = seed;
        for (int i = 0; i < n; i++) {
            lot = lot * 48271 % 2147483647L;
            boolean without = true;
            for (long left = lot % 9; left > 0; left--) {
                lot = lot * 48271 % 2147483647L;
                without &= (set >> lot / 16 % 6 & 1) == 0;
            }
            many += without ? 1 : 0;
        }
        return many;
    }

    private static void lots() {
        where = "promise 38";
        SetAsMeant none = new SetAsMeant();
        due("lots(20, 1) without laws", none.lots(20, 1), 20);
        due("lots(1, 2147483646) without laws", none.lots(1, 2147483646), 1);
        SetAsMeant all = pressOf("bAbBbCbDbEbF");
        SetAsMeant one = pressOf("lAB");
        for (int seed : new int[] {1, 2, 3, 77, 12345, 987654321, 2147483646}) {
            for (int n : new int[] {1, 2, 7, 20}) {
                due("empty ones by " + seed, all.lots(n, seed), lotsWithout(63, n, seed));
                due("ones without A by " + seed, one.lots(n, seed), lotsWithout(1, n, seed));
            }
        }
        still(one, "aside", lotsWithout(1, 20, 5), () -> one.lots(20, 5));
        bad(one, "lots(0, 1)", () -> one.lots(0, 1));
        bad(one, "lots(21, 1)", () -> one.lots(21, 1));
        bad(one, "lots(1, 0)", () -> one.lots(1, 0));
        bad(one, "lots(1, -1)", () -> one.lots(1, -1));
        bad(one, "lots(1, 2147483647)", () -> one.lots(1, MAX));
    }

    private static void keep() {
        where = "promise 39";
        SetAsMeant x = new SetAsMeant();
        still(x, "keep(0) without laws", STATE, () -> x.keep(0));
        bad(x, "keep(3), ahead of STATE", () -> x.keep(3));
        textOf(x, 0, "lAB");
        x.press(0);
        due("keep(0)", x.keep(0), 0);
        sheet(x, 0, "AC");
        x.print(0);
        x.print(0);
        due("keep(2)", x.keep(2), 2);
        due("kept ones", x.count(8), 2);
        due("keep(0) again", x.keep(0), 2);
        due("kept ones again", x.count(8), 2);
        bad(x, "keep(-1)", () -> x.keep(-1));
        bad(x, "keep(3)", () -> x.keep(3));
    }

    private static void on() {
        where = "promise 40";
        SetAsMeant x = sheet(pressOf("lAB bC dDE"), 0, "AD");
        found(x, "on(0)", NOTHING, () -> x.on(0));
        x.hush(1, 1);
        x.swap(0, 2);
        x.print(0);
        x.keep(1);
        found(x, "on(0) with 1 kept", NOTHING, () -> x.on(0));
        x.swap(0, 1);
        x.hush(2, 1);
        x.hush(0, 0);
        sheet(x, 0, "FFF");
        x.print(0);
        x.print(0);
        x.undo(0);
        x.print(0);
        due("on(1)", x.on(1), 1);
        lawIs(x, 0, 2, 3, 4, NONE, 1);
        lawIs(x, 1, 1, 2, NONE, NONE, 0);
        lawIs(x, 2, 0, 0, 1, NONE, 1);
        due("DEED 0", x.drawer(0, 1), 3);
        due("what came out", signs(x, 1), "BDE");
        due("INKS of B", x.ink(1), 1);
        due("INKS of F", x.ink(5), 0);
        due("ROWS stay", signs(x, 0), "FFF");
        x.undo(0);
        x.hush(0, 1);
        due("on(1) again", x.on(1), 1);
        due("the kept one was left alone", x.hush(0, 0), 0);
        due("INKS in all", x.count(3), 3);
        bad(x, "on(-1)", () -> x.on(-1));
        bad(x, "on(3)", () -> x.on(3));
    }

    // ---- 7 what is told

    private static void asked() {
        where = "promise 41";
        SetAsMeant x = new SetAsMeant();
        due("asked() before", x.asked(), 0);
        textOf(x, 0, "lAB lBA");
        x.press(0);
        sheet(x, 0, "A");
        sheet(x, 1, "B");
        due("asked() of lay", x.asked(), 0);
        x.at(1, 0);
        due("asked() of at", x.asked(), 1);
        x.law(1, 3);
        due("asked() of law", x.asked(), NONE);
        x.mean(1);
        due("asked() of mean", x.asked(), 1);
        x.rests(0);
        due("asked() of rests", x.asked(), 2);
        x.forbid(0);
        due("asked() of forbid", x.asked(), 2);
        x.which(0, 0);
        due("asked() of which", x.asked(), 0);
        sheet(x, 2, "A");
        x.silence(0, 2);
        due("asked() of silence", x.asked(), 1);
        sheet(x, 2, "");
        still(x, "forbid, NONE", NONE, () -> x.forbid(2));
        still(x, "silence, NONE", NONE, () -> x.silence(0, 2));
        x.row(3, 5);
        x.set(0, 3);
        x.print(0);
        x.meant(0, 2);
        x.kinds(0, 0, 1);
        x.twins(1, 4);
        x.keep(0);
        x.on(0);
        due("asked() of no other", x.asked(), 1);
        x.which(0, 2);
        due("asked() of which, NONE", x.asked(), NONE);
    }

    private static void upperAndLower() {
        where = "promise 42";
        SetAsMeant x = new SetAsMeant();
        due("upper() before", x.upper(), 0);
        where = "promise 43";
        due("lower() before", x.lower(), 1);
        textOf(x, 0, "lAB");
        x.press(0);
        sheet(x, 0, "AA");
        sheet(x, 1, "BB");
        x.odds(0, 1, 4);
        where = "promise 42";
        due("upper() of odds", x.upper(), 2);
        where = "promise 43";
        due("lower() of odds", x.lower(), 3);
        x.which(0, 1);
        x.silence(0, 1);
        x.rests(0);
        x.mean(0);
        x.odds(0, 5, 1);
        x.mid(0, 13);
        x.meant(5, 1);
        x.harmless(64, 1);
        where = "promise 42";
        due("upper() of no other", x.upper(), 2);
        where = "promise 43";
        due("lower() of no other", x.lower(), 3);
        x.mid(0, 4);
        where = "promise 42";
        due("upper() of mid", x.upper(), 2);
        where = "promise 43";
        due("lower() of mid", x.lower(), 1);
        x.meant(1, 2);
        where = "promise 42";
        due("upper() of meant", x.upper(), 4);
        x.harmless(1, 3);
        due("upper() of harmless", x.upper(), 216);
        where = "promise 43";
        due("lower() of harmless", x.lower(), 1);
    }

    private static void count() {
        where = "promise 44";
        SetAsMeant x = pressOf("lAB bC dDE sEFA uBAC iFA dAA");
        x.hush(2, 1);
        x.hush(3, 1);
        x.hush(4, 1);
        sheet(x, 0, "AFA");
        x.row(4, 0);
        x.print(0);
        x.print(0);
        x.keep(1);
        x.text(3, 0);
        int[] want = {7, 4, 2, 8, 3, 2, 2, 2, 1};
        for (int what = 0; what < want.length; what++) {
            due("count(" + what + ")", x.count(what), want[what]);
        }
        due("a DOUBLE one that is the first", pressOf("iAB").count(4), 1);
        due("a SHY one that is the first", pressOf("uABC").count(5), 1);
        bad(x, "count(-1)", () -> x.count(-1));
        bad(x, "count(9)", () -> x.count(9));
    }

    private static void finding() {
        where = "promise 45";
        SetAsMeant x = new SetAsMeant();
        due("finding() before", x.finding(), 0);
        x.at(0, 0);
        due("finding() of at", x.finding(), NOTHING);
        x.row(0, -1);
        due("finding() of row", x.finding(), SIZE);
        x.row(0, 0);
        x.row(9, 0);
        x.press(7);
        due("finding() stays when none is found", x.finding(), SIZE);
        x.mean(0);
        due("finding() of mean", x.finding(), NOUGHT);
        x.at(0, 0);
        due("finding() of at again", x.finding(), BEYOND);
        x.row(0, 1);
        x.lay(0, 0, 6);
        x.set(0, 1);
        due("finding() of set", x.finding(), UNLIKE);
        x.copy(0, 0, 2, 0, 0);
        where = "promise 46";
        int[] want = {0, 2, 1, 1, 1, 1};
        for (int f = 1; f <= 5; f++) {
            due("findings(" + f + ")", x.findings(f), want[f]);
        }
        bad(x, "findings(0)", () -> x.findings(0));
        bad(x, "findings(6)", () -> x.findings(6));
        bad(x, "findings(-1)", () -> x.findings(-1));
    }

    private static long mixed(int... all) {
        long h = 17;
        for (int v : all) {
            h = 31 * h + v;
        }
        return h;
    }

    private static void digest() {
        where = "promise 47";
        SetAsMeant x = new SetAsMeant();
        due("digest() of a new object", x.digest(), mixed(
            0, 0, 0, 0, 0, 0, 0, 0, 0,
            0, 0, 0, 0, 0, 0,
            -1, -1, -1,
            -1, -1, -1, -1, -1, -1,
            -1, -1, -1, -1));
        textOf(x, 2, "bC uABF");
        x.press(2);
        x.hush(0, 1);
        sheet(x, 1, "CA");
        x.print(1);
        x.keep(2);
        sheet(x, 1, "FE");
        x.print(1);
        sheet(x, 1, "CA");
        x.lay(1, 0, -5);
        x.row(4, 0);
        x.text(3, 1);
        x.put(3, 0, 255);
        due("digest()", x.digest(), mixed(
            2, 1, 2, 4, 0, 1, 2, 2, 1,
            1, 2, -9, -9, 0,
            4, 0, 1, 5, 1,
            0, 1, 1, 0, 1, 1,
            2, 2, 1,
            2, 5, 4,
            -1, -1, 1,
            -1, 2, -5, 0, -1, -1, 0, -1,
            -1, -1, 7, 98, 67, 32, 117, 65, 66, 70, 1, -1));
    }
}
