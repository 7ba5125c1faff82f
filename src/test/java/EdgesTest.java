import java.io.IOException;
import java.math.BigInteger;
import java.nio.file.Files;
import java.nio.file.Path;
import java.util.ArrayList;
import java.util.List;
import java.util.function.IntUnaryOperator;

/**
 * Each sentence of the document that names a boundary case, with a test of its own. How arguments of a
 * call go together when several are to be refused stands in RefusalsTest.
 */
public final class EdgesTest extends Bench {
    private static final String EIGHT = "lABlABlABlABlABlABlABlAB";

    /** Empty, if it can't be read: then its sentences are tested all the same, but not looked up in it. */
    private static String document = "";
    private static final List<Integer> PROMISES = new ArrayList<>();

    public static void main(String[] args) throws IOException {
        Path path = Path.of("../shared/DOC.md");
        if (Files.isReadable(path)) {
            document = Files.readString(path);
        }
        terms();
        rowsTextsAndPresses();
        settingSheets();
        printingAndLots();
        promises1To9();
        promises10To15();
        promises16To21();
        promises22To28();
        promises29To33();
        promises34To40();
        promises41To47();
        where = "the document";
        for (int promise = 1; promise <= 47; promise++) {
            due("sentences of promise " + promise + " are tested", PROMISES.contains(promise) ? 1 : 0, 1);
        }
        end();
    }

    // ---- the tools

    /** A sentence of the document ahead of its promises. */
    private static void says(String sentence, Runnable test) {
        int from = document.indexOf("## Promise 1:");
        holds("\"" + sentence + "\"", document.substring(0, Math.max(from, 0)), sentence, test);
    }

    private static void says(int promise, String sentence, Runnable test) {
        int from = document.indexOf("## Promise " + promise + ":");
        int to = document.indexOf("\n## ", Math.max(from, 0));
        PROMISES.add(promise);
        holds("promise " + promise + ", \"" + sentence + "\"",
            from < 0 || to < from ? "" : document.substring(from, to), sentence, test);
    }

    private static void holds(String name, String section, String sentence, Runnable test) {
        where = name;
        if (!document.isEmpty() && !section.contains(sentence)) {
            say("the document does not say so there");
        }
        int before = checks;
        test.run();
        if (checks == before) {
            say("nothing is tested");
        }
    }

    private static SetAsMeant sheetOf(String press, String written) {
        return sheet(pressOf(press), 0, written);
    }

    private static void comes(String press, String written, String out) {
        SetAsMeant x = sheetOf(press, written);
        due("'" + press + "': set of '" + written + "'", x.set(0, 1), out.length());
        due("'" + press + "': '" + written + "'", signs(x, 1), out);
    }

    private static void faultOf(String text, int want) {
        due("a FAULT of '" + text + "'", textOf(new SetAsMeant(), 3, text).fault(3), want);
    }

    private static void told(SetAsMeant x, String what, int answer, long asked) {
        due(what, answer, 1);
        due(what + ", asked()", x.asked(), asked);
    }

    private static void ratio(SetAsMeant x, String what, int answer, long upper, long lower) {
        due(what, answer, 1);
        due(what + ", upper()", x.upper(), upper);
        due(what + ", lower()", x.lower(), lower);
    }

    private static void deeds(SetAsMeant x, int r, int many) {
        for (int n = 0; n < many; n++) {
            due("DEED " + n, x.print(r) >= 0 ? 1 : 0, 1);
        }
    }

    /** "BAD; NOTHING; SIZE; UNLIKE" of a ROW of so many SIGNS at most; ROW 0 is missing. */
    private static void refusesNoSheet(SetAsMeant x, int most, IntUnaryOperator call) {
        sheet(x, 1, "A".repeat(most) + "G");
        sheet(x, 2, "A".repeat(most - 1) + "G");
        sheet(x, 3, "A".repeat(most - 1) + "F");
        bad(x, "of ROW -1", () -> call.applyAsInt(-1));
        bad(x, "of ROW 6", () -> call.applyAsInt(6));
        found(x, "of a missing one", NOTHING, () -> call.applyAsInt(0));
        found(x, "of " + (most + 1), SIZE, () -> call.applyAsInt(1));
        found(x, "of no SIGN", UNLIKE, () -> call.applyAsInt(2));
        int answer = call.applyAsInt(3);
        due("of " + most + " SIGNS it goes through", answer >= 0 || answer == NONE ? 1 : 0, 1);
    }

    private static BigInteger lotAfter(BigInteger lot) {
        return lot.multiply(BigInteger.valueOf(48271)).mod(BigInteger.valueOf(2147483647));
    }

    /** How many of n SHEETS by LOTS have no SIGN of a set. */
    private static int lotsWithout(int set, int n, int seed) {
        int many = 0;
        BigInteger lot = BigInteger.valueOf(seed);
        for (int i = 0; i < n; i++) {
            lot = lotAfter(lot);
            boolean has = false;
            for (int left = lot.intValue() % 9; left > 0; left--) {
                lot = lotAfter(lot);
                has |= (set >> lot.intValue() / 16 % 6 & 1) == 1;
            }
            many += has ? 0 : 1;
        }
        return many;
    }

    // ---- ahead of the promises

    private static void terms() {
        says("An object is used for at most 512 calls after it has been made", () -> {
            SetAsMeant x = new SetAsMeant();
            due("the first call", x.row(0, 1), 1);
            for (int n = 2; n <= 511; n++) {
                due("call " + n, x.lay(0, 0, n), 1);
            }
            due("the 512th call", x.asked(), 510);
        });
        says("public static final int BAD = -1, FULL = -2, FINDING = -3, STATE = -4, SPENT = -6, NONE = -9;", () -> {
            due("BAD", SetAsMeant.BAD, -1);
            due("FULL", SetAsMeant.FULL, -2);
            due("FINDING", SetAsMeant.FINDING, -3);
            due("STATE", SetAsMeant.STATE, -4);
            due("SPENT", SetAsMeant.SPENT, -6);
            due("NONE", SetAsMeant.NONE, -9);
        });
        says("Refused is, the first of these that fits, in this order: BAD -1", () -> {
            SetAsMeant x = new SetAsMeant();
            bad(x, "BAD ahead of STATE", () -> x.keep(3));
            bad(x, "BAD ahead of FINDING", () -> x.row(6, -1));
            SetAsMeant y = sheetOf("dAA", "AAAA");
            bad(y, "BAD ahead of SPENT", () -> y.again(0, 9, 6));
            deeds(y, 0, 40);
            bad(y, "BAD ahead of FULL", () -> y.print(6));
        });
        says("BAD -1 (a number that is none, or not as told)", () -> {
            SetAsMeant x = sheetOf("lAB", "A");
            bad(x, "a ROW that is none", () -> x.tear(6));
            bad(x, "a LAW that is none", () -> x.hush(1, 1));
            bad(x, "a number that is not as told", () -> x.again(0, 10, 1));
        });
        changesNothing();
        findings();
        says("in lowest terms, the lower number above 0 (0 by 1)", () -> {
            SetAsMeant x = pair("lABlABlAB", "A", "B");
            ratio(x, "1 less 6 by 12, thrice", x.odds(0, 1, 6), 7, 8);
            ratio(x, "none fails: 1 by 1", x.odds(0, 1, 0), 1, 1);
            ratio(x, "all fail: 0 by 1", x.odds(0, 1, 12), 0, 1);
            SetAsMeant y = pair(EIGHT, "A", "B");
            ratio(y, "1 less 1 by 12, eight times", y.odds(0, 1, 1), 429981695, 429981696);
            ratio(y, "11 by 12, eight times, is left", y.odds(0, 1, 11), 429981696 - 214358881, 429981696);
            ratio(y, "no sheets: 0 by 1", y.meant(0, 0), 0, 1);
        });
        says("Sets (of SIGNS, of LAWS, of KINDS) are told by bits.", () -> {
            SetAsMeant x = pair("lABlCBlDBlEBlFB", "A", "B");
            due("all SIGNS", x.forbid(1), 6);
            due("by bits", x.asked(), 63);
            sheet(x, 2, "A");
            due("the first LAW", x.silence(0, 2), 1);
            due("by its bit", x.asked(), 1);
            SetAsMeant y = pair("lBAlBAlBAlBAlBAlBAlBAlAB", "A", "A");
            due("the last LAW", y.silence(0, 1), 1);
            due("by its bit", y.asked(), 128);
            sheet(y, 0, "C");
            sheet(y, 1, "C");
            due("all KINDS", y.kinds(0, 0, 1), 63);
        });
    }

    private static void changesNothing() {
        says("What is refused changes nothing but finding(), findings().", () -> {
            SetAsMeant x = sheetOf("dAB lCD", "AAAA");
            textOf(x, 1, "x");
            x.keep(1);
            x.hush(1, 1);
            deeds(x, 0, 40);
            x.odds(0, 0, 5);
            x.mean(0);
            x.on(0);
            bad(x, "BAD", () -> x.set(0, 6));
            still(x, "FULL", FULL, () -> x.print(0));
            still(x, "STATE", STATE, () -> x.press(1));
            still(x, "SPENT", SPENT, () -> x.again(0, 9, 0));
            still(x, "SPENT, too", SPENT, () -> x.rests(0));
            found(x, "FINDING", SIZE, () -> x.row(0, -1));
            due("the kept PRESS is as it was", x.on(1), 0);
            due("its LAWS are ON", x.count(1), 2);
        });
        says("NONE -9.", () -> {
            SetAsMeant x = pair("lAB", "A", "FF");
            sheet(x, 2, "");
            x.mean(1);
            still(x, "smallest", NONE, () -> x.smallest(0, 1));
            still(x, "believed", NONE, () -> x.believed(0, 1, 1));
            still(x, "twins", NONE, () -> x.twins(0, 1));
            still(x, "forbid", NONE, () -> x.forbid(2));
            still(x, "silence", NONE, () -> x.silence(0, 1));
            still(x, "fault", NONE, () -> x.fault(0));
            still(x, "by", NONE, () -> x.by(1, 0));
            still(x, "first", NONE, () -> x.first(1));
        });
    }

    private static void findings() {
        says("1 NOTHING (a ROW, a TEXT, a kept PRESS that is missing)", () -> {
            SetAsMeant x = new SetAsMeant();
            found(x, "a ROW", NOTHING, () -> x.tear(0));
            found(x, "a TEXT", NOTHING, () -> x.fault(0));
            found(x, "a kept PRESS", NOTHING, () -> x.on(0));
        });
        says("2 BEYOND (a place of a ROW, a TEXT that there is not)", () -> {
            SetAsMeant x = new SetAsMeant();
            x.row(0, 1);
            x.text(0, 1);
            found(x, "a place of a ROW", BEYOND, () -> x.at(0, 1));
            found(x, "a place of a TEXT", BEYOND, () -> x.put(0, 1, 65));
            due("the last place of a ROW", x.at(0, 0), 1);
            due("the last place of a TEXT", x.put(0, 0, 65), 1032);
        });
        says("3 UNLIKE (a LAW of another KIND; a number that is none)", () -> {
            SetAsMeant x = sheetOf("lAB", "G");
            found(x, "a LAW of another KIND", UNLIKE, () -> x.mark(0, 1));
            found(x, "a number that is none", UNLIKE, () -> x.set(0, 1));
        });
        says("4 NOUGHT (shared among none)", () -> {
            SetAsMeant x = new SetAsMeant();
            x.row(0, 0);
            x.row(1, 1);
            found(x, "among none", NOUGHT, () -> x.mean(0));
            told(x, "among one", x.mean(1), 0);
        });
        says("5 SIZE (fewer than none; too many)", () -> {
            SetAsMeant x = new SetAsMeant();
            found(x, "fewer than none", SIZE, () -> x.row(0, -1));
            x.row(0, 9);
            found(x, "too many", SIZE, () -> x.first(0));
            due("none is not fewer than none", x.row(0, 0), 0);
        });
    }

    private static void rowsTextsAndPresses() {
        says("ROWS 0 .. 5 are rows of 0 to 40 ints", () -> {
            SetAsMeant x = new SetAsMeant();
            for (int r = 0; r <= 5; r++) {
                due("ROW " + r + " of 40", x.row(r, 40), 40);
                told(x, "its last place", x.lay(r, 39, r), 0);
            }
            for (int r = 0; r <= 5; r++) {
                told(x, "ROW " + r + " by itself", x.at(r, 39), r);
                due("ROW " + r + " of 0", x.row(r, 0), 0);
            }
            bad(x, "ROW -1", () -> x.row(-1, 0));
            bad(x, "ROW 6", () -> x.row(6, 0));
            bad(x, "41 ints", () -> x.row(0, 41));
            found(x, "-1 ints", SIZE, () -> x.row(0, -1));
        });
        says("TEXTS 0 .. 3 rows of 0 to 60 bytes", () -> {
            SetAsMeant x = new SetAsMeant();
            for (int t = 0; t <= 3; t++) {
                due("TEXT " + t + " of 60", x.text(t, 60), 60);
                due("its last place", x.put(t, 59, 65 + t), 1032);
            }
            for (int t = 0; t <= 3; t++) {
                due("TEXT " + t + " by itself", x.put(t, 59, 0), 1065 + t);
                due("TEXT " + t + " of 0", x.text(t, 0), 0);
            }
            bad(x, "TEXT -1", () -> x.text(-1, 0));
            bad(x, "TEXT 4", () -> x.text(4, 0));
            bad(x, "61 bytes", () -> x.text(0, 61));
            found(x, "-1 bytes", SIZE, () -> x.text(0, -1));
        });
        says("or missing (at first)", () -> {
            SetAsMeant x = new SetAsMeant();
            for (int r = 0; r <= 5; r++) {
                int row = r;
                found(x, "ROW " + r, NOTHING, () -> x.at(row, 0));
            }
            for (int t = 0; t <= 3; t++) {
                int text = t;
                found(x, "TEXT " + t, NOTHING, () -> x.put(text, 0, 65));
            }
        });
        says("SIGNS are 0 .. 5 (in a TEXT A (65), B, .. F)", EdgesTest::signsAtTheirEnds);
        says("A SHEET is a ROW of 0 to 8 SIGNS.", () -> {
            comes("lAB", "", "");
            comes("lAB", "AAAAAAAA", "BBBBBBBB");
            SetAsMeant x = sheetOf("lAB", "AAAAAAAAA");
            found(x, "9", SIZE, () -> x.set(0, 1));
            x.row(0, 40);
            found(x, "40", SIZE, () -> x.set(0, 1));
        });
        says("A PRESS (without LAWS at first)", () -> {
            SetAsMeant x = sheet(new SetAsMeant(), 0, "ABCDEF");
            due("LAWS", x.count(0), 0);
            bad(x, "LAW 0", () -> x.law(0, 0));
            due("by none", x.by(0, 0), NONE);
            due("it comes OUT as it was WRITTEN", x.first(0), NONE);
        });
        pressesAsTexts();
    }

    private static void signsAtTheirEnds() {
        for (int v = -128; v <= 127; v++) {
            SetAsMeant x = new SetAsMeant();
            x.text(0, 2);
            x.put(0, 0, 'l');
            x.put(0, 1, v);
            // behind a SIGN another one is missing at the TEXT's end
            due("byte " + v + " as a SIGN", x.fault(0), v >= 65 && v <= 70 ? 2 : 1);
        }
        for (int sign : new int[] {0, 5}) {
            SetAsMeant x = new SetAsMeant();
            x.row(0, 1);
            x.lay(0, 0, sign);
            due("SIGN " + sign, x.set(0, 1), 1);
        }
        // none is cut to a SIGN
        for (int none : new int[] {-1, 6, 7, 65, 256, 261, MIN, MAX, MIN + 5}) {
            SetAsMeant x = new SetAsMeant();
            x.row(0, 1);
            x.lay(0, 0, none);
            found(x, "no SIGN " + none, UNLIKE, () -> x.set(0, 1));
        }
    }

    private static void pressesAsTexts() {
        String blanks = " ".repeat(57);
        says("blanks (32) ahead, between, behind as many as wanted, none within items", () -> {
            faultOf("", NONE);
            faultOf(blanks + "   ", NONE);
            faultOf(blanks + "lAB", NONE);
            faultOf("lAB" + blanks, NONE);
            faultOf("lAB" + " ".repeat(55) + "bC", NONE);
            faultOf("lABbC", NONE);
            faultOf("l AB", 1);
            faultOf("lA B", 2);
            faultOf("b C", 1);
            faultOf("sA BC", 2);
            faultOf("sAB C", 3);
            faultOf("\tlAB", 0);
            faultOf("lAB\tbC", 3);
            faultOf("lAB" + (char) 0, 3);
            faultOf("lAB" + (char) 31, 3);
            faultOf("lAB!", 3);
            faultOf("lAB" + (char) 160, 3);
        });
        says("items are LAWS 0, 1, .. (8 at most; as they come)", () -> {
            due("none", pressOf("").count(0), 0);
            due("one", pressOf("bA").count(0), 1);
            SetAsMeant x = pressOf("bA bB bC bD bE bF lAC sABC");
            due("eight", x.count(0), 8);
            for (int k = 0; k < 6; k++) {
                lawIs(x, k, 1, k, NONE, NONE, 1);
            }
            lawIs(x, 6, 0, 0, 2, NONE, 1);
            lawIs(x, 7, 3, 0, 1, 2, 1);
            textOf(x, 1, "bA bB bC bD bE bF lAC sABC bA");
            still(x, "nine", STATE, () -> x.press(1));
        });
        says("x of all; y of all but a BLOT; z of a SHY, a SLY one", () -> {
            faultOf("lABC", 3);
            faultOf("bAB", 2);
            faultOf("dABC", 3);
            faultOf("sABCD", 4);
            faultOf("uABCD", 4);
            faultOf("iABC", 3);
        });
        says("(a letter, a SIGN that is none such: its place; a ninth one: its letter; "
            + "the TEXT's size, if it ends within an item)", EdgesTest::faultsAtTheirEnds);
        says("KINDS of LAWS and letters: 0 LAW (l, 108), 1 BLOT (b, 98; a LAW), 2 DOUBLE (d, 100; a LAW), "
            + "3 SHY (s, 115; a LAW), 4 SLY (u, 117; a SHY), 5 INKED (i, 105; a DOUBLE).", () -> {
                for (int v = -128; v <= 127; v++) {
                    SetAsMeant x = new SetAsMeant();
                    x.text(0, 1);
                    x.put(0, 0, v);
                    int want = v == 32 ? NONE : v > 0 && "lbdsui".indexOf(v) >= 0 ? 1 : 0;
                    due("byte " + v + " as a letter", x.fault(0), want);
                }
                SetAsMeant x = pressOf("lAB bA dAB sABC uABC iAB");
                for (int k = 0; k <= 5; k++) {
                    told(x, "the KIND of LAW " + k, x.law(k, 0), k);
                }
                due("a SLY one is a SHY one", x.mark(4, 3) >= 0 ? 1 : 0, 1);
                due("an INKED one is a DOUBLE one", x.mark(5, 2) >= 0 ? 1 : 0, 1);
                found(x, "a SHY one is no SLY one", UNLIKE, () -> x.mark(3, 4));
                found(x, "a DOUBLE one is no INKED one", UNLIKE, () -> x.mark(2, 5));
            });
        says("LAWS are ON (at first), or HUSHED.", () -> {
            SetAsMeant x = pressOf(EIGHT);
            due("ON at first", x.count(1), 8);
            due("LAW 7 was not HUSHED", x.hush(7, 1), 0);
            told(x, "LAW 7 is not ON", x.law(7, 4), 0);
            told(x, "LAW 6 is", x.law(6, 4), 1);
        });
    }

    private static void faultsAtTheirEnds() {
        faultOf("x", 0);
        faultOf("lABx", 3);
        faultOf(" ".repeat(59) + "x", 59);
        faultOf("lxB", 1);
        faultOf("lAx", 2);
        faultOf("sABx", 3);
        faultOf("uABx", 3);
        faultOf("x lAx", 0);
        faultOf("lAx x", 2);
        String eight = "bA".repeat(8);
        faultOf(eight, NONE);
        faultOf(eight + " ", NONE);
        faultOf(eight + "bA", 16);
        faultOf(eight + "  bA", 18);
        faultOf(eight + "bx", 16);
        faultOf(eight + "b", 16);
        faultOf(eight + "x", 16);
        faultOf("sABC".repeat(8) + " ".repeat(26) + "bA", 58);
        faultOf("sABC".repeat(8) + " ".repeat(28), NONE);
        faultOf("bA".repeat(7) + "b", 15);
        for (String item : new String[] {"lAB", "bA", "dAB", "sABC", "uABC", "iAB"}) {
            for (int n = 1; n < item.length(); n++) {
                faultOf(item.substring(0, n), n);
                faultOf(" ".repeat(60 - n) + item.substring(0, n), 60);
                faultOf(item.substring(0, n) + " ", n);
            }
            faultOf(item, NONE);
            faultOf(" ".repeat(60 - item.length()) + item, NONE);
        }
    }

    private static void settingSheets() {
        says("each by what was WRITTEN about it", () -> {
            comes("sABC lCD", "AC", "BD");
            comes("sABC bC", "AC", "B");
            comes("bB sACD", "ABD", "AD");
            comes("lDC sABC", "AD", "AC");
            comes("bB uACD", "AB", "A");
            comes("dCA sAFA", "CA", "CAA");
        });
        says("by the first LAW (by number) that is ON and HOLDS; by none, if there is no such: it is SET as it is",
            () -> {
                SetAsMeant x = sheetOf("lAB sACB lACbAbAbAbAlAF", "A");
                for (int k = 0; k < 8; k++) {
                    // the SHY one holds of no last SIGN
                    due("ON are all from " + k + " on", x.by(0, 0), k == 1 ? 2 : k);
                    x.hush(k, 1);
                }
                due("all are HUSHED", x.by(0, 0), NONE);
                due("as it is", x.first(0), NONE);
                comes("lBA", "A", "A");
                comes("", "ABCDEFAB", "ABCDEFAB");
            });
        says("A LAW HOLDS of a SIGN that is x; a SHY one, if z is WRITTEN right behind it", () -> {
            comes("sABC", "A", "A");
            comes("sABC", "CA", "CA");
            comes("sABC", "ABC", "ABC");
            comes("sABC", "AC", "BC");
            comes("sABA", "AAAAAAAA", "BBBBBBBA");
            comes("sABC", "DDDDDDAC", "DDDDDDBC");
            comes("sABA", "A", "A");
        });
        says("a SLY one, if that is so, or it is the last one", () -> {
            comes("uABC", "A", "B");
            comes("uABC", "AC", "BC");
            comes("uABC", "AD", "AD");
            comes("uABC", "AA", "AB");
            comes("uABC", "DDDDDDDA", "DDDDDDDB");
            comes("uABC", "DDDDDDAD", "DDDDDDAD");
            comes("uABA", "AAAAAAAA", "BBBBBBBB");
        });
        says("By a LAW, a SHY, a SLY one it is SET as y; by a BLOT not at all; by a DOUBLE one as x, y; "
            + "by an INKED one as y, x.", () -> {
                comes("lAF", "A", "F");
                comes("lAA", "A", "A");
                comes("sAFB", "AB", "FB");
                comes("uAFB", "A", "F");
                comes("bA", "A", "");
                comes("dAF", "A", "AF");
                comes("iAF", "A", "FA");
                comes("dAA", "A", "AA");
                comes("iFF", "F", "FF");
            });
        says("(So 16 SIGNS at most come OUT.)", () -> {
            comes("dAF", "AAAAAAAA", "AFAFAFAFAFAFAFAF");
            comes("iFA", "FFFFFFFF", "AFAFAFAFAFAFAFAF");
            comes("dAF", "AAAAAAAB", "AFAFAFAFAFAFAFB");
            comes("dFF", "FFFFFFFF", "FFFFFFFFFFFFFFFF");
            comes("bA", "AAAAAAAA", "");
        });
        says("SHEETS go by their sizes, of alike ones by their first SIGNS, then second ones, ..", () -> {
            SetAsMeant x = sheetOf("dFA lBF", "FA");
            due("F comes ahead of BA", x.smallest(0, 1), 1);
            due("that is", signs(x, 1), "F");
            SetAsMeant y = sheetOf("lAC lBC", "CC");
            due("AA comes ahead of all others", y.smallest(0, 1), 2);
            due("that is", signs(y, 1), "AA");
            due("AA, then AB", y.twins(2, 1), 1);
            due("that is", signs(y, 1), "AAAB");
            SetAsMeant z = sheetOf("sAEB sBEA", "EA");
            due("BA comes ahead of EA", z.smallest(0, 1), 2);
            due("that is", signs(z, 1), "BA");
        });
        says("(a SHEET in a ROW: NOTHING; SIZE: more than 8; UNLIKE: no SIGN; behind BAD, in this order)", () -> {
            SetAsMeant x = new SetAsMeant();
            found(x, "missing", NOTHING, () -> x.set(0, 1));
            bad(x, "missing, behind BAD", () -> x.set(0, 6));
            x.row(0, 9);
            x.lay(0, 0, 6);
            found(x, "9, with no SIGN in it", SIZE, () -> x.set(0, 1));
            bad(x, "9, behind BAD", () -> x.set(0, -1));
            x.row(0, 8);
            x.lay(0, 7, 6);
            found(x, "8, the last one no SIGN", UNLIKE, () -> x.set(0, 1));
            bad(x, "no SIGN, behind BAD", () -> x.set(0, 6));
            x.lay(0, 7, 5);
            due("8 SIGNS", x.set(0, 1), 8);
        });
    }

    private static void printingAndLots() {
        says("each SIGN that comes OUT takes an INK of it", () -> {
            SetAsMeant x = sheetOf("dAB bC", "AAAAAAAA");
            due("16", x.print(0), 16);
            due("INKS of A", x.ink(0), 8);
            due("INKS of B", x.ink(1), 8);
            sheet(x, 0, "CCCCCCCC");
            due("none", x.print(0), 0);
            due("no INK of C", x.ink(2), 0);
            sheet(x, 0, "");
            due("none of none", x.print(0), 0);
            due("INKS in all", x.count(3), 16);
        });
        says("These are DEEDS 0, 1, .. (40 at most).", () -> {
            SetAsMeant x = sheetOf("dAA", "AAAAAAAA");
            deeds(x, 0, 40);
            still(x, "a 41st one", FULL, () -> x.print(0));
            due("DEEDS", x.count(2), 40);
            due("INKS of A", x.ink(0), 640);
            due("DEED 39", x.drawer(39, 1), 16);
            bad(x, "DEED 40", () -> x.drawer(40, 1));
        });
        says("LOTS: a number comes from the one ahead by 48271 times it modulo 2147483647, "
            + "the first from a seed (1 .. 2147483646).", () -> {
                for (int seed : new int[] {1, 2, 44488, 44489, 2147483645, 2147483646}) {
                    SetAsMeant x = pressOf("bA lFE");
                    for (int n = 1; n <= 20; n++) {
                        due("lots(" + n + ", " + seed + ")", x.lots(n, seed), lotsWithout(33, n, seed));
                    }
                }
                SetAsMeant x = pressOf("bA");
                bad(x, "seed 0", () -> x.lots(1, 0));
                bad(x, "seed 2147483647", () -> x.lots(1, 2147483647));
            });
    }

    // ---- 1 rows, texts, presses

    private static void promises1To9() {
        says(1, "No ROWS, TEXTS, LAWS; no INK taken.", () -> {
            SetAsMeant x = new SetAsMeant();
            due("LAWS", x.count(0), 0);
            due("INKS in all", x.count(3), 0);
            due("ROWS", x.count(6), 0);
            due("TEXTS", x.count(7), 0);
            for (int sign = 0; sign <= 5; sign++) {
                due("INKS of " + sign, x.ink(sign), 0);
            }
        });
        says(2, "A ROW is there with n ints 0: n.", () -> {
            SetAsMeant x = new SetAsMeant();
            for (int n : new int[] {0, 1, 40}) {
                due("row(5, " + n + ")", x.row(5, n), n);
                due("ints in it", signs(x, 5), "A".repeat(n));
                found(x, "one behind them", BEYOND, () -> x.at(5, n));
                x.lay(5, n - 1, MAX);
            }
            due("as many anew", x.row(5, 40), 40);
            told(x, "what was there is gone", x.at(5, 39), 0);
        });
        says(2, "BAD: also n above 40; SIZE: below 0.", () -> {
            SetAsMeant x = new SetAsMeant();
            due("40", x.row(0, 40), 40);
            bad(x, "41", () -> x.row(0, 41));
            bad(x, "the greatest int", () -> x.row(0, MAX));
            found(x, "-1", SIZE, () -> x.row(0, -1));
            found(x, "the least int", SIZE, () -> x.row(1, MIN));
            due("ROW 1 is not there by that", x.count(6), 1);
            bad(x, "-1 of no ROW", () -> x.row(-1, -1));
        });
        laidPlaces();
        says(5, "A ROW is missing: 1.", () -> {
            SetAsMeant x = new SetAsMeant();
            x.row(0, 0);
            x.row(5, 40);
            x.lay(5, 39, 7);
            due("an empty one", x.tear(0), 1);
            due("a full one", x.tear(5), 1);
            due("ROWS", x.count(6), 0);
            x.row(5, 40);
            told(x, "there anew, with 0", x.at(5, 39), 0);
        });
        says(5, "BAD; NOTHING.", () -> {
            SetAsMeant x = new SetAsMeant();
            bad(x, "ROW -1", () -> x.tear(-1));
            bad(x, "ROW 6", () -> x.tear(6));
            found(x, "a missing one", NOTHING, () -> x.tear(5));
            x.row(5, 1);
            x.tear(5);
            found(x, "one torn again", NOTHING, () -> x.tear(5));
        });
        copiedPlaces();
        means();
        says(8, "A TEXT is there with n blanks: n.", () -> {
            SetAsMeant x = new SetAsMeant();
            for (int n : new int[] {0, 1, 60}) {
                due("text(3, " + n + ")", x.text(3, n), n);
                for (int i = 0; i < n; i++) {
                    due("blank " + i, x.put(3, i, 120), 1032);
                }
                found(x, "one behind them", BEYOND, () -> x.put(3, n, 120));
            }
            due("as many anew", x.text(3, 60), 60);
            due("what was there is gone", x.put(3, 59, 0), 1032);
        });
        says(8, "BAD: also n above 60; SIZE: below 0.", () -> {
            SetAsMeant x = new SetAsMeant();
            due("60", x.text(0, 60), 60);
            bad(x, "61", () -> x.text(0, 61));
            bad(x, "the greatest int", () -> x.text(0, MAX));
            found(x, "-1", SIZE, () -> x.text(0, -1));
            found(x, "the least int", SIZE, () -> x.text(1, MIN));
            due("TEXT 1 is not there by that", x.count(7), 1);
            bad(x, "-1 of no TEXT", () -> x.text(4, -1));
        });
        says(9, "Byte i of a TEXT is v, cut to a byte: what it was, and 1000 more.", () -> {
            SetAsMeant x = new SetAsMeant();
            x.text(0, 1);
            int was = 1032;
            int[] put = {127, 128, 255, 256, -1, -128, -129, MAX, MIN, 65 + 256, 65 - 256};
            int[] then = {1127, 872, 999, 1000, 999, 872, 1127, 999, 1000, 1065, 1065};
            for (int n = 0; n < put.length; n++) {
                due("ahead of " + put[n], x.put(0, 0, put[n]), was);
                was = then[n];
            }
            due("at last", x.put(0, 0, 0), was);
        });
        says(9, "BAD; NOTHING; BEYOND.", () -> {
            SetAsMeant x = new SetAsMeant();
            found(x, "a missing one, place -1", NOTHING, () -> x.put(1, -1, 0));
            bad(x, "TEXT -1", () -> x.put(-1, 60, 0));
            bad(x, "TEXT 4", () -> x.put(4, 0, 0));
            x.text(1, 60);
            due("place 59 of 60", x.put(1, 59, 0), 1032);
            found(x, "place 60 of 60", BEYOND, () -> x.put(1, 60, 0));
            found(x, "place -1", BEYOND, () -> x.put(1, -1, 0));
            x.text(1, 0);
            found(x, "place 0 of none", BEYOND, () -> x.put(1, 0, 0));
        });
    }

    private static void laidPlaces() {
        says(3, "Place i of a ROW is v: what it was, told by asked(): 1.", () -> {
            SetAsMeant x = new SetAsMeant();
            x.row(0, 40);
            told(x, "the first place", x.lay(0, 0, MIN), 0);
            told(x, "the first place again", x.lay(0, 0, MAX), MIN);
            told(x, "the last place", x.lay(0, 39, -1), 0);
            told(x, "the last place again", x.lay(0, 39, 5), -1);
            told(x, "the first place is as it was laid", x.at(0, 0), MAX);
            told(x, "the place beside the last one", x.at(0, 38), 0);
        });
        says(3, "BAD; NOTHING; BEYOND.", () -> {
            SetAsMeant x = new SetAsMeant();
            bad(x, "ROW -1", () -> x.lay(-1, 0, 1));
            bad(x, "ROW 6", () -> x.lay(6, 0, 1));
            found(x, "a missing one, place 40", NOTHING, () -> x.lay(0, 40, 1));
            x.row(0, 40);
            x.row(1, 0);
            found(x, "place 40 of 40", BEYOND, () -> x.lay(0, 40, 1));
            found(x, "place -1", BEYOND, () -> x.lay(0, -1, 1));
            found(x, "place 0 of none", BEYOND, () -> x.lay(1, 0, 1));
        });
        says(4, "Place i of a ROW, told by asked(): 1.", () -> {
            SetAsMeant x = new SetAsMeant();
            x.row(5, 40);
            x.lay(5, 0, MIN);
            x.lay(5, 39, MAX);
            told(x, "the first place", x.at(5, 0), MIN);
            told(x, "the second place", x.at(5, 1), 0);
            told(x, "the last place", x.at(5, 39), MAX);
        });
        says(4, "BAD; NOTHING; BEYOND.", () -> {
            SetAsMeant x = new SetAsMeant();
            bad(x, "ROW -1", () -> x.at(-1, 0));
            bad(x, "ROW 6", () -> x.at(6, 0));
            found(x, "a missing one, place -1", NOTHING, () -> x.at(5, -1));
            x.row(5, 40);
            x.row(4, 0);
            found(x, "place 40 of 40", BEYOND, () -> x.at(5, 40));
            found(x, "place -1", BEYOND, () -> x.at(5, -1));
            found(x, "place 0 of none", BEYOND, () -> x.at(4, 0));
        });
    }

    private static void copiedPlaces() {
        says(6, "n places of a ROW, from one on, come to those of another one (perhaps itself) from one on, "
            + "as if taken ahead: 1.", () -> {
                SetAsMeant x = new SetAsMeant();
                x.row(0, 40);
                for (int i = 0; i < 40; i++) {
                    x.lay(0, i, i);
                }
                x.row(1, 40);
                due("all 40 of another one", x.copy(0, 0, 1, 0, 40), 1);
                due("all 40 of itself, onto themselves", x.copy(0, 0, 0, 0, 40), 1);
                due("39 of itself, one up", x.copy(0, 0, 0, 1, 39), 1);
                due("39 of the other one, one down", x.copy(1, 1, 1, 0, 39), 1);
                for (int i = 0; i < 40; i++) {
                    told(x, "place " + i + ", one up", x.at(0, i), Math.max(0, i - 1));
                    told(x, "place " + i + ", one down", x.at(1, i), Math.min(39, i + 1));
                }
                x.row(2, 0);
                long before = x.digest();
                due("none of none", x.copy(2, 0, 2, 0, 0), 1);
                due("none at the ends", x.copy(0, 40, 1, 40, 0), 1);
                due("which changes nothing", x.digest(), before);
            });
        says(6, "BAD; SIZE: n below 0; NOTHING: either; BEYOND: not so many there.", () -> {
            SetAsMeant x = sheet(sheet(new SetAsMeant(), 0, "ABC"), 1, "DE");
            bad(x, "to no ROW, fewer than none", () -> x.copy(0, 0, 6, 0, -1));
            bad(x, "of no ROW, fewer than none", () -> x.copy(-1, 0, 0, 0, -1));
            found(x, "-1 of a missing one", SIZE, () -> x.copy(2, 0, 3, 0, -1));
            found(x, "of a missing one, too many", NOTHING, () -> x.copy(2, 0, 1, 0, 3));
            found(x, "to a missing one, too many", NOTHING, () -> x.copy(0, 0, 2, 0, 4));
            due("2 from 1 on, of 3", x.copy(0, 1, 1, 0, 2), 1);
            found(x, "2 from 2 on, of 3", BEYOND, () -> x.copy(0, 2, 1, 0, 2));
            due("1 to 1 on, of 2", x.copy(0, 0, 1, 1, 1), 1);
            found(x, "2 to 1 on, of 2", BEYOND, () -> x.copy(0, 0, 1, 1, 2));
            found(x, "from -1 on", BEYOND, () -> x.copy(0, -1, 1, 0, 1));
            found(x, "to -1 on", BEYOND, () -> x.copy(0, 0, 1, -1, 1));
            found(x, "more than an int has room for", BEYOND, () -> x.copy(0, 3, 1, 0, MAX));
            found(x, "from more than an int has room for", BEYOND, () -> x.copy(0, MAX, 1, MAX, 2));
        });
    }

    private static void means() {
        says(7, "The mean of a ROW's ints, cut, told by asked(): 1.", () -> {
            SetAsMeant x = new SetAsMeant();
            x.row(0, 1);
            x.lay(0, 0, MIN);
            told(x, "of one", x.mean(0), MIN);
            x.row(0, 2);
            int[][] all = {{1, 0, 0}, {-1, 0, 0}, {-3, 0, -1}, {3, 0, 1}, {MIN, MAX, 0}, {MAX, MAX, MAX},
                {MIN, MIN, MIN}, {MAX, MAX - 1, MAX - 1}, {MIN, MIN + 1, MIN + 1}};
            for (int[] of : all) {
                x.lay(0, 0, of[0]);
                x.lay(0, 1, of[1]);
                told(x, "of " + of[0] + ", " + of[1], x.mean(0), of[2]);
            }
            x.row(1, 40);
            x.row(2, 40);
            for (int i = 0; i < 40; i++) {
                x.lay(1, i, MAX);
                x.lay(2, i, MIN);
            }
            told(x, "of 40 greatest ints", x.mean(1), MAX);
            told(x, "of 40 least ints", x.mean(2), MIN);
        });
        says(7, "BAD; NOTHING; NOUGHT.", () -> {
            SetAsMeant x = new SetAsMeant();
            bad(x, "ROW -1", () -> x.mean(-1));
            bad(x, "ROW 6", () -> x.mean(6));
            found(x, "of a missing one", NOTHING, () -> x.mean(0));
            x.row(0, 0);
            found(x, "of none", NOUGHT, () -> x.mean(0));
        });
    }

    private static void promises10To15() {
        says(10, "A FAULT of a TEXT; NONE: there is none.", () -> {
            faultOf("", NONE);
            faultOf(" ".repeat(60), NONE);
            faultOf("x" + " ".repeat(59), 0);
            faultOf(" ".repeat(59) + "b", 60);
            SetAsMeant x = textOf(pressOf("lAB"), 1, "bC x");
            still(x, "it is told, and no more", 3, () -> x.fault(1));
        });
        says(10, "BAD; NOTHING.", () -> {
            SetAsMeant x = new SetAsMeant();
            bad(x, "TEXT -1", () -> x.fault(-1));
            bad(x, "TEXT 4", () -> x.fault(4));
            found(x, "TEXT 3, missing", NOTHING, () -> x.fault(3));
        });
        pressesAnew();
        says(12, "Of a LAW: 0 the KIND, 1 x, 2 y (NONE: it has none), 3 z (NONE), 4 whether it is ON (1, 0), "
            + "told by asked(): 1.", () -> {
                SetAsMeant x = pressOf("lAF bF dFA sFAF uAFA iFF");
                x.hush(5, 1);
                lawIs(x, 0, 0, 0, 5, NONE, 1);
                lawIs(x, 1, 1, 5, NONE, NONE, 1);
                lawIs(x, 2, 2, 5, 0, NONE, 1);
                lawIs(x, 3, 3, 5, 0, 5, 1);
                lawIs(x, 4, 4, 0, 5, 0, 1);
                lawIs(x, 5, 5, 5, 5, NONE, 0);
            });
        says(12, "BAD.", () -> {
            SetAsMeant x = pressOf(EIGHT);
            due("LAW 7 of eight", x.law(7, 4), 1);
            bad(x, "LAW 8 of eight", () -> x.law(8, 0));
            bad(x, "LAW -1", () -> x.law(-1, 0));
            bad(x, "what 5", () -> x.law(0, 5));
            bad(x, "what -1", () -> x.law(0, -1));
            SetAsMeant y = pressOf("bA");
            bad(y, "LAW 1 of one", () -> y.law(1, 0));
            SetAsMeant z = new SetAsMeant();
            bad(z, "LAW 0 of none", () -> z.law(0, 0));
        });
        marks();
        says(14, "A LAW is HUSHED (1), or ON (0): whether it was HUSHED.", () -> {
            SetAsMeant x = pressOf(EIGHT);
            for (int k = 0; k < 8; k++) {
                due("it was ON", x.hush(k, 1), 0);
                due("it is HUSHED", x.hush(k, 1), 1);
            }
            due("none is ON", x.count(1), 0);
            due("it was HUSHED", x.hush(7, 0), 1);
            due("it is ON", x.hush(7, 0), 0);
            due("one is ON", x.count(1), 1);
        });
        says(14, "BAD.", () -> {
            SetAsMeant x = pressOf(EIGHT);
            bad(x, "LAW 8 of eight", () -> x.hush(8, 1));
            bad(x, "LAW -1", () -> x.hush(-1, 1));
            bad(x, "2", () -> x.hush(0, 2));
            bad(x, "-1", () -> x.hush(0, -1));
        });
        says(15, "Two LAWS change their numbers: 1.", () -> {
            SetAsMeant x = pressOf("lABbAbBbCbDbEbFuFED");
            x.hush(7, 1);
            due("the first and the last of eight", x.swap(0, 7), 1);
            lawIs(x, 0, 4, 5, 4, 3, 0);
            lawIs(x, 7, 0, 0, 1, NONE, 1);
            still(x, "one with itself", 1, () -> x.swap(0, 0));
            due("back", x.swap(7, 0), 1);
            lawIs(x, 0, 0, 0, 1, NONE, 1);
        });
        says(15, "BAD.", () -> {
            SetAsMeant x = pressOf(EIGHT);
            bad(x, "8 of eight, first", () -> x.swap(8, 0));
            bad(x, "8 of eight, then", () -> x.swap(0, 8));
            bad(x, "-1, first", () -> x.swap(-1, 0));
            bad(x, "-1, then", () -> x.swap(0, -1));
            bad(x, "none with itself", () -> x.swap(8, 8));
        });
    }

    private static void pressesAnew() {
        says(11, "(anew: all ON, no DEEDS, no INK taken; kept PRESSES go)", () -> {
            SetAsMeant x = sheetOf("lAB bC", "AF");
            x.hush(1, 1);
            deeds(x, 0, 40);
            x.keep(0);
            x.keep(1);
            x.keep(2);
            due("anew", x.press(0), 2);
            due("all ON", x.count(1), 2);
            due("no DEEDS", x.count(2), 0);
            due("no INK", x.count(3), 0);
            due("no INK of B", x.ink(1), 0);
            due("no kept ones", x.count(8), 0);
            found(x, "kept PRESS 0", NOTHING, () -> x.on(0));
            found(x, "kept PRESS 2", NOTHING, () -> x.on(2));
            bad(x, "DEED 0", () -> x.drawer(0, 1));
            deeds(x, 0, 40);
            still(x, "40 anew, and one more", FULL, () -> x.print(0));
        });
        says(11, "how many LAWS", () -> {
            SetAsMeant x = new SetAsMeant();
            for (int n = 8; n >= 0; n--) {
                textOf(x, 3, "bA".repeat(n));
                due("of " + n, x.press(3), n);
                due("LAWS", x.count(0), n);
            }
            x.text(3, 60);
            due("of blanks alone", x.press(3), 0);
        });
        says(11, "BAD; NOTHING; STATE: a FAULT. (STATE behind NOTHING.)", () -> {
            SetAsMeant x = sheetOf("lAB bC", "AF");
            x.hush(1, 1);
            x.print(0);
            x.keep(2);
            bad(x, "TEXT -1", () -> x.press(-1));
            bad(x, "TEXT 4", () -> x.press(4));
            found(x, "a missing one", NOTHING, () -> x.press(1));
            textOf(x, 1, "bA bB x");
            still(x, "a FAULT at the last place", STATE, () -> x.press(1));
            textOf(x, 1, "bAbAbAbAbAbAbAbAbA");
            still(x, "a ninth one", STATE, () -> x.press(1));
            textOf(x, 1, "dAB b");
            still(x, "a FAULT behind the TEXT", STATE, () -> x.press(1));
            lawIs(x, 0, 0, 0, 1, NONE, 1);
            due("kept ones stay", x.on(2), 1);
        });
    }

    private static void marks() {
        says(13, "a BLOT how many INKS of x were taken", () -> {
            SetAsMeant x = sheetOf("bA dAA", "AAAAAAAA");
            due("none", x.mark(0, 1), 0);
            x.print(0);
            due("none by itself", x.mark(0, 1), 0);
            x.hush(0, 1);
            deeds(x, 0, 39);
            due("all that can be", x.mark(0, 1), 624);
            x.undo(0);
            due("none again", x.mark(0, 1), 0);
        });
        says(13, "a DOUBLE one (INKED, too) how many other LAWS are of its x", () -> {
            due("none", pressOf("dAB bB").mark(0, 2), 0);
            due("none, of an INKED one", pressOf("iAB lBA").mark(0, 2), 0);
            SetAsMeant x = pressOf("dABlABlABbAbAbAbAiAB");
            due("all others", x.mark(0, 2), 7);
            due("all others of an INKED one", x.mark(7, 2), 7);
            x.hush(1, 1);
            due("HUSHED ones, too", x.mark(0, 2), 7);
        });
        says(13, "a SHY one (SLY, too) whether the first SIGN of the SHEET x, z is SET by it (1, 0)", () -> {
            due("by it", pressOf("sABC").mark(0, 3), 1);
            due("by one ahead", pressOf("lAD sABC").mark(1, 3), 0);
            due("by it, ahead of another one", pressOf("sABC lAD").mark(0, 3), 1);
            due("by it, of the last two", pressOf("lBCbBbBbBbBbBbBuAAA").mark(7, 3), 1);
            due("by one alike ahead", pressOf("uABC uABC").mark(1, 3), 0);
            due("by it, as another is shy of something else", pressOf("sABD sABC").mark(1, 3), 1);
            due("z being blotted", pressOf("bC sABC").mark(1, 3), 1);
            SetAsMeant x = pressOf("sABC");
            x.hush(0, 1);
            due("HUSHED", x.mark(0, 3), 0);
        });
        says(13, "a SLY one whether the SHEET x is (1, 0)", () -> {
            due("by it", pressOf("uABC").mark(0, 4), 1);
            due("a SHY one ahead does not hold", pressOf("sABC uABC").mark(1, 4), 1);
            due("a SLY one ahead does", pressOf("uABD uABC").mark(1, 4), 0);
            due("a LAW ahead does", pressOf("bA uABC").mark(1, 4), 0);
            SetAsMeant x = pressOf("uABC");
            x.hush(0, 1);
            due("HUSHED", x.mark(0, 4), 0);
        });
        says(13, "an INKED one whether the SHEET y comes OUT as y (1, 0)", () -> {
            due("by none", pressOf("iAB").mark(0, 5), 1);
            due("by itself, doubled", pressOf("iAA").mark(0, 5), 0);
            due("blotted", pressOf("iAB bB").mark(0, 5), 0);
            due("as y by a LAW", pressOf("iAB lBB").mark(0, 5), 1);
            due("doubled by another one", pressOf("iAB dBB").mark(0, 5), 0);
            due("otherwise", pressOf("iAB uBAC").mark(0, 5), 0);
            SetAsMeant x = pressOf("iAA");
            x.hush(0, 1);
            due("HUSHED itself", x.mark(0, 5), 1);
        });
        says(13, "BAD: also KIND 0; UNLIKE.", () -> {
            SetAsMeant x = pressOf("lAB iAB");
            bad(x, "KIND 0", () -> x.mark(0, 0));
            bad(x, "KIND 6", () -> x.mark(0, 6));
            bad(x, "KIND -1", () -> x.mark(0, -1));
            bad(x, "LAW 2 of two", () -> x.mark(2, 1));
            bad(x, "LAW -1", () -> x.mark(-1, 1));
            for (int kind = 1; kind <= 5; kind++) {
                int of = kind;
                found(x, "a LAW as KIND " + kind, UNLIKE, () -> x.mark(0, of));
            }
            due("KIND 5, the last one", x.mark(1, 5), 1);
        });
    }

    // ---- 2 what comes out

    private static void promises16To21() {
        says(16, "What a SHEET is SET as comes to a ROW (anew): how many SIGNS.", () -> {
            SetAsMeant x = sheetOf("dAB bC", "AAAAAAAA");
            due("to a missing one: 16", x.set(0, 5), 16);
            due("they", signs(x, 5), "AB".repeat(8));
            sheet(x, 1, "CCCCCCCC");
            due("to the same one: none", x.set(1, 5), 0);
            found(x, "no place is left", BEYOND, () -> x.at(5, 0));
            x.row(5, 40);
            due("to a full one: 16", x.set(0, 5), 16);
            found(x, "no place is left behind them", BEYOND, () -> x.at(5, 16));
            due("to itself: 16", x.set(0, 0), 16);
            found(x, "which is no SHEET any more", SIZE, () -> x.set(0, 0));
            sheet(x, 0, "");
            due("of none, none", x.set(0, 4), 0);
            due("it is there", x.tear(4), 1);
        });
        says(16, "BAD; NOTHING; SIZE; UNLIKE.", () -> {
            SetAsMeant x = pressOf("bA");
            bad(x, "of a missing one to ROW -1", () -> x.set(0, -1));
            bad(x, "of a missing one to ROW 6", () -> x.set(0, 6));
            refusesNoSheet(x, 8, r -> x.set(r, 5));
        });
        says(17, "The LAW by which a place of a SHEET is SET (NONE: by none).", () -> {
            SetAsMeant x = sheetOf("bAbAbBbBbBbCbCuFED", "AFFFFFFF");
            due("the first place", x.by(0, 0), 0);
            due("the place ahead of the last one", x.by(0, 6), NONE);
            due("the last place, by the last LAW", x.by(0, 7), 7);
        });
        says(17, "BAD: below 0; NOTHING; SIZE; UNLIKE; BEYOND. (In this order.)", () -> {
            SetAsMeant x = pressOf("bA");
            bad(x, "place -1 of a missing one", () -> x.by(0, -1));
            bad(x, "ROW 6", () -> x.by(6, 0));
            found(x, "a missing one", NOTHING, () -> x.by(0, 9));
            sheet(x, 0, "AAAAAAAAG");
            found(x, "too many", SIZE, () -> x.by(0, 9));
            sheet(x, 0, "AAAAAAAG");
            found(x, "no SIGN", UNLIKE, () -> x.by(0, 8));
            sheet(x, 0, "AAAAAAAA");
            found(x, "place 8 of 8", BEYOND, () -> x.by(0, 8));
            due("place 7 of 8", x.by(0, 7), 0);
            sheet(x, 0, "");
            found(x, "place 0 of none", BEYOND, () -> x.by(0, 0));
        });
        says(18, "The first place at which what comes OUT is another SIGN than what was WRITTEN there, "
            + "or one of both has ended.", () -> {
                due("the first place", sheetOf("lAB", "AAAAAAAA").first(0), 0);
                due("the last place", sheetOf("lAB", "CCCCCCCA").first(0), 7);
                due("what comes OUT has ended at once", sheetOf("bA", "AAAAAAAA").first(0), 0);
                due("what comes OUT has ended, the last one being blotted", sheetOf("bA", "CCCCCCCA").first(0), 7);
                due("what was WRITTEN has ended", sheetOf("dAA", "AAAAAAAA").first(0), 8);
                due("what was WRITTEN has ended, the last one being double", sheetOf("dAB", "CCCCCCCA").first(0), 8);
                due("what was WRITTEN has ended, being of one", sheetOf("dAA", "A").first(0), 1);
                due("a BLOT that shows later", sheetOf("bA", "AAAAAAAB").first(0), 0);
                due("a BLOT of one of two alike", sheetOf("sAAB bB", "AAB").first(0), 2);
            });
        says(18, "NONE: it comes OUT as it was WRITTEN.", () -> {
            due("none", sheetOf("lAB", "").first(0), NONE);
            due("by no LAW", sheetOf("lAB", "FFFFFFFF").first(0), NONE);
            due("by LAWS that set it as it is", sheetOf("lAA", "AAAAAAAA").first(0), NONE);
        });
        says(18, "BAD; NOTHING; SIZE; UNLIKE.", () -> {
            SetAsMeant x = pressOf("bA");
            refusesNoSheet(x, 8, x::first);
        });
        setAgain();
        resting();
        says(21, "Whether two SHEETS come OUT alike (1, 0).", () -> {
            SetAsMeant x = sheet(sheet(pressOf("bA lBC dDE"), 0, ""), 1, "AAAAAAAA");
            due("none and none", x.same(0, 1), 1);
            due("one with itself", x.same(1, 1), 1);
            sheet(x, 2, "DDDDDDDD");
            sheet(x, 3, "DDDDDDDE");
            due("one ends ahead of the other one", x.same(2, 3), 0);
            due("the other way around", x.same(3, 2), 0);
            sheet(x, 4, "BCBCBCBC");
            sheet(x, 5, "CCCCCCCC");
            due("8 and 8, alike", x.same(4, 5), 1);
            sheet(x, 5, "CCCCCCCD");
            due("8 and 9", x.same(4, 5), 0);
        });
        says(21, "BAD; NOTHING; SIZE; UNLIKE (either, the first ahead: all of one, then of the other one).", () -> {
            SetAsMeant x = sheet(sheet(sheet(pressOf("bA"), 0, "A"), 1, "AAAAAAAAA"), 2, "G");
            bad(x, "no ROW, then a missing one", () -> x.same(6, 5));
            bad(x, "a missing one, then no ROW", () -> x.same(5, -1));
            found(x, "too many, then a missing one", SIZE, () -> x.same(1, 5));
            found(x, "no SIGN, then a missing one", UNLIKE, () -> x.same(2, 5));
            found(x, "no SIGN, then too many", UNLIKE, () -> x.same(2, 1));
            found(x, "one, then a missing one", NOTHING, () -> x.same(0, 5));
            found(x, "one, then too many", SIZE, () -> x.same(0, 1));
            found(x, "one, then no SIGN", UNLIKE, () -> x.same(0, 2));
        });
    }

    private static void setAgain() {
        says(19, "A SHEET SET n (0 .. 9) times, each time what came OUT, comes to a ROW (anew): how many SIGNS.",
            () -> {
                SetAsMeant x = sheetOf("lABlBClCDlDElEFsFAF", "AFFFFFFF");
                String[] came = {"AFFFFFFF", "BAAAAAAF", "CBBBBBBF", "DCCCCCCF", "EDDDDDDF", "FEEEEEEF",
                    "FFFFFFFF", "AAAAAAAF", "BBBBBBBF", "CCCCCCCF"};
                for (int n = 0; n <= 9; n++) {
                    due("set " + n + " times", x.again(0, n, 1), 8);
                    due("what came OUT", signs(x, 1), came[n]);
                }
                bad(x, "-1 times", () -> x.again(0, -1, 1));
                bad(x, "10 times", () -> x.again(0, 10, 1));
                due("0 times, to itself", x.again(0, 0, 0), 8);
                due("it is as it was", signs(x, 0), "AFFFFFFF");
                x.row(2, 0);
                due("none, 9 times", x.again(2, 9, 3), 0);
                due("it is there", x.tear(3), 1);
            });
        says(19, "BAD; NOTHING; SIZE; UNLIKE;", () -> {
            SetAsMeant x = pressOf("bA");
            bad(x, "of a missing one to ROW -1", () -> x.again(0, 0, -1));
            bad(x, "of a missing one to ROW 6", () -> x.again(0, 0, 6));
            refusesNoSheet(x, 8, r -> x.again(r, 0, 5));
            refusesNoSheet(x, 8, r -> x.again(r, 9, 5));
        });
        says(19, "SPENT: ahead of the last time more than 8 came OUT. (SPENT last.)", () -> {
            SetAsMeant x = sheetOf("dAC", "AFFFFFFF");
            due("8, 0 times", x.again(0, 0, 1), 8);
            due("9 at the last time", x.again(0, 1, 1), 9);
            still(x, "9 ahead of the last time", SPENT, () -> x.again(0, 2, 1));
            sheet(x, 0, "AFFFFFF");
            due("8 ahead of the last time", x.again(0, 2, 1), 9);
            still(x, "8, then 9, ahead of the last time", SPENT, () -> x.again(0, 3, 1));
            sheet(x, 0, "A");
            due("1 and 8 times", x.again(0, 8, 1), 9);
            still(x, "1 and 9 times", SPENT, () -> x.again(0, 9, 1));
            // A, being ahead of B, is set as C, and B is blotted: so 9 are 8 again
            SetAsMeant z = sheetOf("sACB dAB bB", "ACCCCCCC");
            due("9 at the last time", z.again(0, 1, 1), 9);
            still(z, "9 ahead of 8", SPENT, () -> z.again(0, 2, 1));
            sheet(z, 0, "ACCCCCC");
            due("8 ahead of 7", z.again(0, 2, 1), 7);
            sheet(z, 0, "G");
            found(z, "no SIGN", UNLIKE, () -> z.again(0, 9, 1));
            bad(z, "no SIGN, and no ROW", () -> z.again(0, 9, 6));
        });
    }

    private static void restsAt(String press, String written, int times, int round) {
        SetAsMeant x = sheetOf(press, written);
        due("'" + press + "': rests of '" + written + "'", x.rests(0), times);
        due("'" + press + "': in how many times", x.asked(), round);
    }

    private static void resting() {
        says(20, "How many times a SHEET is SET till that is there which comes OUT again (0: it itself does); "
            + "in how many times it does by asked() (1: it rests).", () -> {
                restsAt("", "", 0, 1);
                restsAt("", "ABCDEFAB", 0, 1);
                restsAt("lAA", "A", 0, 1);
                restsAt("bA", "AAAAAAAA", 1, 1);
                restsAt("lAB lBA", "A", 0, 2);
                restsAt("lABlBClCDlDElEFlFA", "A", 0, 6);
                restsAt("lABlBClCDlDElEFlFE", "A", 4, 2);
                restsAt("lABlBClCDlDElEF", "A", 5, 1);
                restsAt("lABlBClCDlDElEFbF", "A", 6, 1);
            });
        says(20, "SPENT: more than 8 come OUT on the way", () -> {
            restsAt("sABC dAC", "AFFFFFF", 2, 1);
            SetAsMeant x = sheetOf("sABC dAC", "AFFFFFFF");
            x.mean(0);
            still(x, "9 on the way", SPENT, () -> x.rests(0));
            sheet(x, 0, "AAAAA");
            still(x, "10 on the way", SPENT, () -> x.rests(0));
            sheet(x, 0, "AAAA");
            due("8 on the way", x.rests(0), 2);
            restsAt("sACB dAB bB", "ACCCCCC", 2, 1);
            SetAsMeant y = sheetOf("sACB dAB bB", "ACCCCCCC");
            still(y, "9 on the way, ahead of 8 that rest", SPENT, () -> y.rests(0));
        });
        says(20, "or nothing comes again in 60 times", () -> {
            restsAt("sBAA lBC uABA sBAA uCAB uBBB", "CCACCBBB", 12, 48);
            SetAsMeant x = sheetOf("uBAB uACC sBBC sCCC uACB sAAA uBAB lCB", "ACCCBCCB");
            x.mean(0);
            still(x, "in 61 times", SPENT, () -> x.rests(0));
            x.set(0, 0);
            due("in 60 times, from the next one on", x.rests(0), 48);
            due("in how many times", x.asked(), 12);
        });
        says(20, "BAD; NOTHING; SIZE; UNLIKE. (SPENT last.)", () -> {
            SetAsMeant x = pressOf("bA");
            refusesNoSheet(x, 8, x::rests);
            SetAsMeant y = sheet(sheet(pressOf("dAA"), 1, "AAAAAAAAA"), 2, "AAAAAAAG");
            found(y, "9 that would be SPENT", SIZE, () -> y.rests(1));
            found(y, "no SIGN behind what would be SPENT", UNLIKE, () -> y.rests(2));
        });
    }

    // ---- 3 what was written

    private static void promises22To28() {
        says(22, "How many SHEETS of n (0 .. 6) SIGNS come OUT as a ROW (of 0 to 16 SIGNS), told by upper() "
            + "(lower() is 1): 1.", () -> {
                SetAsMeant x = sheet(sheet(pressOf("bAbBbCbDbEbF"), 0, ""), 1, "AAAAAAAAAAAAAAAA");
                int all = 1;
                for (int n = 0; n <= 6; n++) {
                    ratio(x, "all of " + n, x.meant(0, n), all, 1);
                    ratio(x, "none of " + n, x.meant(1, n), 0, 1);
                    all *= 6;
                }
                bad(x, "of -1", () -> x.meant(0, -1));
                bad(x, "of 7", () -> x.meant(0, 7));
                SetAsMeant y = sheetOf("dAA", "AAAAAAAAAAAA");
                ratio(y, "12 of 6", y.meant(0, 6), 1, 1);
                ratio(y, "12 of 5", y.meant(0, 5), 0, 1);
                sheet(y, 0, "AAAAAAAAAAAAA");
                ratio(y, "13 of 6", y.meant(0, 6), 0, 1);
                SetAsMeant z = sheetOf("uABC", "B");
                ratio(z, "A, B", z.meant(0, 1), 2, 1);
            });
        says(22, "BAD; NOTHING; SIZE: more than 16; UNLIKE.", () -> {
            SetAsMeant x = pressOf("bA");
            refusesNoSheet(x, 16, r -> x.meant(r, 0));
        });
        smallestOnes();
        says(24, "How many unlike SHEETS come OUT of all SHEETS of n (0 .. 4) SIGNS.", () -> {
            int[] all = {1, 6, 36, 216, 1296};
            SetAsMeant none = new SetAsMeant();
            SetAsMeant blots = pressOf("bAbBbCbDbEbF");
            SetAsMeant doubles = pressOf("dAFdBFdCFdDFdEFdFF");
            for (int n = 0; n <= 4; n++) {
                due("all of " + n, none.outs(n), all[n]);
                due("the empty one, of " + n, blots.outs(n), 1);
                due("all of " + n + ", doubled", doubles.outs(n), all[n]);
            }
            // of 3, 2, 1, 0 SIGNS other than A
            SetAsMeant x = pressOf("bA");
            due("all of up to 3 of five SIGNS", x.outs(3), 125 + 25 + 5 + 1);
            x.hush(0, 1);
            due("all of 4 behind that", x.outs(4), 1296);
            x.hush(0, 0);
            due("all of up to 4 behind that", x.outs(4), 625 + 125 + 25 + 5 + 1);
            due("the one of 0 behind that", x.outs(0), 1);
        });
        says(24, "BAD.", () -> {
            SetAsMeant x = pressOf("bA");
            bad(x, "-1", () -> x.outs(-1));
            bad(x, "5", () -> x.outs(5));
        });
        twinsAtTheirEnds();
        says(26, "How many SHEETS of n (0 .. 6) SIGNS come OUT without any SIGN of a set, told by upper() "
            + "(lower() is 1): 1.", () -> {
                SetAsMeant x = pressOf("lAB");
                int all = 1;
                int some = 1;
                for (int n = 0; n <= 6; n++) {
                    ratio(x, "without any of none, of " + n, x.harmless(0, n), all, 1);
                    ratio(x, "without any of all, of " + n, x.harmless(63, n), n == 0 ? 1 : 0, 1);
                    ratio(x, "without B, of " + n, x.harmless(2, n), some, 1);
                    ratio(x, "without A, of " + n, x.harmless(1, n), all, 1);
                    all *= 6;
                    some *= 4;
                }
                ratio(x, "without F, of 1", x.harmless(32, 1), 5, 1);
                SetAsMeant blots = pressOf("bAbBbCbDbEbF");
                ratio(blots, "all come OUT without any", blots.harmless(63, 6), 46656, 1);
                for (String press : new String[] {"dAF", "iAF"}) {
                    SetAsMeant y = pressOf(press);
                    ratio(y, press + ", without A", y.harmless(1, 1), 5, 1);
                    ratio(y, press + ", without F", y.harmless(32, 1), 4, 1);
                    ratio(y, press + ", without E", y.harmless(16, 1), 5, 1);
                }
            });
        says(26, "BAD.", () -> {
            SetAsMeant x = pressOf("bA");
            bad(x, "set -1", () -> x.harmless(-1, 0));
            bad(x, "set 64", () -> x.harmless(64, 0));
            bad(x, "of -1", () -> x.harmless(0, -1));
            bad(x, "of 7", () -> x.harmless(0, 7));
        });
        beliefs();
        forbidding();
    }

    private static void smallestOnes() {
        says(23, "The first SHEET (to 6 SIGNS) that comes OUT as a ROW (of 0 to 16 SIGNS) comes to a ROW (anew): "
            + "how many SIGNS.", () -> {
                SetAsMeant x = sheetOf("dAA bC", "");
                due("the empty one, to a missing ROW", x.smallest(0, 5), 0);
                due("it is there", x.tear(5), 1);
                x.row(5, 40);
                sheet(x, 0, "AAAAAAAAAAAA");
                due("6 that come OUT as 12", x.smallest(0, 5), 6);
                due("they", signs(x, 5), "AAAAAA");
                sheet(x, 0, "FEDEFB");
                due("6 as they are, to itself", x.smallest(0, 0), 6);
                due("they", signs(x, 0), "FEDEFB");
            });
        says(23, "NONE: there is none.", () -> {
            SetAsMeant x = sheetOf("dAA bC", "FFFFFFF");
            sheet(x, 1, "EE");
            still(x, "7 would do", NONE, () -> x.smallest(0, 1));
            sheet(x, 0, "AAAAAAAAAAAAAA");
            still(x, "7 would do, for 14", NONE, () -> x.smallest(0, 1));
            sheet(x, 0, "AAAAAAAAAAAAAAAA");
            still(x, "8 would do, for 16", NONE, () -> x.smallest(0, 1));
            sheet(x, 0, "C");
            still(x, "none at all would do", NONE, () -> x.smallest(0, 1));
        });
        says(23, "BAD; NOTHING; SIZE; UNLIKE.", () -> {
            SetAsMeant x = pressOf("bA");
            bad(x, "of a missing one to ROW 6", () -> x.smallest(0, 6));
            bad(x, "of a missing one to ROW -1", () -> x.smallest(0, -1));
            refusesNoSheet(x, 16, r -> x.smallest(r, 5));
        });
    }

    private static void twinsOf(String press, int n, String want) {
        SetAsMeant x = pressOf(press);
        x.row(5, 40);
        due("'" + press + "': twins of " + n, x.twins(n, 5), 1);
        due("'" + press + "': they", signs(x, 5), want);
    }

    private static void twinsAtTheirEnds() {
        says(25, "The first two unlike SHEETS of n (0 .. 4) SIGNS that come OUT alike (the first such first one, "
            + "then the first second one) come to a ROW one behind the other (anew): 1.", () -> {
                twinsOf("lAB", 1, "AB");
                twinsOf("lEF", 1, "EF");
                twinsOf("lAF lBE", 1, "AF");
                twinsOf("lAF lBF", 1, "AB");
                twinsOf("lFA", 4, "AAAAAAAF");
                twinsOf("bE bF", 4, "AAAEAAAF");
                twinsOf("bAbBbCbDbEbF", 4, "AAAAAAAB");
                twinsOf("sFEE sEEE", 2, "EEFE");
                SetAsMeant x = pressOf("lAB");
                due("to a missing ROW", x.twins(4, 0), 1);
                due("8 in all", signs(x, 0), "AAAAAAAB");
            });
        says(25, "NONE: none do.", () -> {
            SetAsMeant x = pressOf("dAB");
            for (int n = 0; n <= 4; n++) {
                int size = n;
                still(x, "of " + n, NONE, () -> x.twins(size, 5));
            }
            SetAsMeant y = pressOf("bAbBbCbDbEbF");
            still(y, "of 0 there is but one", NONE, () -> y.twins(0, 0));
            due("of 4 there are", y.twins(4, 0), 1);
            still(y, "of 0 behind that", NONE, () -> y.twins(0, 0));
        });
        says(25, "BAD.", () -> {
            SetAsMeant x = pressOf("lAB");
            bad(x, "of -1", () -> x.twins(-1, 0));
            bad(x, "of 5", () -> x.twins(5, 0));
            bad(x, "to ROW -1", () -> x.twins(1, -1));
            bad(x, "to ROW 6", () -> x.twins(1, 6));
            bad(x, "none of 0, to ROW 6", () -> x.twins(0, 6));
        });
    }

    private static void beliefs() {
        says(27, "(a ROW of 0 to 16 SIGNS) by who knows of the press to a depth (0 .. 3): at 0 just that; "
            + "else the first SHEET (to 6 SIGNS) that comes OUT as what is believed at 1 less; "
            + "it comes to a ROW (anew): how many SIGNS.", () -> {
                SetAsMeant x = sheetOf("lABlBClCD", "DDDDDD");
                String[] want = {"DDDDDD", "CCCCCC", "BBBBBB", "AAAAAA"};
                for (int depth = 0; depth <= 3; depth++) {
                    due("to depth " + depth, x.believed(0, depth, 1), 6);
                    due("that is", signs(x, 1), want[depth]);
                }
                bad(x, "to depth -1", () -> x.believed(0, -1, 1));
                bad(x, "to depth 4", () -> x.believed(0, 4, 1));
                sheet(x, 0, "ABCDEFABCDEFABCD");
                due("16 to depth 0", x.believed(0, 0, 5), 16);
                due("just that", signs(x, 5), "ABCDEFABCDEFABCD");
                sheet(x, 0, "");
                due("none to depth 3, to itself", x.believed(0, 3, 0), 0);
                due("it is there", x.tear(0), 1);
                SetAsMeant y = sheetOf("dAA", "AAAAAAAA");
                due("8, 4, 2, 1", y.believed(0, 3, 1), 1);
                due("8, 4, 2", y.believed(0, 2, 1), 2);
            });
        says(27, "NONE: none is believed.", () -> {
            SetAsMeant x = sheetOf("lABlBClCD", "C");
            sheet(x, 1, "EE");
            due("A, at last", x.believed(0, 2, 2), 1);
            still(x, "none comes OUT as A", NONE, () -> x.believed(0, 3, 1));
            sheet(x, 0, "A");
            still(x, "none at 1, so none at 3", NONE, () -> x.believed(0, 3, 1));
            sheet(x, 0, "FFFFFFF");
            due("7 at 0", x.believed(0, 0, 2), 7);
            still(x, "no 7 at 1", NONE, () -> x.believed(0, 1, 1));
        });
        says(27, "BAD; NOTHING; SIZE; UNLIKE.", () -> {
            SetAsMeant x = pressOf("bA");
            bad(x, "of a missing one to ROW 6", () -> x.believed(0, 0, 6));
            bad(x, "of a missing one to ROW -1", () -> x.believed(0, 0, -1));
            refusesNoSheet(x, 16, r -> x.believed(r, 0, 5));
            refusesNoSheet(x, 16, r -> x.believed(r, 3, 5));
        });
    }

    private static void forbids(String press, String out, int want, int which) {
        SetAsMeant x = sheetOf(press, out);
        due("'" + press + "': forbid of '" + out + "'", x.forbid(0), want);
        due("'" + press + "': which", x.asked(), which);
    }

    private static void forbidding() {
        says(28, "The fewest SIGNS to forbid in writing so that no SHEET of 0 to 4 SIGNS without these comes OUT "
            + "as a ROW (of 0 to 16 SIGNS); which by asked() (bits; the least of as many).", () -> {
                forbids("", "F", 1, 32);
                forbids("", "FFFF", 1, 32);
                forbids("", "FFFFF", 0, 0);
                forbids("dFF", "FFFFFFFF", 1, 32);
                forbids("dFF", "FFFFFFFFFF", 0, 0);
                forbids("dFF", "FFFFFFFFFFFFFFFF", 0, 0);
                forbids("", "FED", 1, 8);
                forbids("lAFlBFlCFlDFlEF", "F", 6, 63);
                forbids("lAFlBFlCFlDF", "F", 5, 47);
                forbids("lAC lBD", "CD", 2, 5);
                forbids("lAB", "A", 0, 0);
                forbids("", "FA", 1, 1);
                forbids("bA", "B", 1, 2);
                // C comes OUT of C, and of BA
                forbids("sBCA bA", "C", 2, 5);
            });
        says(28, "NONE: by none (an empty one comes OUT so).", () -> {
            SetAsMeant x = sheet(sheet(pressOf("lABlBClCD"), 0, ""), 1, "D");
            x.mean(1);
            still(x, "an empty one", NONE, () -> x.forbid(0));
            due("one that is not empty", x.forbid(1), 2);
        });
        says(28, "BAD; NOTHING; SIZE; UNLIKE.", () -> {
            SetAsMeant x = pressOf("bA");
            refusesNoSheet(x, 16, x::forbid);
        });
    }

    // ---- 4 what to forbid, what to hush; 5 chances

    private interface Pair {
        int answer(int r, int q);
    }

    /** "(of the SHEET, then of the ROW)", and "likewise". */
    private static void refusesSheetThenRow(SetAsMeant x, Pair call) {
        sheet(x, 0, "A");
        sheet(x, 1, "AAAAAAAAG");
        sheet(x, 2, "AAAAAAAG");
        sheet(x, 3, "AAAAAAAAAAAAAAAAG");
        sheet(x, 4, "AAAAAAAAAAAAAAAF");
        bad(x, "a missing one, then ROW 6", () -> call.answer(5, 6));
        bad(x, "a missing one, then ROW -1", () -> call.answer(5, -1));
        bad(x, "ROW 6, then a missing one", () -> call.answer(6, 5));
        bad(x, "ROW -1, then a missing one", () -> call.answer(-1, 5));
        found(x, "a missing one, then 17", NOTHING, () -> call.answer(5, 3));
        found(x, "9, then a missing one", SIZE, () -> call.answer(1, 5));
        found(x, "no SIGN, then a missing one", UNLIKE, () -> call.answer(2, 5));
        found(x, "one, then a missing one", NOTHING, () -> call.answer(0, 5));
        found(x, "one, then 17", SIZE, () -> call.answer(0, 3));
        found(x, "one, then no SIGN among 9", UNLIKE, () -> call.answer(0, 1));
        found(x, "16 are too many for a SHEET", SIZE, () -> call.answer(4, 4));
        long before = x.findings(NOTHING) + x.findings(SIZE) + x.findings(UNLIKE);
        call.answer(0, 4);
        due("16 are not too many for a ROW",
            x.findings(NOTHING) + x.findings(SIZE) + x.findings(UNLIKE), before);
    }

    private static void silences(String press, String written, String out, int want, int which) {
        SetAsMeant x = pair(press, written, out);
        due("'" + press + "': silence of '" + written + "' as '" + out + "'", x.silence(0, 1), want);
        due("'" + press + "': which", x.asked(), which);
    }

    private static void promises29To33() {
        says(29, "The fewest LAWS that are ON to be HUSHED so that a SHEET comes OUT as another ROW "
            + "(of 0 to 16 SIGNS); which by asked() (bits; the least of as many).", () -> {
                silences("", "", "", 0, 0);
                silences("lAB", "A", "B", 0, 0);
                silences("lAB", "A", "A", 1, 1);
                silences("dAA", "AAAAAAAA", "AAAAAAAAAAAAAAAA", 0, 0);
                silences("bA dAA", "AAAAAAAA", "AAAAAAAAAAAAAAAA", 1, 1);
                silences(EIGHT, "A", "A", 8, 255);
                silences("lCBlCBlCBlCBlCBlCBlCBlAB", "A", "A", 1, 128);
                silences("dAA dBA", "AB", "AAB", 1, 2);
                silences("lAA bB lBA dBB", "AB", "AA", 1, 2);
                // LAW 0 alone, or LAW 1 alone, does
                silences("dAA iBA", "AB", "AAB", 1, 1);
                SetAsMeant x = pair(EIGHT, "A", "A");
                for (int k = 0; k < 7; k++) {
                    x.hush(k, 1);
                }
                due("HUSHED ones are none to be HUSHED", x.silence(0, 1), 1);
                due("which", x.asked(), 128);
                due("it is ON all the same", x.count(1), 1);
            });
        says(29, "NONE: by none.", () -> {
            SetAsMeant x = pair("lAB lAC", "A", "F");
            x.mean(1);
            still(x, "by none", NONE, () -> x.silence(0, 1));
            sheet(x, 1, "");
            still(x, "by none as none", NONE, () -> x.silence(0, 1));
            sheet(x, 1, "B");
            x.hush(0, 1);
            still(x, "by none that is ON", NONE, () -> x.silence(0, 1));
        });
        says(29, "BAD; NOTHING; SIZE; UNLIKE (of the SHEET, then of the ROW).", () -> {
            SetAsMeant x = pressOf("bA");
            refusesSheetThenRow(x, x::silence);
        });
        whichWereOn();
        ofWhichKind();
        chances();
    }

    private static void whichOf(String press, String written, String out, int want, int first) {
        SetAsMeant x = pair(press, written, out);
        due("'" + press + "': which of '" + written + "' as '" + out + "'", x.which(0, 1), want);
        due("'" + press + "': the first", x.asked(), first);
    }

    private static void whichWereOn() {
        says(30, "By how many sets of LAWS that are ON (of all sets) a SHEET comes OUT as another ROW; "
            + "the first by asked() (NONE: none).", () -> {
                whichOf("", "", "", 1, 0);
                whichOf("", "A", "B", 0, NONE);
                whichOf("lAB", "A", "A", 1, 0);
                whichOf("lAB", "A", "B", 1, 1);
                whichOf("lAB", "A", "C", 0, NONE);
                whichOf(EIGHT, "", "", 256, 0);
                whichOf(EIGHT, "A", "B", 255, 1);
                whichOf("lABlABlABlABlABlABlABlAC", "A", "C", 1, 128);
                whichOf("dAA", "AAAAAAAA", "AAAAAAAAAAAAAAAA", 1, 1);
                SetAsMeant x = pair("lABlABlABlABlABlABlABlAC", "A", "C");
                for (int k = 0; k < 8; k++) {
                    x.hush(k, 1);
                }
                due("of all sets, whatever is HUSHED", x.which(0, 1), 1);
                due("the first", x.asked(), 128);
            });
        says(30, "BAD; NOTHING; SIZE; UNLIKE (likewise).", () -> {
            SetAsMeant x = pressOf("bA");
            refusesSheetThenRow(x, x::which);
        });
    }

    private static void kindsOf(String press, int k, String written, String out, int want) {
        SetAsMeant x = pair(press, written, out);
        x.mean(0);
        still(x, "'" + press + "': kinds of " + k + ", '" + written + "' as '" + out + "'", want,
            () -> x.kinds(k, 0, 1));
    }

    private static void ofWhichKind() {
        says(31, "Of which KINDS (bits) a LAW can be (with its x; y, z as they are, of what has none 0) "
            + "so that a SHEET comes OUT as another ROW.", () -> {
                kindsOf("lFE", 0, "A", "A", 63);
                kindsOf("lFE", 0, "A", "B", 0);
                kindsOf("lFE", 0, "F", "E", 1 + 16);
                kindsOf("lFE", 0, "F", "", 2);
                kindsOf("lFE", 0, "F", "FE", 4);
                kindsOf("lFE", 0, "F", "F", 8);
                kindsOf("lFE", 0, "F", "EF", 32);
                kindsOf("lFE", 0, "FA", "EA", 1 + 8 + 16);
                kindsOf("bF", 0, "F", "A", 1 + 16);
                kindsOf("bF", 0, "F", "FA", 4);
                kindsOf("bF", 0, "FA", "AA", 1 + 8 + 16);
                kindsOf("bF", 0, "FB", "FB", 8 + 16);
                kindsOf("dFF", 0, "FFFFFFFF", "FFFFFFFFFFFFFFFF", 4 + 32);
                kindsOf("bFbFbFbFbFbFbFuEFE", 7, "EE", "FF", 1 + 16);
                kindsOf("uEFD", 0, "EA", "FA", 1);
                kindsOf("bF", 0, "", "", 63);
                SetAsMeant x = pair("lFE", "F", "F");
                x.hush(0, 1);
                due("a HUSHED one, of any KIND", x.kinds(0, 0, 1), 63);
            });
        says(31, "BAD; NOTHING; SIZE; UNLIKE (likewise).", () -> {
            SetAsMeant x = pressOf(EIGHT);
            bad(x, "LAW 8 of eight", () -> x.kinds(8, 5, 5));
            bad(x, "LAW -1", () -> x.kinds(-1, 5, 5));
            refusesSheetThenRow(x, (r, q) -> x.kinds(7, r, q));
        });
    }

    private static void chances() {
        says(32, "each LAW that is ON failing by p (0 .. 12) of 12 for the whole SHEET, each by itself: 1.", () -> {
            SetAsMeant x = pair("lAB", "AAAAAAAA", "BBBBBBBB");
            int[][] want = {{1, 1}, {11, 12}, {5, 6}, {3, 4}, {2, 3}, {7, 12}, {1, 2}, {5, 12}, {1, 3}, {1, 4},
                {1, 6}, {1, 12}, {0, 1}};
            for (int p = 0; p <= 12; p++) {
                ratio(x, "by " + p, x.odds(0, 1, p), want[p][0], want[p][1]);
            }
            bad(x, "by -1", () -> x.odds(0, 1, -1));
            bad(x, "by 13", () -> x.odds(0, 1, 13));
            sheet(x, 1, "BBBBBBBA");
            ratio(x, "one of eight fails by no chance", x.odds(0, 1, 6), 0, 1);
            SetAsMeant y = pair(EIGHT, "A", "A");
            ratio(y, "all of eight by 1", y.odds(0, 1, 1), 1, 429981696);
            ratio(y, "all of eight by 12", y.odds(0, 1, 12), 1, 1);
            for (int k = 0; k < 8; k++) {
                y.hush(k, 1);
            }
            ratio(y, "none is ON", y.odds(0, 1, 1), 1, 1);
            SetAsMeant z = pair("", "", "");
            ratio(z, "none as none, by no LAW", z.odds(0, 1, 12), 1, 1);
            SetAsMeant w = pair("dAA", "AAAAAAAA", "AAAAAAAAAAAAAAAA");
            ratio(w, "8 as 16", w.odds(0, 1, 9), 1, 4);
        });
        says(32, "BAD; NOTHING; SIZE; UNLIKE (likewise).", () -> {
            SetAsMeant x = pressOf("bA");
            refusesSheetThenRow(x, (r, q) -> x.odds(r, q, 5));
        });
        says(33, "The mean of how many SIGNS come OUT of it so: 1.", () -> {
            SetAsMeant x = sheetOf("bA", "");
            ratio(x, "of none", x.mid(0, 6), 0, 1);
            sheet(x, 0, "AAAAAAAA");
            ratio(x, "of 8 blotted by all chance", x.mid(0, 0), 0, 1);
            ratio(x, "of 8 blotted by no chance", x.mid(0, 12), 8, 1);
            ratio(x, "of 8 blotted by 11 of 12", x.mid(0, 1), 2, 3);
            ratio(x, "of 8 blotted by 1 of 12", x.mid(0, 11), 22, 3);
            bad(x, "by -1", () -> x.mid(0, -1));
            bad(x, "by 13", () -> x.mid(0, 13));
            SetAsMeant y = sheetOf("dAAdABdACdADdAEdAFiABiAC", "AAAAAAAA");
            ratio(y, "of 8 doubled", y.mid(0, 0), 16, 1);
            // 8, and 8 more unless all eight fail: 16 less 8 by 12 to the 8th
            ratio(y, "of 8 doubled, if not all fail by 1", y.mid(0, 1), 859963391, 53747712);
        });
        says(33, "BAD; NOTHING; SIZE; UNLIKE.", () -> {
            SetAsMeant x = pressOf("bA");
            refusesNoSheet(x, 8, r -> x.mid(r, 0));
        });
    }

    // ---- 6 printed truly

    private static void promises34To40() {
        says(34, "A SHEET is PRINTED: how many SIGNS came OUT.", () -> {
            SetAsMeant x = sheetOf("dAA bB", "AAAAAAAA");
            due("16", x.print(0), 16);
            sheet(x, 0, "BBBBBBBB");
            due("none", x.print(0), 0);
            sheet(x, 0, "");
            due("none of none", x.print(0), 0);
            due("three DEEDS", x.count(2), 3);
        });
        says(34, "BAD; NOTHING; SIZE; UNLIKE; FULL: 40 DEEDS. (FULL last.)", () -> {
            SetAsMeant x = pressOf("");
            refusesNoSheet(x, 8, x::print);
            deeds(x, 3, 39);
            bad(x, "ROW 6, at 40 DEEDS", () -> x.print(6));
            found(x, "a missing one, at 40 DEEDS", NOTHING, () -> x.print(0));
            found(x, "9, at 40 DEEDS", SIZE, () -> x.print(1));
            found(x, "no SIGN, at 40 DEEDS", UNLIKE, () -> x.print(2));
            still(x, "40 DEEDS", FULL, () -> x.print(3));
            x.undo(39);
            due("39 DEEDS", x.print(3), 8);
            still(x, "40 DEEDS again", FULL, () -> x.print(3));
        });
        says(35, "How many INKS of a SIGN were taken.", () -> {
            SetAsMeant x = sheetOf("dAF", "AAAAAAAA");
            deeds(x, 0, 40);
            due("of the first SIGN", x.ink(0), 320);
            due("of the last SIGN", x.ink(5), 320);
            due("of one that never came OUT", x.ink(1), 0);
        });
        says(35, "BAD.", () -> {
            SetAsMeant x = sheetOf("dAF", "A");
            bad(x, "SIGN -1", () -> x.ink(-1));
            bad(x, "SIGN 6", () -> x.ink(6));
        });
        undone();
        says(37, "What came OUT of a DEED comes to a ROW (anew): how many SIGNS.", () -> {
            SetAsMeant x = sheetOf("dAB bC", "AAAAAAAA");
            x.print(0);
            sheet(x, 0, "C");
            x.print(0);
            x.hush(0, 1);
            due("16, to a missing ROW", x.drawer(0, 5), 16);
            due("what came OUT then", signs(x, 5), "AB".repeat(8));
            due("none, to the same one", x.drawer(1, 5), 0);
            found(x, "no place is left", BEYOND, () -> x.at(5, 0));
            due("it is there", x.tear(5), 1);
        });
        says(37, "BAD.", () -> {
            SetAsMeant x = sheetOf("", "A");
            bad(x, "DEED 0 of none", () -> x.drawer(0, 0));
            deeds(x, 0, 40);
            due("DEED 39 of 40", x.drawer(39, 1), 1);
            bad(x, "DEED 40 of 40", () -> x.drawer(40, 1));
            bad(x, "DEED -1", () -> x.drawer(-1, 1));
            bad(x, "to ROW -1", () -> x.drawer(0, -1));
            bad(x, "to ROW 6", () -> x.drawer(0, 6));
            x.undo(1);
            bad(x, "DEED 1, undone", () -> x.drawer(1, 1));
        });
        lotsAtTheirEnds();
        keptPresses();
    }

    private static void undone() {
        says(36, "DEEDS from number n on are undone (LAWS stay): how many.", () -> {
            SetAsMeant x = sheetOf("dAF", "AAAAAAAA");
            still(x, "0 of none", 0, () -> x.undo(0));
            deeds(x, 0, 40);
            x.hush(0, 1);
            still(x, "from behind the last one on", 0, () -> x.undo(40));
            due("the last one", x.undo(39), 1);
            due("INKS of F", x.ink(5), 312);
            due("all but the first one", x.undo(1), 38);
            due("INKS of F", x.ink(5), 8);
            due("all", x.undo(0), 1);
            due("no INK", x.count(3), 0);
            due("the LAW stays, and HUSHED", x.hush(0, 0), 1);
        });
        says(36, "BAD.", () -> {
            SetAsMeant x = sheetOf("dAF", "A");
            bad(x, "1 of none", () -> x.undo(1));
            x.print(0);
            bad(x, "-1", () -> x.undo(-1));
            bad(x, "2 of one", () -> x.undo(2));
            deeds(x, 0, 39);
            bad(x, "41 of 40", () -> x.undo(41));
        });
    }

    private static void lotsAtTheirEnds() {
        says(38, "n (1 .. 20) SHEETS by LOTS of a seed, aside: for each a number: it modulo 9 is how many SIGNS, "
            + "then for each SIGN a number: it by 16, cut, modulo 6: how many come OUT as they were WRITTEN.", () -> {
                SetAsMeant none = new SetAsMeant();
                SetAsMeant all = pressOf("bAbBbCbDbEbF");
                for (int seed = 1; seed <= 90; seed++) {
                    int empty = lotAfter(BigInteger.valueOf(seed)).intValue() % 9 == 0 ? 1 : 0;
                    due("one of seed " + seed + ", if it is empty", all.lots(1, seed), empty);
                    due("20 of seed " + seed + ", if they are", all.lots(20, seed), lotsWithout(63, 20, seed));
                    due("20 of seed " + seed + ", by no LAW", none.lots(20, seed), 20);
                }
                for (int sign = 0; sign <= 5; sign++) {
                    SetAsMeant x = pressOf("b" + (char) ('A' + sign));
                    for (int seed = 2147483646; seed > 2147483600; seed--) {
                        due("20 of seed " + seed, x.lots(20, seed), lotsWithout(1 << sign, 20, seed));
                    }
                }
                SetAsMeant x = sheetOf("bA", "A");
                x.print(0);
                still(x, "aside", lotsWithout(1, 20, 7), () -> x.lots(20, 7));
                deeds(x, 0, 39);
                still(x, "aside, 40 DEEDS being there", lotsWithout(1, 20, 7), () -> x.lots(20, 7));
            });
        says(38, "BAD.", () -> {
            SetAsMeant x = pressOf("bA");
            bad(x, "none", () -> x.lots(0, 1));
            bad(x, "21", () -> x.lots(21, 1));
            bad(x, "-1", () -> x.lots(-1, 1));
            bad(x, "seed 0", () -> x.lots(1, 0));
            bad(x, "seed -1", () -> x.lots(1, -1));
            bad(x, "seed 2147483647", () -> x.lots(20, MAX));
            bad(x, "the least int", () -> x.lots(20, MIN));
        });
    }

    private static void keptPresses() {
        says(39, "is kept in a place (0 .. 2): how many DEEDS.", () -> {
            SetAsMeant x = sheetOf("bA", "B");
            due("none, in place 0", x.keep(0), 0);
            deeds(x, 0, 40);
            due("40, in place 2", x.keep(2), 40);
            due("40, in place 0 anew", x.keep(0), 40);
            due("two places", x.count(8), 2);
            due("place 1", x.keep(1), 40);
            due("three places", x.count(8), 3);
        });
        says(39, "BAD; STATE: no LAWS.", () -> {
            SetAsMeant x = sheet(new SetAsMeant(), 0, "A");
            x.print(0);
            still(x, "no LAWS, yet a DEED", STATE, () -> x.keep(0));
            bad(x, "place -1, no LAWS", () -> x.keep(-1));
            bad(x, "place 3, no LAWS", () -> x.keep(3));
            textOf(x, 0, "bA");
            x.press(0);
            x.hush(0, 1);
            due("one LAW, HUSHED", x.keep(2), 0);
            bad(x, "place -1", () -> x.keep(-1));
            bad(x, "place 3", () -> x.keep(3));
            x.text(0, 0);
            x.press(0);
            still(x, "no LAWS any more", STATE, () -> x.keep(2));
        });
        says(40, "The PRESS is as it was kept: how many DEEDS.", () -> {
            SetAsMeant x = sheetOf("lABbCbCbCbCbCbCuFED", "AF");
            x.hush(7, 1);
            x.swap(0, 7);
            deeds(x, 0, 40);
            x.keep(2);
            long kept = x.digest();
            x.undo(0);
            x.hush(0, 0);
            x.swap(0, 3);
            x.print(0);
            due("40", x.on(2), 40);
            due("all is as it was", x.digest(), kept);
            still(x, "40 DEEDS are there", FULL, () -> x.print(0));
            x.undo(0);
            due("40 again", x.on(2), 40);
            due("all is as it was, again", x.digest(), kept);
            x.undo(1);
            x.keep(0);
            due("1, of place 0", x.on(0), 1);
            due("40, of place 2 still", x.on(2), 40);
        });
        says(40, "BAD; NOTHING.", () -> {
            SetAsMeant x = pressOf("bA");
            bad(x, "place -1", () -> x.on(-1));
            bad(x, "place 3", () -> x.on(3));
            for (int k = 0; k < 3; k++) {
                int place = k;
                found(x, "place " + k + ", missing", NOTHING, () -> x.on(place));
            }
            x.keep(2);
            found(x, "place 1, missing still", NOTHING, () -> x.on(1));
            due("place 2", x.on(2), 0);
            x.press(0);
            found(x, "place 2, gone", NOTHING, () -> x.on(2));
        });
    }

    // ---- 7 what is told

    private static void promises41To47() {
        says(41, "What the latest lay(), at(), mean(), law(), rests(), forbid(), silence(), which() "
            + "that was not refused (nor NONE, but as told) told; 0 before.", EdgesTest::askedAtItsEnds);
        says(42, "The upper number that was told last; 0 before.", () -> {
            SetAsMeant x = new SetAsMeant();
            due("before", x.upper(), 0);
            x.meant(0, 0);
            x.odds(0, 0, 13);
            x.harmless(64, 0);
            due("before, still: they were refused", x.upper(), 0);
            x.harmless(0, 6);
            due("46656", x.upper(), 46656);
            x.harmless(0, 7);
            due("46656, still", x.upper(), 46656);
            x.harmless(63, 6);
            due("0", x.upper(), 0);
        });
        says(43, "Its lower number; 1 before.", () -> {
            SetAsMeant x = new SetAsMeant();
            due("before", x.lower(), 1);
            textOf(x, 0, EIGHT);
            x.press(0);
            sheet(sheet(x, 0, "A"), 1, "A");
            x.odds(0, 1, 1);
            due("12 to the 8th", x.lower(), 429981696);
            x.odds(0, 1, 13);
            x.mid(5, 1);
            due("12 to the 8th, still", x.lower(), 429981696);
            x.odds(0, 1, 0);
            due("1, of 0", x.lower(), 1);
        });
        says(44, "0 LAWS, 1 LAWS that are ON, 2 DEEDS, 3 INKS taken in all, 4 DOUBLE ones (INKED, too), "
            + "5 SHY ones (SLY, too), 6 ROWS, 7 TEXTS that are there, 8 kept PRESSES.", EdgesTest::countsAtTheirEnds);
        says(44, "BAD.", () -> {
            SetAsMeant x = new SetAsMeant();
            bad(x, "-1", () -> x.count(-1));
            bad(x, "9", () -> x.count(9));
            bad(x, "the greatest int", () -> x.count(MAX));
            bad(x, "the least int", () -> x.count(MIN));
        });
        says(45, "The latest FINDING (0 before any).", () -> {
            SetAsMeant x = new SetAsMeant();
            due("before any", x.finding(), 0);
            x.row(6, 0);
            x.keep(0);
            due("before any, still: BAD and STATE are none", x.finding(), 0);
            x.row(0, -1);
            due("SIZE, the last", x.finding(), SIZE);
            x.tear(0);
            due("NOTHING, the first", x.finding(), NOTHING);
            x.row(0, 0);
            due("it stays when a call goes through", x.finding(), NOTHING);
        });
        says(46, "How often a FINDING (1 .. 5) was answered.", () -> {
            SetAsMeant x = new SetAsMeant();
            for (int f = 1; f <= 5; f++) {
                due("findings(" + f + ") before any", x.findings(f), 0);
            }
            for (int n = 0; n < 490; n++) {
                x.tear(0);
            }
            due("as often as there are calls", x.findings(NOTHING), 490);
            for (int f = 2; f <= 5; f++) {
                due("findings(" + f + ") still", x.findings(f), 0);
            }
        });
        says(46, "BAD.", () -> {
            SetAsMeant x = new SetAsMeant();
            bad(x, "0", () -> x.findings(0));
            bad(x, "6", () -> x.findings(6));
            bad(x, "-1", () -> x.findings(-1));
        });
        digests();
    }

    private static void askedAtItsEnds() {
        SetAsMeant x = new SetAsMeant();
        due("before", x.asked(), 0);
        textOf(x, 0, EIGHT);
        x.press(0);
        sheet(sheet(x, 0, "A"), 1, "B");
        x.row(2, 1);
        x.lay(2, 0, MIN);
        x.lay(2, 0, MAX);
        due("lay()", x.asked(), MIN);
        x.lay(2, 1, 7);
        due("lay(), refused", x.asked(), MIN);
        x.at(2, 0);
        due("at()", x.asked(), MAX);
        x.at(3, 0);
        due("at(), refused", x.asked(), MAX);
        x.mean(1);
        due("mean()", x.asked(), 1);
        x.law(0, 3);
        due("law(), of what it has none", x.asked(), NONE);
        x.law(8, 0);
        due("law(), refused", x.asked(), NONE);
        x.rests(1);
        due("rests()", x.asked(), 1);
        x.forbid(0);
        due("forbid(), no SIGN", x.asked(), 0);
        x.silence(0, 0);
        due("silence(), all LAWS", x.asked(), 255);
        x.row(3, 0);
        x.forbid(3);
        due("forbid(), NONE", x.asked(), 255);
        x.silence(0, 3);
        due("silence(), NONE", x.asked(), 255);
        x.silence(0, 2);
        due("silence(), refused", x.asked(), 255);
        x.which(0, 2);
        due("which(), refused", x.asked(), 255);
        x.which(0, 3);
        due("which(), NONE, which it tells", x.asked(), NONE);
        x.which(1, 1);
        due("which(), no LAW", x.asked(), 0);
    }

    private static void countsAtTheirEnds() {
        SetAsMeant none = new SetAsMeant();
        for (int what = 0; what <= 8; what++) {
            due("count(" + what + ") of nothing", none.count(what), 0);
        }
        SetAsMeant x = sheetOf("dAAdAAdAAdAAiAAiAAiAAiAA", "AAAAAAAA");
        for (int r = 1; r <= 5; r++) {
            x.row(r, 0);
        }
        for (int t = 1; t <= 3; t++) {
            x.text(t, 0);
        }
        deeds(x, 0, 40);
        for (int k = 0; k <= 2; k++) {
            x.keep(k);
        }
        int[] want = {8, 8, 40, 640, 8, 0, 6, 4, 3};
        for (int what = 0; what <= 8; what++) {
            due("count(" + what + ") of as much as fits", x.count(what), want[what]);
        }
        for (int k = 0; k < 8; k++) {
            x.hush(k, 1);
        }
        due("none is ON", x.count(1), 0);
        due("DOUBLE ones are, HUSHED or not", x.count(4), 8);
        SetAsMeant y = pressOf("sAAAsAAAsAAAsAAAuAAAuAAAuAAAuAAA");
        due("no DOUBLE ones", y.count(4), 0);
        due("SHY ones", y.count(5), 8);
    }

    private static void digests() {
        says(47, "h = 17; then h = 31 h + v for each v", () -> {
            // 9 counts, 6 inks, 3 kept ones, 6 ROWS, 4 TEXTS of a new object
            BigInteger h = BigInteger.valueOf(17);
            for (int n = 0; n < 28; n++) {
                h = h.multiply(BigInteger.valueOf(31)).add(BigInteger.valueOf(n < 15 ? 0 : -1));
            }
            due("a new object, the long having gone around", new SetAsMeant().digest(), h.longValue());
        });
        says(47, "count() 0 to 8; of each LAW law() 0 to 4; ink() of each SIGN; of each DEED how many SIGNS came OUT, "
            + "and these; of each kept PRESS how many DEEDS (-1: missing); of each ROW its size (-1: missing) "
            + "and places, of each TEXT likewise.", () -> {
                SetAsMeant x = sheetOf("dAFdAFdAFdAFdAFdAFdAFbA", "AAAAAAAA");
                deeds(x, 0, 40);
                for (int k = 0; k <= 2; k++) {
                    x.keep(k);
                }
                for (int r = 0; r <= 5; r++) {
                    x.row(r, 40);
                    x.lay(r, 39, r % 2 == 0 ? MIN : MAX);
                }
                for (int t = 0; t <= 3; t++) {
                    x.text(t, 60);
                    x.put(t, 59, t % 2 == 0 ? -128 : 127);
                }
                due("as much as fits", x.digest(), digestOfAll());
                x.tear(5);
                long torn = x.digest();
                x.row(5, 0);
                due("an empty one is not a missing one", x.digest() == torn ? 1 : 0, 0);
            });
    }

    private static long digestOfAll() {
        List<Integer> all = new ArrayList<>(List.of(8, 8, 40, 640, 7, 0, 6, 4, 3));
        for (int k = 0; k < 7; k++) {
            all.addAll(List.of(2, 0, 5, NONE, 1));
        }
        all.addAll(List.of(1, 0, NONE, NONE, 1));
        all.addAll(List.of(320, 0, 0, 0, 0, 320));
        for (int n = 0; n < 40; n++) {
            all.add(16);
            for (int i = 0; i < 8; i++) {
                all.addAll(List.of(0, 5));
            }
        }
        all.addAll(List.of(40, 40, 40));
        for (int r = 0; r <= 5; r++) {
            all.add(40);
            for (int i = 0; i < 39; i++) {
                all.add(0);
            }
            all.add(r % 2 == 0 ? MIN : MAX);
        }
        for (int t = 0; t <= 3; t++) {
            all.add(60);
            for (int i = 0; i < 59; i++) {
                all.add(32);
            }
            all.add(t % 2 == 0 ? -128 : 127);
        }
        BigInteger h = BigInteger.valueOf(17);
        for (int v : all) {
            h = h.multiply(BigInteger.valueOf(31)).add(BigInteger.valueOf(v));
        }
        return h.longValue();
    }
}
