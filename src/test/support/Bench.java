import java.util.Arrays;
import java.util.function.IntSupplier;

/** What the tests share: presses and sheets by their letters, and answers held against what is due. */
abstract class Bench {
    static final int BAD = -1, FULL = -2, FINDING = -3, STATE = -4, SPENT = -6, NONE = -9;
    static final int NOTHING = 1, BEYOND = 2, UNLIKE = 3, NOUGHT = 4, SIZE = 5;
    static final int MIN = Integer.MIN_VALUE, MAX = Integer.MAX_VALUE;

    /** Which promise, or which sentence of it, is being tested. */
    static String where = "";
    static int checks = 0;
    static int wrong = 0;

    static void due(String what, long got, long want) {
        checks++;
        if (got != want) {
            say(what + " answered " + got + ", due is " + want);
        }
    }

    static void due(String what, String got, String want) {
        checks++;
        if (!got.equals(want)) {
            say(what + " is " + got + ", due is " + want);
        }
    }

    static void say(String what) {
        wrong++;
        System.out.println(where + ": " + what);
    }

    static void end() {
        System.out.println(wrong == 0 ? "all answers are as due" : wrong + " answers are not as due");
        if (wrong != 0) {
            System.exit(1);
        }
    }

    /** finding() stands at 4, findings(f) at 4 + f. */
    static long[] state(SetAsMeant x) {
        long[] s = {x.digest(), x.asked(), x.upper(), x.lower(), x.finding(),
            x.findings(1), x.findings(2), x.findings(3), x.findings(4), x.findings(5)};
        return s;
    }

    /** The call answers so, and changes nothing at all. */
    static void still(SetAsMeant x, String what, int want, IntSupplier call) {
        long[] before = state(x);
        due(what, call.getAsInt(), want);
        if (!Arrays.equals(before, state(x))) {
            say(what + " changed what it mustn't");
        }
    }

    static void bad(SetAsMeant x, String what, IntSupplier call) {
        still(x, what, BAD, call);
    }

    /** The call answers FINDING, and changes nothing but finding(), findings(). */
    static void found(SetAsMeant x, String what, int finding, IntSupplier call) {
        long[] before = state(x);
        due(what, call.getAsInt(), FINDING);
        due(what + ", finding()", x.finding(), finding);
        before[4] = finding;
        before[4 + finding]++;
        if (!Arrays.equals(before, state(x))) {
            say(what + " changed what it mustn't");
        }
    }

    static SetAsMeant textOf(SetAsMeant x, int t, String s) {
        x.text(t, s.length());
        for (int i = 0; i < s.length(); i++) {
            x.put(t, i, s.charAt(i));
        }
        return x;
    }

    /** A new object with a PRESS, and with TEXT 0 that it was made by. */
    static SetAsMeant pressOf(String s) {
        SetAsMeant x = textOf(new SetAsMeant(), 0, s);
        if (x.press(0) < 0) {
            throw new IllegalArgumentException(s);
        }
        return x;
    }

    static SetAsMeant sheet(SetAsMeant x, int r, String signs) {
        x.row(r, signs.length());
        for (int i = 0; i < signs.length(); i++) {
            x.lay(r, i, signs.charAt(i) - 'A');
        }
        return x;
    }

    static SetAsMeant pair(String press, String written, String out) {
        return sheet(sheet(pressOf(press), 0, written), 1, out);
    }

    static String signs(SetAsMeant x, int r) {
        StringBuilder s = new StringBuilder();
        for (int i = 0; x.at(r, i) == 1; i++) {
            s.append((char) ('A' + x.asked()));
        }
        return s.toString();
    }

    static void lawIs(SetAsMeant x, int k, int... want) {
        for (int what = 0; what < want.length; what++) {
            due("law(" + k + ", " + what + ")", x.law(k, what), 1);
            due("law(" + k + ", " + what + ") asked()", x.asked(), want[what]);
        }
    }
}
