import java.lang.reflect.Method;
import java.lang.reflect.Modifier;
import java.util.ArrayList;
import java.util.Arrays;
import java.util.List;
import java.util.function.Supplier;

/**
 * Every call with every mix of what its arguments may be: the last values that are taken and the first
 * that are not, at both ends. Of several reasons to refuse a call the first one by the document's order
 * is answered, and what is refused changes nothing but finding(), findings().
 */
public final class RefusalsTest extends Bench {
    private static final int TAKEN = 99;
    private static final List<String> TRIED = new ArrayList<>();

    /** One argument; a reason to refuse it, by its rank in the document's order, or TAKEN. */
    private record Value(int v, int rank, int answer, int finding) { }

    private interface Call {
        int answer(SetAsMeant x, int[] a);
    }

    public static void main(String[] args) {
        rowsAndTexts();
        laws();
        whatComesOut();
        whatWasWritten();
        whatToForbid();
        printedTruly();
        whatIsTold();
        where = "all calls";
        for (Method method : SetAsMeant.class.getDeclaredMethods()) {
            if (Modifier.isPublic(method.getModifiers()) && method.getParameterCount() > 0) {
                due(method.getName() + " was tried", TRIED.contains(method.getName()) ? 1 : 0, 1);
            }
        }
        end();
    }

    // ---- the tools

    private static Value[] values(int rank, int answer, int finding, int... all) {
        return Arrays.stream(all).mapToObj(v -> new Value(v, rank, answer, finding)).toArray(Value[]::new);
    }

    private static Value[] taken(int... all) {
        return values(TAKEN, 0, 0, all);
    }

    private static Value[] bad(int... all) {
        return values(0, BAD, 0, all);
    }

    private static Value[] found(int rank, int finding, int... all) {
        return values(rank, FINDING, finding, all);
    }

    private static Value[] refused(int rank, int answer, int... all) {
        return values(rank, answer, 0, all);
    }

    private static Value[] arg(Value[]... parts) {
        return Arrays.stream(parts).flatMap(Arrays::stream).toArray(Value[]::new);
    }

    /** A number of from .. to, and no other. */
    private static Value[] from(int from, int to) {
        return arg(taken(from, to), bad(from - 1, to + 1, MIN, MAX));
    }

    private static Value[] anyRow() {
        return arg(from(0, 5), taken(1));
    }

    /** ROWS of a rich object as a SHEET: NOTHING, SIZE, UNLIKE, of ranks from one on. */
    private static Value[] sheetFrom(int rank) {
        return arg(taken(0, 4), bad(-1, 6, MIN, MAX),
            found(rank, NOTHING, 1), found(rank + 1, SIZE, 2, 5), found(rank + 2, UNLIKE, 3));
    }

    private static Value[] outFrom(int rank) {
        return arg(taken(0, 4, 5), bad(-1, 6, MIN, MAX),
            found(rank, NOTHING, 1), found(rank + 1, SIZE, 2), found(rank + 2, UNLIKE, 3));
    }

    private static void rows(SetAsMeant x) {
        sheet(x, 0, "AB");
        sheet(x, 2, "AAGAAAAAAAAAAAAAA");
        sheet(x, 3, "AAAAAAAG");
        sheet(x, 4, "");
        sheet(x, 5, "ABABABABABABABAB");
    }

    /** ROW 1, TEXT 1, kept PRESS 1 are missing; TEXT 2 has a FAULT; all that is told is not as at first. */
    private static SetAsMeant rich() {
        SetAsMeant x = pressOf("bC lAB dDE sEFA uBAC iFA");
        textOf(x, 2, "lA");
        x.text(3, 0);
        rows(x);
        x.print(0);
        x.keep(0);
        x.hush(1, 1);
        x.swap(0, 2);
        x.print(0);
        x.keep(2);
        x.odds(0, 0, 5);
        x.at(0, 1);
        x.mean(4);
        return x;
    }

    private static SetAsMeant doubling() {
        SetAsMeant x = pressOf("dAB dBA");
        rows(x);
        x.keep(1);
        x.at(0, 1);
        x.tear(1);
        return x;
    }

    private static SetAsMeant full() {
        SetAsMeant x = pressOf("iAB");
        rows(x);
        for (int n = 0; n < 40; n++) {
            x.print(0);
        }
        x.at(0, 1);
        x.tear(1);
        return x;
    }

    private static SetAsMeant lawless() {
        SetAsMeant x = new SetAsMeant();
        rows(x);
        x.print(0);
        x.at(0, 1);
        x.tear(1);
        return x;
    }

    /** All that is told, and what the kept PRESSES are: these are gone on from, so x is spent by it. */
    private static long[] dump(SetAsMeant x) {
        long[] told = state(x);
        long[] all = Arrays.copyOf(told, told.length + 6);
        for (int k = 0; k < 3; k++) {
            all[told.length + 2 * k] = x.on(k);
            all[told.length + 2 * k + 1] = x.digest();
        }
        return all;
    }

    private static void call(String name, Supplier<SetAsMeant> made, Call call, Value[]... args) {
        where = name;
        if (!TRIED.contains(name)) {
            TRIED.add(name);
        }
        long[] before = dump(made.get());
        int mixes = 1;
        for (Value[] arg : args) {
            mixes *= arg.length;
        }
        for (int mix = 0; mix < mixes; mix++) {
            Value[] chosen = new Value[args.length];
            int rest = mix;
            for (int i = 0; i < args.length; i++) {
                chosen[i] = args[i][rest % args[i].length];
                rest /= args[i].length;
            }
            tryMix(made.get(), call, chosen, before);
        }
    }

    private static void tryMix(SetAsMeant x, Call call, Value[] chosen, long[] before) {
        Value first = chosen[0];
        int[] a = new int[chosen.length];
        for (int i = 0; i < a.length; i++) {
            a[i] = chosen[i].v;
            first = chosen[i].rank < first.rank ? chosen[i] : first;
        }
        String what = where + Arrays.toString(a);
        int answer = call.answer(x, a);
        if (first.rank == TAKEN) {
            due(what + " goes through", answer >= 0 || answer == NONE ? 1 : 0, 1);
            return;
        }
        due(what, answer, first.answer);
        long[] want = before.clone();
        if (first.finding > 0) {
            want[4] = first.finding;
            want[4 + first.finding]++;
        }
        long[] after = dump(x);
        due(what + ": what is as it was, but for finding(), findings(), ends at", Arrays.mismatch(want, after), -1);
    }

    // ---- the calls, with the reasons to refuse them in the document's order

    private static void rowsAndTexts() {
        call("row", RefusalsTest::rich, (x, a) -> x.row(a[0], a[1]), anyRow(),
            arg(taken(0, 40), bad(41, MAX), found(1, SIZE, -1, MIN)));
        Value[] row = arg(taken(0), bad(-1, 6, MIN, MAX), found(1, NOTHING, 1));
        Value[] placeOfTwo = arg(taken(0, 1), found(2, BEYOND, -1, 2, MIN, MAX));
        call("lay", RefusalsTest::rich, (x, a) -> x.lay(a[0], a[1], a[2]), row, placeOfTwo, taken(0, MIN, MAX));
        call("at", RefusalsTest::rich, (x, a) -> x.at(a[0], a[1]), row, placeOfTwo);
        call("tear", RefusalsTest::rich, (x, a) -> x.tear(a[0]), arg(row, taken(5)));
        call("mean", RefusalsTest::rich, (x, a) -> x.mean(a[0]), arg(row, found(2, NOUGHT, 4)));
        call("copy", RefusalsTest::rich, (x, a) -> x.copy(a[0], a[1], a[2], a[3], a[4]),
            arg(taken(0), bad(-1, 6), found(2, NOTHING, 1)), arg(taken(0, 1), found(3, BEYOND, -1, 3, MIN, MAX)),
            arg(taken(5), bad(-1, 6), found(2, NOTHING, 1)), arg(taken(0, 15), found(3, BEYOND, -1, 17, MIN, MAX)),
            arg(taken(0, 1), found(1, SIZE, -1, MIN), found(3, BEYOND, 3, MAX)));
        call("text", RefusalsTest::rich, (x, a) -> x.text(a[0], a[1]), arg(from(0, 3), taken(1)),
            arg(taken(0, 60), bad(61, MAX), found(1, SIZE, -1, MIN)));
        call("put", RefusalsTest::rich, (x, a) -> x.put(a[0], a[1], a[2]),
            arg(taken(2), bad(-1, 4, MIN, MAX), found(1, NOTHING, 1)), placeOfTwo, taken(0, MIN, MAX));
        Value[] text = arg(taken(0, 3), bad(-1, 4, MIN, MAX), found(1, NOTHING, 1));
        call("fault", RefusalsTest::rich, (x, a) -> x.fault(a[0]), arg(text, taken(2)));
        call("press", RefusalsTest::rich, (x, a) -> x.press(a[0]), arg(text, refused(2, STATE, 2)));
    }

    private static void laws() {
        call("law", RefusalsTest::rich, (x, a) -> x.law(a[0], a[1]), from(0, 5), from(0, 4));
        call("law", RefusalsTest::lawless, (x, a) -> x.law(a[0], a[1]), bad(-1, 0, 1), from(0, 4));
        // LAWS 0 to 5 of a rich object are a DOUBLE, a LAW, a BLOT, a SHY, a SLY, an INKED one
        int[][] are = {{2}, {}, {1}, {3}, {3, 4}, {2, 5}};
        int[][] areNot = {{1, 3, 4, 5}, {1, 2, 3, 4, 5}, {2, 3, 4, 5}, {1, 2, 4, 5}, {1, 2, 5}, {1, 3, 4}};
        for (int k = 0; k < are.length; k++) {
            call("mark", RefusalsTest::rich, (x, a) -> x.mark(a[0], a[1]), arg(taken(k), bad(-1, 6, MIN, MAX)),
                arg(taken(are[k]), bad(0, -1, 6, MIN, MAX), found(1, UNLIKE, areNot[k])));
        }
        call("hush", RefusalsTest::rich, (x, a) -> x.hush(a[0], a[1]), from(0, 5), from(0, 1));
        call("hush", RefusalsTest::lawless, (x, a) -> x.hush(a[0], a[1]), bad(-1, 0, 1), from(0, 1));
        call("swap", RefusalsTest::rich, (x, a) -> x.swap(a[0], a[1]), from(0, 5), from(0, 5));
        call("swap", RefusalsTest::lawless, (x, a) -> x.swap(a[0], a[1]), bad(-1, 0, 1), bad(-1, 0, 1));
    }

    private static void whatComesOut() {
        call("set", RefusalsTest::rich, (x, a) -> x.set(a[0], a[1]), sheetFrom(1), anyRow());
        call("by", RefusalsTest::rich, (x, a) -> x.by(a[0], a[1]),
            arg(taken(0), bad(-1, 6, MIN, MAX), found(1, NOTHING, 1), found(2, SIZE, 2, 5), found(3, UNLIKE, 3)),
            arg(taken(0, 1), bad(-1, MIN), found(4, BEYOND, 40, MAX)));
        call("by", RefusalsTest::rich, (x, a) -> x.by(a[0], a[1]), taken(0),
            arg(taken(0, 1), found(4, BEYOND, 2)));
        call("first", RefusalsTest::rich, (x, a) -> x.first(a[0]), sheetFrom(1));
        call("again", RefusalsTest::rich, (x, a) -> x.again(a[0], a[1], a[2]), sheetFrom(1), from(0, 9), anyRow());
        Value[] growing = arg(taken(0), bad(-1, 6), found(1, NOTHING, 1), found(2, SIZE, 2, 5), found(3, UNLIKE, 3));
        call("again", RefusalsTest::doubling, (x, a) -> x.again(a[0], a[1], a[2]), growing,
            arg(taken(0, 3), refused(4, SPENT, 4, 9), bad(-1, 10)), arg(taken(0, 1), bad(-1, 6)));
        call("rests", RefusalsTest::rich, (x, a) -> x.rests(a[0]), sheetFrom(1));
        call("rests", RefusalsTest::doubling, (x, a) -> x.rests(a[0]), arg(taken(4), refused(4, SPENT, 0),
            bad(-1, 6), found(1, NOTHING, 1), found(2, SIZE, 2, 5), found(3, UNLIKE, 3)));
        call("same", RefusalsTest::rich, (x, a) -> x.same(a[0], a[1]), sheetFrom(1), sheetFrom(4));
    }

    private static void whatWasWritten() {
        call("meant", RefusalsTest::rich, (x, a) -> x.meant(a[0], a[1]), outFrom(1), from(0, 6));
        call("smallest", RefusalsTest::rich, (x, a) -> x.smallest(a[0], a[1]), outFrom(1), anyRow());
        call("outs", RefusalsTest::rich, (x, a) -> x.outs(a[0]), from(0, 4));
        call("twins", RefusalsTest::rich, (x, a) -> x.twins(a[0], a[1]), from(0, 4), anyRow());
        call("harmless", RefusalsTest::rich, (x, a) -> x.harmless(a[0], a[1]), from(0, 63), from(0, 6));
        call("believed", RefusalsTest::rich, (x, a) -> x.believed(a[0], a[1], a[2]),
            outFrom(1), from(0, 3), anyRow());
    }

    private static void whatToForbid() {
        call("forbid", RefusalsTest::rich, (x, a) -> x.forbid(a[0]), outFrom(1));
        call("silence", RefusalsTest::rich, (x, a) -> x.silence(a[0], a[1]), sheetFrom(1), outFrom(4));
        call("which", RefusalsTest::rich, (x, a) -> x.which(a[0], a[1]), sheetFrom(1), outFrom(4));
        call("kinds", RefusalsTest::rich, (x, a) -> x.kinds(a[0], a[1], a[2]), from(0, 5), sheetFrom(1), outFrom(4));
        call("kinds", RefusalsTest::lawless, (x, a) -> x.kinds(a[0], a[1], a[2]),
            bad(-1, 0, 1), sheetFrom(1), outFrom(4));
        call("odds", RefusalsTest::rich, (x, a) -> x.odds(a[0], a[1], a[2]), sheetFrom(1), outFrom(4), from(0, 12));
        call("mid", RefusalsTest::rich, (x, a) -> x.mid(a[0], a[1]), sheetFrom(1), from(0, 12));
    }

    private static void printedTruly() {
        call("print", RefusalsTest::rich, (x, a) -> x.print(a[0]), sheetFrom(1));
        call("print", RefusalsTest::full, (x, a) -> x.print(a[0]), arg(refused(4, FULL, 0, 4), bad(-1, 6, MIN, MAX),
            found(1, NOTHING, 1), found(2, SIZE, 2, 5), found(3, UNLIKE, 3)));
        call("ink", RefusalsTest::rich, (x, a) -> x.ink(a[0]), from(0, 5));
        call("undo", RefusalsTest::rich, (x, a) -> x.undo(a[0]), from(0, 2));
        call("undo", RefusalsTest::full, (x, a) -> x.undo(a[0]), from(0, 40));
        call("drawer", RefusalsTest::rich, (x, a) -> x.drawer(a[0], a[1]), from(0, 1), anyRow());
        call("drawer", RefusalsTest::full, (x, a) -> x.drawer(a[0], a[1]), from(0, 39), anyRow());
        call("drawer", RefusalsTest::doubling, (x, a) -> x.drawer(a[0], a[1]), bad(-1, 0, 1), anyRow());
        // seed 2147483647 is the greatest int, and from(1, ..) would go around behind it
        call("lots", RefusalsTest::rich, (x, a) -> x.lots(a[0], a[1]), from(1, 20),
            arg(taken(1, 2147483646), bad(0, -1, MIN, 2147483647)));
        call("keep", RefusalsTest::rich, (x, a) -> x.keep(a[0]), from(0, 2));
        call("keep", RefusalsTest::lawless, (x, a) -> x.keep(a[0]),
            arg(refused(1, STATE, 0, 1, 2), bad(-1, 3, MIN, MAX)));
        call("on", RefusalsTest::rich, (x, a) -> x.on(a[0]), arg(from(0, 2), found(1, NOTHING, 1)));
        call("on", RefusalsTest::lawless, (x, a) -> x.on(a[0]),
            arg(found(1, NOTHING, 0, 1, 2), bad(-1, 3, MIN, MAX)));
    }

    private static void whatIsTold() {
        call("count", RefusalsTest::rich, (x, a) -> x.count(a[0]), from(0, 8));
        call("findings", RefusalsTest::rich, (x, a) -> x.findings(a[0]), from(1, 5));
    }
}
