import java.util.ArrayList;
import java.util.Arrays;
import java.util.HashMap;
import java.util.HashSet;
import java.util.List;
import java.util.Map;
import java.util.Random;
import java.util.Set;

/**
 * Long runs of calls by seeded chance, each answered by SetAsMeant and by Plain, which follows the
 * document word by word and tries every sheet; all that can be asked for is compared on the way.
 */
public final class OracleTest {
    /** Nothing is promised behind the 512th call: a new PRESS takes up to 63, all that is told 10 more. */
    private static final int MOST_CALLS = 512, LAST_CALLS = 80;
    private static final Map<String, Integer> WENT_THROUGH = new HashMap<>();
    private static int wrong = 0;

    private final Random chance;
    private final int seed;
    private final SetAsMeant x = new SetAsMeant();
    private final Plain y = new Plain();
    private final List<String> calls = new ArrayList<>();
    private int made = 0;
    private boolean failed = false;

    private OracleTest(int seed) {
        this.seed = seed;
        this.chance = new Random(seed * 7919L + 1);
    }

    public static void main(String[] args) {
        int runs = args.length > 0 ? Integer.parseInt(args[0]) : 800;
        for (int seed = 0; seed < runs && wrong < 10; seed++) {
            new OracleTest(seed).run();
        }
        for (String call : CALLS) {
            if (WENT_THROUGH.getOrDefault(call, 0) < runs / 8) {
                System.out.println(call + " went through only " + WENT_THROUGH.getOrDefault(call, 0) + " times");
                wrong++;
            }
        }
        System.out.println(wrong == 0 ? "all answers are as due" : wrong + " answers are not as due");
        if (wrong != 0) {
            System.exit(1);
        }
    }

    private static final String[] CALLS = {"row", "lay", "at", "tear", "copy", "mean", "text", "put", "fault",
        "press", "law", "mark", "hush", "swap", "set", "by", "first", "again", "rests", "same", "meant",
        "smallest", "outs", "twins", "harmless", "believed", "forbid", "silence", "which", "kinds", "odds",
        "mid", "print", "ink", "undo", "drawer", "lots", "keep", "on", "count", "findings"};

    private void run() {
        newPress();
        for (int r = 0; r < 4; r++) {
            newSheet(r);
        }
        while (!failed && made < MOST_CALLS - LAST_CALLS) {
            int roll = chance.nextInt(100);
            if (roll < 1) {
                newPress();
            } else if (roll < 6) {
                newSheet(chance.nextInt(6));
            } else if (roll < 9) {
                told();
            } else {
                String call = CALLS[chance.nextInt(CALLS.length)];
                call(call, arguments(call));
            }
        }
        if (!failed) {
            told();
        }
    }

    private void newPress() {
        String s = randomPress();
        int t = chance.nextInt(4);
        call("text", t, s.length());
        for (int i = 0; i < s.length(); i++) {
            if (s.charAt(i) != ' ') {
                call("put", t, i, s.charAt(i));
            }
        }
        call("fault", t);
        call("press", t);
    }

    private void newSheet(int r) {
        int n = chance.nextInt(12) == 0 ? chance.nextInt(18) : chance.nextInt(5);
        call("row", r, n);
        int signs = 1 + chance.nextInt(6);
        for (int i = 0; i < n; i++) {
            call("lay", r, i, chance.nextInt(60) == 0 ? chance.nextInt() : chance.nextInt(signs));
        }
    }

    private String randomPress() {
        StringBuilder s = new StringBuilder();
        int items = chance.nextInt(12) == 0 ? 9 : chance.nextInt(9);
        int signs = 2 + chance.nextInt(5);
        boolean noDoubles = chance.nextBoolean();
        for (int i = 0; i < items; i++) {
            for (int blanks = chance.nextInt(3); blanks > 0; blanks--) {
                s.append(' ');
            }
            int kind = chance.nextInt(6);
            kind = noDoubles && (kind == 2 || kind == 5) ? 3 : kind;
            s.append(Plain.LETTERS.charAt(kind));
            for (int n = Plain.NEEDS[kind]; n > 0; n--) {
                s.append((char) ('A' + chance.nextInt(signs)));
            }
        }
        if (chance.nextInt(12) == 0 && s.length() > 0) {
            s.setCharAt(chance.nextInt(s.length()), (char) chance.nextInt(128));
        }
        if (chance.nextInt(12) == 0 && s.length() > 0) {
            s.setLength(s.length() - 1);
        }
        return s.length() > 60 ? s.substring(0, 60) : s.toString();
    }

    /** Mostly arguments that go through; now and then any at all. */
    private int[] arguments(String call) {
        int[] a = likelyArguments(call);
        if (chance.nextInt(20) == 0) {
            int[] odd = {-1, -2, 0, 6, 7, 8, 9, 10, 12, 13, 16, 20, 21, 40, 41, 60, 61, 63, 64,
                Integer.MIN_VALUE, Integer.MAX_VALUE};
            a[chance.nextInt(a.length)] = odd[chance.nextInt(odd.length)];
        }
        return a;
    }

    private int[] likelyArguments(String call) {
        int laws = Math.max(1, y.laws.size());
        int deeds = y.deeds.size() + 1;
        int r = chance.nextInt(6);
        int q = chance.nextInt(6);
        int t = chance.nextInt(4);
        int k = chance.nextInt(laws);
        switch (call) {
            case "row": return new int[] {r, chance.nextInt(5)};
            case "lay": return new int[] {r, chance.nextInt(5), chance.nextInt(9) == 0 ? chance.nextInt() : chance.nextInt(6)};
            case "copy": return new int[] {r, chance.nextInt(3), q, chance.nextInt(3), chance.nextInt(4)};
            case "text": return new int[] {t, chance.nextInt(61)};
            case "put": return new int[] {t, chance.nextInt(20), chance.nextInt(4) == 0 ? chance.nextInt() : chance.nextInt(128)};
            case "fault": case "press": return new int[] {t};
            case "law": return new int[] {k, chance.nextInt(5)};
            case "mark": return new int[] {k, 1 + chance.nextInt(5)};
            case "hush": return new int[] {k, chance.nextInt(2)};
            case "swap": return new int[] {k, chance.nextInt(laws)};
            case "at": case "by": return new int[] {r, chance.nextInt(5)};
            case "again": return new int[] {r, chance.nextInt(10), q};
            case "meant": return new int[] {r, chance.nextInt(7)};
            case "outs": return new int[] {chance.nextInt(5)};
            case "twins": return new int[] {chance.nextInt(5), r};
            case "harmless": return new int[] {chance.nextInt(64), chance.nextInt(7)};
            case "believed": return new int[] {r, chance.nextInt(4), q};
            case "kinds": return new int[] {k, r, q};
            case "odds": return new int[] {r, q, chance.nextInt(13)};
            case "mid": return new int[] {r, chance.nextInt(13)};
            case "undo": return new int[] {deeds - 1 - Math.min(deeds - 1, chance.nextInt(3))};
            case "drawer": return new int[] {chance.nextInt(deeds), r};
            case "lots": return new int[] {1 + chance.nextInt(20), 1 + chance.nextInt(2147483646)};
            case "keep": case "on": return new int[] {chance.nextInt(3)};
            case "count": return new int[] {chance.nextInt(9)};
            case "findings": return new int[] {1 + chance.nextInt(5)};
            case "tear": case "mean": case "first": case "rests": case "forbid": case "print": case "ink":
                return new int[] {r};
            default: return new int[] {r, q};
        }
    }

    private void call(String name, int... a) {
        if (failed) {
            return;
        }
        calls.add(name + Arrays.toString(a));
        int got = answer(x, name, a);
        int want = y.answer(name, a);
        due(name, got, want);
        if (want >= 0) {
            WENT_THROUGH.merge(name, 1, Integer::sum);
        }
        int roll = made < MOST_CALLS - LAST_CALLS ? chance.nextInt(4) : 3;
        if (roll == 0) {
            due("asked", x.asked(), y.asked);
        } else if (roll == 1) {
            due("upper", x.upper(), y.upper);
            due("lower", x.lower(), y.lower);
        } else if (roll == 2) {
            due("digest", x.digest(), y.digest());
        }
    }

    private void told() {
        due("asked", x.asked(), y.asked);
        due("upper", x.upper(), y.upper);
        due("lower", x.lower(), y.lower);
        due("finding", x.finding(), y.finding);
        for (int f = 1; f <= 5; f++) {
            due("findings(" + f + ")", x.findings(f), y.findings[f]);
        }
        due("digest", x.digest(), y.digest());
    }

    /** Every call is held against what is due, so they are counted here. */
    private void due(String name, long got, long want) {
        made++;
        if (got != want && !failed) {
            failed = true;
            wrong++;
            System.out.println("run " + seed + ": " + name + " answered " + got + ", due is " + want + ", by " + calls);
        }
    }

    private static int answer(SetAsMeant x, String call, int[] a) {
        switch (call) {
            case "row": return x.row(a[0], a[1]);
            case "lay": return x.lay(a[0], a[1], a[2]);
            case "at": return x.at(a[0], a[1]);
            case "tear": return x.tear(a[0]);
            case "copy": return x.copy(a[0], a[1], a[2], a[3], a[4]);
            case "mean": return x.mean(a[0]);
            case "text": return x.text(a[0], a[1]);
            case "put": return x.put(a[0], a[1], a[2]);
            case "fault": return x.fault(a[0]);
            case "press": return x.press(a[0]);
            case "law": return x.law(a[0], a[1]);
            case "mark": return x.mark(a[0], a[1]);
            case "hush": return x.hush(a[0], a[1]);
            case "swap": return x.swap(a[0], a[1]);
            case "set": return x.set(a[0], a[1]);
            case "by": return x.by(a[0], a[1]);
            case "first": return x.first(a[0]);
            case "again": return x.again(a[0], a[1], a[2]);
            case "rests": return x.rests(a[0]);
            case "same": return x.same(a[0], a[1]);
            case "meant": return x.meant(a[0], a[1]);
            case "smallest": return x.smallest(a[0], a[1]);
            case "outs": return x.outs(a[0]);
            case "twins": return x.twins(a[0], a[1]);
            case "harmless": return x.harmless(a[0], a[1]);
            case "believed": return x.believed(a[0], a[1], a[2]);
            case "forbid": return x.forbid(a[0]);
            case "silence": return x.silence(a[0], a[1]);
            case "which": return x.which(a[0], a[1]);
            case "kinds": return x.kinds(a[0], a[1], a[2]);
            case "odds": return x.odds(a[0], a[1], a[2]);
            case "mid": return x.mid(a[0], a[1]);
            case "print": return x.print(a[0]);
            case "ink": return x.ink(a[0]);
            case "undo": return x.undo(a[0]);
            case "drawer": return x.drawer(a[0], a[1]);
            case "lots": return x.lots(a[0], a[1]);
            case "keep": return x.keep(a[0]);
            case "on": return x.on(a[0]);
            case "count": return x.count(a[0]);
            case "findings": return x.findings(a[0]);
            default: throw new IllegalArgumentException(call);
        }
    }

    /** A LAW by its letter; y, z are -9 where it has none. */
    private record Rule(char letter, int x, int y, int z) {
        boolean holds(int sign, int next) {
            boolean z = next == this.z;
            switch (letter) {
                case 's': return sign == x && z;
                case 'u': return sign == x && (z || next < 0);
                default: return sign == x;
            }
        }

        List<Integer> out() {
            switch (letter) {
                case 'b': return List.of();
                case 'd': return List.of(x, y);
                case 'i': return List.of(y, x);
                default: return List.of(y);
            }
        }

        boolean is(int kind) {
            return Plain.LETTERS.charAt(kind) == letter || kind == 0
                || kind == 3 && letter == 'u' || kind == 2 && letter == 'i';
        }
    }

    private record Kept(List<Rule> laws, List<Boolean> hushed, List<List<Integer>> deeds) { }

    /** The refused ones, thrown to keep the answers themselves plain. */
    private static final class Refused extends RuntimeException {
        final int code;
        final int finding;

        Refused(int code, int finding) {
            super(null, null, false, false);
            this.code = code;
            this.finding = finding;
        }
    }

    private static final class Plain {
        static final String LETTERS = "lbdsui";
        static final int[] NEEDS = {2, 1, 2, 3, 3, 2};

        final List<List<Integer>> rows = new ArrayList<>();
        final List<byte[]> texts = new ArrayList<>();
        List<Rule> laws = new ArrayList<>();
        List<Boolean> hushed = new ArrayList<>();
        List<List<Integer>> deeds = new ArrayList<>();
        final Kept[] kept = new Kept[3];
        int asked = 0;
        long upper = 0;
        long lower = 1;
        int finding = 0;
        final int[] findings = new int[6];

        Plain() {
            for (int i = 0; i < 6; i++) {
                rows.add(null);
            }
            for (int i = 0; i < 4; i++) {
                texts.add(null);
            }
        }

        int answer(String call, int[] a) {
            try {
                return plain(call, a);
            } catch (Refused refused) {
                if (refused.code == -3) {
                    finding = refused.finding;
                    findings[finding]++;
                }
                return refused.code;
            }
        }

        private static void bad(boolean is) {
            refuse(is, -1, 0);
        }

        private static void find(boolean is, int finding) {
            refuse(is, -3, finding);
        }

        private static void refuse(boolean is, int code, int finding) {
            if (is) {
                throw new Refused(code, finding);
            }
        }

        private static void in(int v, int from, int to) {
            bad(v < from || v > to);
        }

        private static boolean is(int v, int from, int to) {
            return v >= from && v <= to;
        }

        private List<Integer> signs(int r, int most) {
            List<Integer> row = rows.get(r);
            find(row == null, 1);
            find(row.size() > most, 5);
            find(!row.stream().allMatch(v -> is(v, 0, 5)), 3);
            return new ArrayList<>(row);
        }

        private int put(int r, List<Integer> row) {
            rows.set(r, new ArrayList<>(row));
            return row.size();
        }

        private int by(List<Integer> sheet, int i, List<Rule> laws, List<Boolean> hushed) {
            int next = i + 1 < sheet.size() ? sheet.get(i + 1) : -1;
            for (int k = 0; k < laws.size(); k++) {
                if (!hushed.get(k) && laws.get(k).holds(sheet.get(i), next)) {
                    return k;
                }
            }
            return -9;
        }

        private List<Integer> set(List<Integer> sheet, List<Rule> laws, List<Boolean> hushed) {
            List<Integer> out = new ArrayList<>();
            for (int i = 0; i < sheet.size(); i++) {
                int k = by(sheet, i, laws, hushed);
                out.addAll(k < 0 ? List.of(sheet.get(i)) : laws.get(k).out());
            }
            return out;
        }

        private List<Integer> set(List<Integer> sheet) {
            return set(sheet, laws, hushed);
        }

        /** Hushed are those that were, and those of a set. */
        private List<Boolean> hushedToo(int set) {
            List<Boolean> all = new ArrayList<>();
            for (int k = 0; k < laws.size(); k++) {
                all.add(hushed.get(k) || (set >> k & 1) == 1);
            }
            return all;
        }

        private boolean allOn(int set) {
            for (int k = 0; k < 8; k++) {
                if ((set >> k & 1) == 1 && (k >= laws.size() || hushed.get(k))) {
                    return false;
                }
            }
            return true;
        }

        private static List<List<Integer>> sheets(int n) {
            List<List<Integer>> all = new ArrayList<>();
            all.add(List.of());
            for (int i = 0; i < n; i++) {
                List<List<Integer>> longer = new ArrayList<>();
                for (List<Integer> sheet : all) {
                    for (int sign = 0; sign < 6; sign++) {
                        List<Integer> more = new ArrayList<>(sheet);
                        more.add(sign);
                        longer.add(more);
                    }
                }
                all = longer;
            }
            return all;
        }

        private static final List<List<List<Integer>>> SHEETS = new ArrayList<>();

        private static List<List<Integer>> sheetsOf(int n) {
            while (SHEETS.size() <= n) {
                SHEETS.add(sheets(SHEETS.size()));
            }
            return SHEETS.get(n);
        }

        private List<Integer> smallest(List<Integer> out) {
            for (int n = 0; n <= 6; n++) {
                for (List<Integer> sheet : sheetsOf(n)) {
                    if (set(sheet).equals(out)) {
                        return sheet;
                    }
                }
            }
            return null;
        }

        private int fault(byte[] text, List<Rule> into) {
            int i = 0;
            while (true) {
                while (i < text.length && text[i] == 32) {
                    i++;
                }
                if (i == text.length) {
                    return -9;
                }
                int kind = LETTERS.indexOf(text[i]);
                if (kind < 0 || into.size() == 8) {
                    return i;
                }
                int[] s = {-9, -9, -9};
                char letter = (char) text[i++];
                for (int n = 0; n < NEEDS[kind]; n++, i++) {
                    if (i == text.length || text[i] < 65 || text[i] > 70) {
                        return i;
                    }
                    s[n] = text[i] - 65;
                }
                into.add(new Rule(letter, s[0], s[1], s[2]));
            }
        }

        private void tell(long over, long under) {
            for (long d = under; d >= 1; d--) {
                if (over % d == 0 && under % d == 0) {
                    upper = over / d;
                    lower = under / d;
                    return;
                }
            }
        }

        private int ink(int sign) {
            return (int) deeds.stream().flatMap(List::stream).filter(v -> v == sign).count();
        }

        private int law(int k, int what) {
            Rule law = laws.get(k);
            return new int[] {LETTERS.indexOf(law.letter), law.x, law.y, law.z, hushed.get(k) ? 0 : 1}[what];
        }

        private int count(int what) {
            switch (what) {
                case 0: return laws.size();
                case 1: return (int) hushed.stream().filter(h -> !h).count();
                case 2: return deeds.size();
                case 3: return deeds.stream().mapToInt(List::size).sum();
                case 4: return (int) laws.stream().filter(l -> l.is(2)).count();
                case 5: return (int) laws.stream().filter(l -> l.is(3)).count();
                case 6: return (int) rows.stream().filter(r -> r != null).count();
                case 7: return (int) texts.stream().filter(t -> t != null).count();
                default: return (int) Arrays.stream(kept).filter(k -> k != null).count();
            }
        }

        long digest() {
            List<Integer> all = new ArrayList<>();
            for (int what = 0; what <= 8; what++) {
                all.add(count(what));
            }
            for (int k = 0; k < laws.size(); k++) {
                for (int what = 0; what <= 4; what++) {
                    all.add(law(k, what));
                }
            }
            for (int sign = 0; sign < 6; sign++) {
                all.add(ink(sign));
            }
            for (List<Integer> deed : deeds) {
                all.add(deed.size());
                all.addAll(deed);
            }
            for (Kept k : kept) {
                all.add(k == null ? -1 : k.deeds.size());
            }
            for (List<Integer> row : rows) {
                all.add(row == null ? -1 : row.size());
                if (row != null) {
                    all.addAll(row);
                }
            }
            for (byte[] text : texts) {
                all.add(text == null ? -1 : text.length);
                for (int i = 0; text != null && i < text.length; i++) {
                    all.add((int) text[i]);
                }
            }
            long h = 17;
            for (int v : all) {
                h = 31 * h + v;
            }
            return h;
        }

        private int rowsAndTexts(String call, int[] a) {
            boolean onTexts = List.of("text", "put", "fault", "press").contains(call);
            in(a[0], 0, onTexts ? 3 : 5);
            if (call.equals("row") || call.equals("text")) {
                bad(a[1] > (onTexts ? 60 : 40));
                find(a[1] < 0, 5);
                if (onTexts) {
                    byte[] text = new byte[a[1]];
                    Arrays.fill(text, (byte) 32);
                    texts.set(a[0], text);
                } else {
                    rows.set(a[0], new ArrayList<>(java.util.Collections.nCopies(a[1], 0)));
                }
                return a[1];
            }
            if (onTexts) {
                byte[] text = texts.get(a[0]);
                find(text == null, 1);
                if (call.equals("put")) {
                    find(a[1] < 0 || a[1] >= text.length, 2);
                    int was = text[a[1]];
                    text[a[1]] = (byte) a[2];
                    return 1000 + was;
                }
                List<Rule> read = new ArrayList<>();
                int fault = fault(text, read);
                if (call.equals("fault")) {
                    return fault;
                }
                refuse(fault != -9, -4, 0);
                laws = read;
                hushed = new ArrayList<>(java.util.Collections.nCopies(read.size(), false));
                deeds = new ArrayList<>();
                Arrays.fill(kept, null);
                return laws.size();
            }
            List<Integer> row = rows.get(a[0]);
            if (call.equals("copy")) {
                in(a[2], 0, 5);
                find(a[4] < 0, 5);
                List<Integer> to = rows.get(a[2]);
                find(row == null || to == null, 1);
                find(a[1] < 0 || a[3] < 0 || (long) a[1] + a[4] > row.size() || (long) a[3] + a[4] > to.size(), 2);
                List<Integer> taken = new ArrayList<>(row.subList(a[1], a[1] + a[4]));
                for (int i = 0; i < taken.size(); i++) {
                    to.set(a[3] + i, taken.get(i));
                }
                return 1;
            }
            find(row == null, 1);
            switch (call) {
                case "tear":
                    rows.set(a[0], null);
                    return 1;
                case "mean":
                    find(row.isEmpty(), 4);
                    asked = (int) (row.stream().mapToLong(v -> v).sum() / row.size());
                    return 1;
                default:
                    find(a[1] < 0 || a[1] >= row.size(), 2);
                    asked = row.get(a[1]);
                    if (call.equals("lay")) {
                        row.set(a[1], a[2]);
                    }
                    return 1;
            }
        }

        private int lawCalls(String call, int[] a) {
            in(a[0], 0, laws.size() - 1);
            Rule law = laws.get(a[0]);
            switch (call) {
                case "law":
                    in(a[1], 0, 4);
                    asked = law(a[0], a[1]);
                    return 1;
                case "hush":
                    in(a[1], 0, 1);
                    return hushed.set(a[0], a[1] == 1) ? 1 : 0;
                case "swap":
                    in(a[1], 0, laws.size() - 1);
                    java.util.Collections.swap(laws, a[0], a[1]);
                    java.util.Collections.swap(hushed, a[0], a[1]);
                    return 1;
                default:
                    in(a[1], 1, 5);
                    find(!law.is(a[1]), 3);
                    switch (a[1]) {
                        case 1: return ink(law.x);
                        case 2: return (int) laws.stream().filter(l -> l.x == law.x).count() - 1;
                        case 3: return by(List.of(law.x, law.z), 0, laws, hushed) == a[0] ? 1 : 0;
                        case 4: return by(List.of(law.x), 0, laws, hushed) == a[0] ? 1 : 0;
                        default: return set(List.of(law.y)).equals(List.of(law.y)) ? 1 : 0;
                    }
            }
        }

        private int outCalls(String call, int[] a) {
            in(a[0], 0, 5);
            switch (call) {
                case "set":
                    in(a[1], 0, 5);
                    return put(a[1], set(signs(a[0], 8)));
                case "by": {
                    bad(a[1] < 0);
                    List<Integer> sheet = signs(a[0], 8);
                    find(a[1] >= sheet.size(), 2);
                    return by(sheet, a[1], laws, hushed);
                }
                case "first": {
                    List<Integer> sheet = signs(a[0], 8);
                    List<Integer> out = set(sheet);
                    int i = 0;
                    while (i < sheet.size() && i < out.size() && sheet.get(i).equals(out.get(i))) {
                        i++;
                    }
                    return i == sheet.size() && i == out.size() ? -9 : i;
                }
                case "again": {
                    in(a[1], 0, 9);
                    in(a[2], 0, 5);
                    List<Integer> sheet = signs(a[0], 8);
                    for (int n = 1; n <= a[1]; n++) {
                        sheet = set(sheet);
                        refuse(n < a[1] && sheet.size() > 8, -6, 0);
                    }
                    return put(a[2], sheet);
                }
                case "rests": {
                    List<List<Integer>> all = new ArrayList<>();
                    all.add(signs(a[0], 8));
                    for (int n = 1; n <= 60; n++) {
                        List<Integer> out = set(all.get(n - 1));
                        refuse(out.size() > 8, -6, 0);
                        if (all.contains(out)) {
                            asked = n - all.indexOf(out);
                            return all.indexOf(out);
                        }
                        all.add(out);
                    }
                    throw new Refused(-6, 0);
                }
                default:
                    in(a[1], 0, 5);
                    List<Integer> one = signs(a[0], 8);
                    return set(one).equals(set(signs(a[1], 8))) ? 1 : 0;
            }
        }

        private int writtenCalls(String call, int[] a) {
            switch (call) {
                case "meant": {
                    in(a[0], 0, 5);
                    in(a[1], 0, 6);
                    List<Integer> out = signs(a[0], 16);
                    tell(sheetsOf(a[1]).stream().filter(s -> set(s).equals(out)).count(), 1);
                    return 1;
                }
                case "outs":
                    in(a[0], 0, 4);
                    Set<List<Integer>> all = new HashSet<>();
                    sheetsOf(a[0]).forEach(s -> all.add(set(s)));
                    return all.size();
                case "twins": {
                    in(a[0], 0, 4);
                    in(a[1], 0, 5);
                    Map<List<Integer>, List<List<Integer>>> alike = new HashMap<>();
                    for (List<Integer> s : sheetsOf(a[0])) {
                        alike.computeIfAbsent(set(s), o -> new ArrayList<>()).add(s);
                    }
                    for (List<Integer> s : sheetsOf(a[0])) {
                        List<List<Integer>> these = alike.get(set(s));
                        if (these.size() > 1) {
                            List<Integer> both = new ArrayList<>(s);
                            both.addAll(these.get(1));
                            put(a[1], both);
                            return 1;
                        }
                    }
                    return -9;
                }
                case "harmless":
                    in(a[0], 0, 63);
                    in(a[1], 0, 6);
                    tell(sheetsOf(a[1]).stream().filter(s -> set(s).stream().noneMatch(v -> (a[0] >> v & 1) == 1)).count(), 1);
                    return 1;
                default: {
                    int depth = call.equals("smallest") ? 1 : a[1];
                    int to = call.equals("smallest") ? a[1] : a[2];
                    in(a[0], 0, 5);
                    in(to, 0, 5);
                    in(depth, 0, 3);
                    List<Integer> believed = signs(a[0], 16);
                    for (int d = 0; d < depth && believed != null; d++) {
                        believed = smallest(believed);
                    }
                    return believed == null ? -9 : put(to, believed);
                }
            }
        }

        private int forbid(int r) {
            in(r, 0, 5);
            List<Integer> out = signs(r, 16);
            List<List<Integer>> from = new ArrayList<>();
            for (int n = 0; n <= 4; n++) {
                sheetsOf(n).stream().filter(s -> set(s).equals(out)).forEach(from::add);
            }
            for (int many = 0; many <= 6; many++) {
                for (int bits = 0; bits < 64; bits++) {
                    int forbidden = bits;
                    if (Integer.bitCount(bits) == many
                        && from.stream().allMatch(s -> s.stream().anyMatch(v -> (forbidden >> v & 1) == 1))) {
                        asked = bits;
                        return many;
                    }
                }
            }
            return -9;
        }

        private int hushCalls(String call, int[] a) {
            boolean kinds = call.equals("kinds");
            int r = kinds ? a[1] : a[0];
            int q = kinds ? a[2] : a[1];
            bad(kinds && !is(a[0], 0, laws.size() - 1));
            in(r, 0, 5);
            in(q, 0, 5);
            List<Integer> sheet = signs(r, 8);
            List<Integer> out = signs(q, 16);
            if (kinds) {
                int fit = 0;
                for (int kind = 0; kind < 6; kind++) {
                    List<Rule> other = new ArrayList<>(laws);
                    Rule law = laws.get(a[0]);
                    other.set(a[0], new Rule(LETTERS.charAt(kind), law.x, law.y < 0 ? 0 : law.y, law.z < 0 ? 0 : law.z));
                    fit |= set(sheet, other, hushed).equals(out) ? 1 << kind : 0;
                }
                return fit;
            }
            if (call.equals("which")) {
                List<Integer> sets = new ArrayList<>();
                for (int set = 0; set < 1 << laws.size(); set++) {
                    List<Boolean> off = new ArrayList<>();
                    for (int k = 0; k < laws.size(); k++) {
                        off.add((set >> k & 1) == 0);
                    }
                    if (set(sheet, laws, off).equals(out)) {
                        sets.add(set);
                    }
                }
                asked = sets.isEmpty() ? -9 : sets.get(0);
                return sets.size();
            }
            for (int many = 0; many <= 8; many++) {
                for (int set = 0; set < 256; set++) {
                    if (Integer.bitCount(set) == many && allOn(set) && set(sheet, laws, hushedToo(set)).equals(out)) {
                        asked = set;
                        return many;
                    }
                }
            }
            return -9;
        }

        private int chanceCalls(String call, int[] a) {
            boolean odds = call.equals("odds");
            int p = odds ? a[2] : a[1];
            in(a[0], 0, 5);
            bad(odds && !is(a[1], 0, 5));
            in(p, 0, 12);
            List<Integer> sheet = signs(a[0], 8);
            List<Integer> out = odds ? signs(a[1], 16) : null;
            long sum = 0;
            long under = 1;
            for (int i = count(1); i > 0; i--) {
                under *= 12;
            }
            for (int set = 0; set < 256; set++) {
                if (!allOn(set)) {
                    continue;
                }
                long weight = 1;
                for (int k = 0; k < laws.size(); k++) {
                    weight *= hushed.get(k) ? 1 : (set >> k & 1) == 1 ? p : 12 - p;
                }
                List<Integer> came = set(sheet, laws, hushedToo(set));
                sum += weight * (odds ? (came.equals(out) ? 1 : 0) : came.size());
            }
            for (int prime : new int[] {2, 3}) {
                while (sum % prime == 0 && under % prime == 0) {
                    sum /= prime;
                    under /= prime;
                }
            }
            upper = sum;
            lower = sum == 0 ? 1 : under;
            return 1;
        }

        private int printCalls(String call, int[] a) {
            switch (call) {
                case "print": {
                    in(a[0], 0, 5);
                    List<Integer> out = set(signs(a[0], 8));
                    refuse(deeds.size() == 40, -2, 0);
                    deeds.add(out);
                    return out.size();
                }
                case "ink":
                    in(a[0], 0, 5);
                    return ink(a[0]);
                case "undo": {
                    in(a[0], 0, deeds.size());
                    int many = deeds.size() - a[0];
                    deeds = new ArrayList<>(deeds.subList(0, a[0]));
                    return many;
                }
                case "drawer":
                    in(a[0], 0, deeds.size() - 1);
                    in(a[1], 0, 5);
                    return put(a[1], deeds.get(a[0]));
                case "lots": {
                    in(a[0], 1, 20);
                    in(a[1], 1, 2147483646);
                    java.math.BigInteger lot = java.math.BigInteger.valueOf(a[1]);
                    java.math.BigInteger by = java.math.BigInteger.valueOf(48271);
                    java.math.BigInteger mod = java.math.BigInteger.valueOf(2147483647);
                    int many = 0;
                    for (int i = 0; i < a[0]; i++) {
                        lot = lot.multiply(by).mod(mod);
                        List<Integer> sheet = new ArrayList<>();
                        for (int n = lot.intValue() % 9; n > 0; n--) {
                            lot = lot.multiply(by).mod(mod);
                            sheet.add(lot.intValue() / 16 % 6);
                        }
                        many += set(sheet).equals(sheet) ? 1 : 0;
                    }
                    return many;
                }
                case "keep":
                    in(a[0], 0, 2);
                    refuse(laws.isEmpty(), -4, 0);
                    kept[a[0]] = new Kept(new ArrayList<>(laws), new ArrayList<>(hushed), new ArrayList<>(deeds));
                    return deeds.size();
                default: {
                    in(a[0], 0, 2);
                    Kept k = kept[a[0]];
                    find(k == null, 1);
                    laws = new ArrayList<>(k.laws);
                    hushed = new ArrayList<>(k.hushed);
                    deeds = new ArrayList<>(k.deeds);
                    return deeds.size();
                }
            }
        }

        private int plain(String call, int[] a) {
            switch (call) {
                case "row": case "lay": case "at": case "tear": case "copy": case "mean":
                case "text": case "put": case "fault": case "press":
                    return rowsAndTexts(call, a);
                case "law": case "mark": case "hush": case "swap":
                    return lawCalls(call, a);
                case "set": case "by": case "first": case "again": case "rests": case "same":
                    return outCalls(call, a);
                case "meant": case "smallest": case "outs": case "twins": case "harmless": case "believed":
                    return writtenCalls(call, a);
                case "forbid":
                    return forbid(a[0]);
                case "silence": case "which": case "kinds":
                    return hushCalls(call, a);
                case "odds": case "mid":
                    return chanceCalls(call, a);
                case "count":
                    in(a[0], 0, 8);
                    return count(a[0]);
                case "findings":
                    in(a[0], 1, 5);
                    return findings[a[0]];
                default:
                    return printCalls(call, a);
            }
        }
    }
}
