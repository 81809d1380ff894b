import java.util.ArrayList;
import java.util.Arrays;
import java.util.List;

/** The document once more, in another form: a test holds the class against it, call by call. */
final class Model {
    private static final int[] ABOVE = {-1, 0, 0, 0, 1, 2, 3};
    private static final int[] PACES = {2, 2, 2, 1, 3, 2, 1};

    /** What an image keeps. */
    private static final class All {
        List<int[]> blowers = new ArrayList<>(); // kind, v, cord, aim, coins, row
        int[] bucket = {5, 3, 0, 20};
        int minute = 0;
        int holding = -1;
        List<int[]> seen = new ArrayList<>();
        List<int[]> book = new ArrayList<>();

        All copy() {
            All other = new All();
            for (int[] one : blowers) other.blowers.add(one.clone());
            other.bucket = bucket.clone();
            other.minute = minute;
            other.holding = holding;
            other.seen.addAll(seen);
            other.book.addAll(book);
            return other;
        }
    }

    private All all = new All();
    private All image = null;
    private String text = "";
    private final List<String> squares = new ArrayList<>();
    private final List<Integer> ran = new ArrayList<>();
    private final Object[] tapes = new Object[6];

    // ---- a go

    /** SIZE, LIFE, TORN, BRINGS, MINUTES, MINUTE behind it. */
    private int[] run(int b, int cord, int aim, int good, int start, int gust, boolean calm) {
        int[] one = all.blowers.get(b);
        int film = cord * good;
        int size = 0;
        int minute = start;
        for (int step = 1; step <= 30; step++) {
            int wind = calm ? 0 : sum("wind", 0, b, minute, size, film) + (step == 1 ? gust : 0);
            int pace = one[0] == 4 && size >= 20 ? 2 : PACES[one[0]];
            size += pace;
            film = film - pace - wind;
            minute++;
            if (2 * film < size - size % 2) return new int[] {0, 0, 1, 0, step, minute};
            if (shuts(one, aim, size, film, wind, minute)) {
                int life = 10 * film / (size + 1) / (1 + sum("dry", 1, b, minute, size, film));
                long brings = (long) size * life * sum("coin", 1, b, minute, size, film);
                return new int[] {size, life, 0, (int) Math.min(99999, brings), step, minute};
            }
        }
        return new int[] {0, 0, 1, 0, 30, minute};
    }

    private static boolean shuts(int[] one, int aim, int size, int film, int wind, int minute) {
        boolean careful = size >= aim || film <= size + one[1];
        switch (one[0]) {
            case 1: return size >= aim + one[1];
            case 2: return careful;
            case 4: return wind < 6 && size >= aim + one[1];
            case 5: return careful || wind == 0 && size >= 10;
            case 6: return size >= aim + one[5 + minute % 4];
            default: return size >= aim;
        }
    }

    private int[] ahead(int b, int n) {
        int[] one = all.blowers.get(b);
        return run(b, one[2], one[3], good(all.bucket[0], all.bucket[1]), all.minute + n, 0, false);
    }

    private int good(int soap, int sugar) {
        int good = 30 - 4 * Math.abs(soap - 5) - 2 * Math.abs(sugar - 3) + all.bucket[2];
        return good < 0 ? 0 : good;
    }

    // ---- clauses, read anew each time

    private int sum(String word, int without, int b, int minute, int size, int film) {
        if (all.holding < 0) return without;
        int[] one = all.blowers.get(b);
        int[] letters = {b, one[0], one[1], minute % 12, size / 10, film / 10};
        int sum = 0;
        boolean any = false;
        for (String clause : squares.get(all.holding).split(";")) {
            String[] parts = clause.split(" ");
            if (!parts[0].equals(word)) continue;
            any = true;
            if (either(parts[2], letters)) sum += Integer.parseInt(parts[1]);
        }
        return any ? sum : without;
    }

    private static boolean either(String e, int[] letters) {
        int at = outside(e, '|');
        if (at >= 0) return both(e.substring(0, at), letters) | either(e.substring(at + 1), letters);
        return both(e, letters);
    }

    private static boolean both(String t, int[] letters) {
        int at = outside(t, '&');
        if (at >= 0) return single(t.substring(0, at), letters) & both(t.substring(at + 1), letters);
        return single(t, letters);
    }

    private static boolean single(String f, int[] letters) {
        if (f.charAt(0) == '!') return !single(f.substring(1), letters);
        if (f.charAt(0) == '(') return either(f.substring(1, f.length() - 1), letters);
        int n = letters["bkvmsf".indexOf(f.charAt(0))];
        int limit = Integer.parseInt(f.substring(2));
        return f.charAt(1) == '<' ? n < limit : f.charAt(1) == '=' ? n == limit : n > limit;
    }

    /** The first place of a sign that stands in no brackets. */
    private static int outside(String text, char sign) {
        int depth = 0;
        for (int i = 0; i < text.length(); i++) {
            char c = text.charAt(i);
            if (c == '(') depth++;
            if (c == ')') depth--;
            if (c == sign && depth == 0) return i;
        }
        return -1;
    }

    // ---- the calls

    /** A call by the name of its method. */
    long call(String name, int[] a, long v) {
        switch (name) {
            case "blower": return blower(a[0], a[1], a[2], a[3]);
            case "of": return !one(a[0]) || a[1] < 0 || a[1] > 4 ? -1 : all.blowers.get(a[0])[a[1]];
            case "set": return set(a[0], a[1], a[2]);
            case "mix": return mix(a[0], a[1]);
            case "row": return row(a[0], a[1], a[2]);
            case "feed": return feed(a[0]);
            case "square": return square();
            case "told": return told(a[0]);
            case "pause": return a[0] < 0 || a[0] > 60 ? -2 : all.minute + a[0] > 9999 ? -3 : (all.minute += a[0]);
            case "go": return go(a[0]);
            case "would": return !one(a[0]) || a[1] < 0 || a[1] > 4 ? -1 : ahead(a[0], 0)[a[1]];
            case "aim": case "cord": case "best": case "when": return better(name, a[0], a[1]);
            case "day": return day(a[0], a[1]);
            case "most": return most(a[0]);
            case "longest": return longest(a[0], a[1]);
            case "see": return see(a[0], a[1], a[2]);
            case "was": return was();
            case "calm": return calm(a[0]);
            case "odds": case "mean": return fraction(name, a[0], a[1]);
            case "book": return book(a[0], v != 0);
            case "looked": return looked();
            default: return callBehind(name, a, v);
        }
    }

    private long callBehind(String name, int[] a, long v) {
        switch (name) {
            case "judge": return judge(a[0], a[1]);
            case "image": image = all.copy(); return all.blowers.size();
            case "undo": return undo();
            case "act": return act(a[0], a[1], a[2]);
            case "trace": return a[0] < 0 || a[0] >= Math.min(20, ran.size()) ? -1 : ran.get(a[0]);
            case "taken": return taken(a[0], a[1]);
            case "count": return count(a[0]);
            case "tape": return tape(a[0], a[1], a[2]);
            case "item": return item(a[0], a[1], v);
            case "read": return read(a[0], a[1]);
            case "shift": return shift(a[0], a[1], a[2], a[3], a[4]);
            default: throw new IllegalArgumentException(name);
        }
    }

    private boolean one(int b) {
        return b >= 0 && b < all.blowers.size();
    }

    private long blower(int kind, int v, int cord, int aim) {
        if (kind < 0 || kind > 6) return -1;
        if (v < 0 || v > 9 || cord < 1 || cord > 9 || aim < 1 || aim > 60) return -2;
        if (all.blowers.size() == 5) return -4;
        all.blowers.add(new int[] {kind, v, cord, aim, 0, 0, 0, 0, 0});
        return all.blowers.size() - 1;
    }

    private static int swap(int[] row, int place, int n) {
        int was = row[place];
        row[place] = n;
        return was;
    }

    private long set(int b, int what, int n) {
        if (!one(b) || what < 0 || what > 1) return -1;
        if (n < 1 || n > (what == 0 ? 9 : 60)) return -2;
        return swap(all.blowers.get(b), 2 + what, n);
    }

    private long mix(int what, int n) {
        if (what < 0 || what > 3) return -1;
        if (n < 0 || n > (what == 3 ? 99 : 9)) return -2;
        return swap(all.bucket, what, n);
    }

    private long row(int b, int part, int n) {
        if (!one(b) || part < 0 || part > 3) return -1;
        if (n < 0 || n > 9) return -2;
        return all.blowers.get(b)[0] != 6 ? -3 : swap(all.blowers.get(b), 5 + part, n);
    }

    private long feed(int sign) {
        if (sign < 0 || sign > 127) return -2;
        if (text.length() == 100) return -4;
        text += (char) sign;
        return text.length();
    }

    private long square() {
        if (squares.size() == 6) return -4;
        String whole = text;
        text = "";
        int fault = Grammar.fault(whole);
        if (fault >= 0) return -10 - fault;
        squares.add(whole);
        all.holding = squares.size() - 1;
        return all.holding;
    }

    private long told(int what) {
        if (what < 0 || what > 5) return -1;
        return what < 4 ? all.bucket[what] : what == 4 ? good(all.bucket[0], all.bucket[1]) : all.minute;
    }

    private long go(int b) {
        if (!one(b)) return -1;
        if (all.bucket[3] == 0 || all.minute > 9900) return -3;
        int[] went = ahead(b, 0);
        all.bucket[3]--;
        all.minute = went[5];
        int[] mine = all.blowers.get(b);
        mine[4] = Math.min(999999, mine[4] + went[3]);
        return went[0];
    }

    private long better(String name, int b, int what) {
        if (!one(b) || what < 0 || what > 1) return -1;
        int[] mine = all.blowers.get(b);
        int good = good(all.bucket[0], all.bucket[1]);
        int[] brings = new int[100];
        Arrays.fill(brings, -1);
        for (int n = 0; n < 100; n++) {
            if (name.equals("aim") && n >= 1 && n <= 60) brings[n] = run(b, mine[2], n, good, all.minute, 0, false)[3];
            if (name.equals("cord") && n >= 1 && n <= 9) brings[n] = run(b, n, mine[3], good, all.minute, 0, false)[3];
            if (name.equals("when") && n < 24) brings[n] = ahead(b, n)[3];
            if (name.equals("best")) {
                brings[n] = run(b, mine[2], mine[3], good(n / 10, n % 10), all.minute, 0, false)[3];
            }
        }
        int first = 0;
        for (int n = 0; n < 100; n++) if (brings[n] > brings[first]) first = n;
        return what == 0 ? first : brings[first];
    }

    /** What 0 .. 4 bring, and at 5 how many were torn, at 6 MINUTE. */
    private int[] whole(int n) {
        int[] day = new int[7];
        int minutes = 0;
        for (int g = 0; g < n && g < all.bucket[3] && !all.blowers.isEmpty(); g++) {
            int b = g % all.blowers.size();
            int[] went = ahead(b, minutes);
            minutes += went[4];
            day[b] += went[3];
            day[5] += went[2];
        }
        day[6] = all.minute + minutes;
        return day;
    }

    private long day(int n, int what) {
        if (!one(what) && what != 10 && what != 11) return -1;
        if (n < 0 || n > 20) return -2;
        return whole(n)[what >= 10 ? what - 5 : what];
    }

    private long most(int n) {
        if (n < 0 || n > 20) return -2;
        if (all.blowers.isEmpty()) return -5;
        int[] day = whole(n);
        int first = 0;
        for (int b = 1; b < 5; b++) if (day[b] > day[first]) first = b;
        return first;
    }

    private long longest(int b, int what) {
        if (!one(b) || what < 0 || what > 1) return -1;
        int first = 0;
        for (int n = 1; n < 12; n++) if (ahead(b, n)[1] > ahead(b, first)[1]) first = n;
        int life = ahead(b, first)[1];
        return what == 0 ? life : life == 0 ? -5 : first;
    }

    private long see(int b, int n, int size) {
        if (b == -1) {
            all.seen.clear();
            return 0;
        }
        if (!one(b)) return -1;
        if (n < 0 || n > 30 || size < 0 || size > 99) return -2;
        if (all.seen.size() == 6) return -4;
        all.seen.add(new int[] {b, n, size});
        return all.seen.size();
    }

    private long was() {
        int bits = 0;
        int soapNow = all.bucket[0];
        for (int soap = 0; soap < 10; soap++) {
            all.bucket[0] = soap;
            boolean so = true;
            for (int[] row : all.seen) so &= ahead(row[0], row[1])[0] == row[2];
            if (so) bits += 1 << soap;
        }
        all.bucket[0] = soapNow;
        return bits;
    }

    private long calm(int b) {
        if (!one(b)) return -1000001;
        int[] mine = all.blowers.get(b);
        int[] without = run(b, mine[2], mine[3], good(all.bucket[0], all.bucket[1]), all.minute, 0, true);
        return without[3] - ahead(b, 0)[3];
    }

    private long fraction(String name, int b, int part) {
        if (!one(b) || part < 0 || part > 1) return Long.MIN_VALUE;
        int[] mine = all.blowers.get(b);
        int good = good(all.bucket[0], all.bucket[1]);
        int above = 0;
        int below = name.equals("odds") ? 10 : 12;
        for (int n = 0; n < below; n++) {
            above += below == 10 ? run(b, mine[2], mine[3], good, all.minute, n, false)[2] : ahead(b, n)[3];
        }
        int by = java.math.BigInteger.valueOf(above).gcd(java.math.BigInteger.valueOf(below)).intValue();
        return (part == 0 ? above : below) / by;
    }

    private long book(int b, boolean torn) {
        if (b == -1) {
            all.book.clear();
            return 0;
        }
        if (!one(b)) return -1;
        if (all.book.size() == 12) return -4;
        all.book.add(new int[] {b, torn ? 1 : 0});
        return all.book.size();
    }

    private long looked() {
        int minutes = 0;
        for (int i = 0; i < all.book.size(); i++) {
            if (all.bucket[3] - i <= 0) return i;
            int[] went = ahead(all.book.get(i)[0], minutes);
            if (went[2] != all.book.get(i)[1]) return i;
            minutes += went[4];
        }
        return -5;
    }

    private long undo() {
        if (image == null) return -3;
        all = image.copy();
        return all.blowers.size();
    }

    // ---- acts

    private long act(int b, int act, int x) {
        ran.clear();
        if (!one(b) || act < 0 || act > 2) return 0;
        int kind = all.blowers.get(b)[0];
        return body(kind, act, kind, x, b, all.blowers.get(b)[1]);
    }

    /** An act of one of a kind, its body looked for from another kind on upwards. */
    private int body(int kind, int act, int from, int x, int i, int v) {
        int above = ABOVE[from];
        String name = from + "ogt".substring(act, act + 1);
        switch (name) {
            case "0o": ran.add(10); return x + i;
            case "0g": ran.add(11); return body(kind, 0, kind, x, i, v) - v;
            case "0t": ran.add(12); return 2 * body(kind, 1, kind, x, i, v);
            case "1g": ran.add(20); return body(kind, 1, above, x, i, v) ^ 6;
            case "2o": ran.add(30); return body(kind, 0, above, x * 3, i, v);
            case "3t": ran.add(40); return body(kind, 2, above, x, i, v) + body(kind, 1, kind, 1, i, v);
            case "4o": ran.add(50); return -body(kind, 0, above, x, i, v);
            case "4g": ran.add(51); return body(kind, 1, above, x + 1, i, v);
            case "5t": ran.add(60); return body(kind, 2, above, x - i, i, v);
            case "6g": ran.add(70); return body(kind, 1, above, x, i, v) + body(kind, 0, above, 2, i, v);
            case "6o": ran.add(71); return body(kind, 0, above, x, i, v) ^ v;
            default: return body(kind, act, above, x, i, v);
        }
    }

    private long taken(int b, int k) {
        if (k < 0 || k > 6) return -2;
        if (!one(b)) return -11;
        int kind = all.blowers.get(b)[0];
        for (int up = kind; up >= 0; up = ABOVE[up]) if (up == k) return kind;
        return -12;
    }

    private long count(int what) {
        int[] counts = {all.blowers.size(), squares.size(), all.seen.size(), all.book.size(), text.length(), ran.size()};
        return what < 0 || what > 5 ? -2 : counts[what];
    }

    // ---- tapes: arrays as Java has them

    private static int length(Object tape) {
        return tape == null ? 0 : java.lang.reflect.Array.getLength(tape);
    }

    private long judge(int t, int i) {
        if (t < 0 || t > 5) return -1;
        if (tapes[t] != null && !(tapes[t] instanceof long[])) return -12;
        for (int b = 0; b < all.blowers.size(); b++) {
            if (i < 0 || i >= length(tapes[t]) - b) return 100 + b;
            if (((long[]) tapes[t])[i + b] != all.blowers.get(b)[4]) return b;
        }
        return -5;
    }

    private long tape(int t, int sort, int n) {
        if (t < 0 || t > 5) return -1;
        if (sort < -1 || sort > 4 || sort >= 0 && n > 60) return -2;
        if (sort >= 0 && n < 0) return -14;
        switch (sort) {
            case 0: tapes[t] = new byte[n]; break;
            case 1: tapes[t] = new short[n]; break;
            case 2: tapes[t] = new int[n]; break;
            case 3: tapes[t] = new long[n]; break;
            case 4: tapes[t] = new boolean[n]; break;
            default: tapes[t] = null; break;
        }
        return 1;
    }

    private long item(int t, int i, long v) {
        if (t < 0 || t > 5) return -1;
        if (tapes[t] == null) return -11;
        if (i < 0 || i >= length(tapes[t])) return -13;
        if (tapes[t] instanceof byte[]) ((byte[]) tapes[t])[i] = (byte) v;
        else if (tapes[t] instanceof short[]) ((short[]) tapes[t])[i] = (short) v;
        else if (tapes[t] instanceof int[]) ((int[]) tapes[t])[i] = (int) v;
        else if (tapes[t] instanceof long[]) ((long[]) tapes[t])[i] = v;
        else ((boolean[]) tapes[t])[i] = v != 0;
        return 1;
    }

    private long read(int t, int i) {
        if (t < 0 || t > 5 || i < 0 || i >= length(tapes[t])) return Long.MIN_VALUE;
        if (tapes[t] instanceof boolean[]) return ((boolean[]) tapes[t])[i] ? 1 : 0;
        return java.lang.reflect.Array.getLong(tapes[t], i);
    }

    private long shift(int t, int i, int o, int j, int n) {
        if (t < 0 || t > 5 || o < 0 || o > 5) return -1;
        if (tapes[t] == null || tapes[o] == null) return -11;
        if (tapes[t].getClass() != tapes[o].getClass()) return -12;
        if (n < 0 || i < 0 || j < 0 || i > length(tapes[t]) - n || j > length(tapes[o]) - n) return -13;
        System.arraycopy(tapes[t], i, tapes[o], j, n);
        return n;
    }
}
