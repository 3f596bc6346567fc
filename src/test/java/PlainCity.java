import java.util.ArrayList;
import java.util.List;
import java.util.regex.Matcher;
import java.util.regex.Pattern;

/**
 * The document once more, in its slowest words: every question is answered by letting the
 * hours go one by one on a copy. PlainCityTest compares the class with it.
 */
final class PlainCity {
    static final int BEYOND = -1000000001;
    static final int FULL = -1000000002;
    static final int KIND = -1000000003;
    static final int NONE = -1000000004;
    static final int STATE = -1000000005;
    static final int MISSING = -1000000006;
    static final int SIZE = -1000000007;
    static final String[] NAMES = {"yard", "sea", "street", "sky", "steeple", "garden"};
    static final int[][] LINES = {{0}, {1, 0}, {2, 0}, {3, 0}, {4, 1, 0}, {5, 2, 0}};

    static final class Place {
        int owner;
        boolean drawn;
        int view;
        int kind;
        int fine = 10;
    }

    static final class World {
        int hour = 0;
        long[] money = {100, 100, 100, 100};
        List<Place> places = new ArrayList<>();

        World twin() {
            World w = new World();
            w.hour = hour;
            w.money = money.clone();
            for (Place p : places) {
                Place q = new Place();
                q.owner = p.owner;
                q.drawn = p.drawn;
                q.view = p.view;
                q.kind = p.kind;
                q.fine = p.fine;
                w.places.add(q);
            }
            return w;
        }

        World later(int n) {
            World w = twin();
            for (int i = 0; i < n; i++) {
                w.pass();
            }
            return w;
        }

        boolean spring() {
            return (hour / 24) % 28 < 7;
        }

        int worth(int view) {
            int fine = places.get(view).fine;
            int h = hour % 24;
            int sum = 2 + fine / 10;
            switch (NAMES[places.get(view).kind]) {
                case "yard": break;
                case "sea": if (6 <= h && h <= 17) sum += 5; break;
                case "street": if (h % 2 == 0) sum += 3; break;
                case "sky": sum = fine / 4; break;
                case "steeple": if (6 <= h && h <= 17) sum += 5; if (h == 12) sum *= 2; break;
                default: if (h % 2 == 0) sum += 3; if (spring()) sum += fine; break;
            }
            return sum;
        }

        int out(int frame) {
            return places.get(frame).drawn ? 0 : worth(places.get(frame).view);
        }

        int wears(int view) {
            int k = places.get(view).kind;
            return k == 2 || (k == 5 && !spring()) ? 1 : 0;
        }

        int price(int view) {
            int fine = places.get(view).fine;
            switch (places.get(view).kind) {
                case 1: case 4: return 5 * fine + 50;
                case 3: return 10 * fine;
                case 5: return 5 * fine + (spring() ? 100 : 0);
                default: return 5 * fine;
            }
        }

        void pass() {
            for (int f = 0; f < places.size(); f++) {
                int o = places.get(f).owner;
                money[o] = Math.min(99999, money[o] + out(f));
            }
            if (hour % 24 == 0) {
                for (int v = 0; v < places.size(); v++) {
                    places.get(v).fine = Math.max(0, places.get(v).fine - wears(v));
                }
            }
            hour++;
        }

        int add(int kind, int owner) {
            Place p = new Place();
            p.kind = kind;
            p.owner = owner;
            p.view = places.size();
            places.add(p);
            return p.view;
        }

        void swap(int a, int b) {
            int v = places.get(a).view;
            places.get(a).view = places.get(b).view;
            places.get(b).view = v;
        }

        void shift() {
            List<Integer> views = new ArrayList<>();
            for (Place p : places) views.add(p.view);
            for (int f = 0; f < places.size(); f++) {
                places.get(f).view = views.get((f + 1) % places.size());
            }
        }

        /** What was paid; -1 if it can't be. */
        int exchange(int a, int b) {
            int oa = places.get(a).owner;
            int ob = places.get(b).owner;
            int getsA = price(places.get(b).view);
            int getsB = price(places.get(a).view);
            int paid = 0;
            if (oa != ob && getsA != getsB) {
                int payer = getsA > getsB ? oa : ob;
                int payee = getsA > getsB ? ob : oa;
                paid = Math.abs(getsA - getsB);
                if (money[payer] < paid) return -1;
                money[payer] -= paid;
                money[payee] = Math.min(99999, money[payee] + paid);
            }
            swap(a, b);
            return paid;
        }

        boolean isHome() {
            for (int f = 0; f < places.size(); f++) {
                if (places.get(f).view != f) return false;
            }
            return true;
        }
    }

    World w = new World();
    World kept = null;
    String tape = "";
    long[][] rows = new long[4][];
    int[] bits = new int[4];
    int[] told = new int[7];

    int tell(int finding) {
        told[BEYOND - finding]++;
        return finding;
    }

    boolean in(long v, long low, long high) { return low <= v && v <= high; }

    boolean owner(int o) { return in(o, 0, 3); }

    boolean there(int f) { return in(f, 0, w.places.size() - 1); }

    public int money(int owner, int v) {
        if (!owner(owner) || !in(v, 0, 99999)) return tell(BEYOND);
        int was = (int) w.money[owner];
        w.money[owner] = v;
        return was;
    }

    public int ownerOf(int owner, int what) {
        if (!owner(owner) || !in(what, 0, 3)) return tell(BEYOND);
        if (what == 0) return (int) w.money[owner];
        int sum = 0;
        for (int f = 0; f < w.places.size(); f++) {
            Place p = w.places.get(f);
            if (p.owner == owner) sum += what == 1 ? 1 << f : what == 2 ? 1 << p.view : w.out(f);
        }
        return sum;
    }

    public int frame(int kind, int owner) {
        if (!in(kind, 0, 5) || !owner(owner)) return tell(BEYOND);
        if (w.places.size() == 8) return tell(FULL);
        return w.add(kind, owner);
    }

    public int frameOf(int frame, int what) {
        if (!there(frame) || !in(what, 0, 3)) return tell(BEYOND);
        Place p = w.places.get(frame);
        return what == 0 ? p.owner : what == 1 ? (p.drawn ? 1 : 0) : what == 2 ? p.view : w.out(frame);
    }

    public int set(int frame, int what, int v) {
        if (!there(frame) || !in(what, 0, 1) || !in(v, 0, what == 0 ? 3 : 1)) return tell(BEYOND);
        int was = frameOf(frame, what);
        if (what == 0) w.places.get(frame).owner = v;
        else w.places.get(frame).drawn = v == 1;
        return was;
    }

    public int of(int view, int what) {
        if (!there(view) || !in(what, 0, 5)) return tell(BEYOND);
        if (what == 0) return w.places.get(view).kind;
        if (what == 1) return w.places.get(view).fine;
        if (what == 3) return w.worth(view);
        if (what == 4) return w.wears(view);
        if (what == 5) return w.price(view);
        int f = 0;
        while (w.places.get(f).view != view) f++;
        return f;
    }

    public int fine(int view, int v) {
        if (!there(view) || !in(v, 0, 99)) return tell(BEYOND);
        int was = w.places.get(view).fine;
        w.places.get(view).fine = v;
        return was;
    }

    public int turn(int view, int kind) {
        if (!there(view) || !in(kind, 0, 5)) return tell(BEYOND);
        int was = w.places.get(view).kind;
        w.places.get(view).kind = kind;
        return was;
    }

    public int as(int view, int kind) {
        if (!there(view) || !in(kind, 0, 5)) return tell(BEYOND);
        for (int k : LINES[w.places.get(view).kind]) {
            if (k == kind) return w.places.get(view).fine;
        }
        return tell(KIND);
    }

    public int trade(int frame, int other) {
        if (!there(frame) || !there(other) || frame == other) return tell(BEYOND);
        int paid = w.exchange(frame, other);
        return paid < 0 ? tell(STATE) : paid;
    }

    public int shift() {
        w.shift();
        return w.places.size();
    }

    public int back() {
        World t = w.twin();
        for (int n = 0; n <= 8; n++) {
            if (t.isHome()) return n;
            t.shift();
        }
        return tell(NONE);
    }

    public int stone(int frame, int n) {
        if (!there(frame) || !in(n, 0, 20)) return tell(BEYOND);
        int at = frame;
        for (int i = 0; i < n; i++) at = w.places.get(at).view;
        return at;
    }

    /** Each exchange that brings one view home, till all are. */
    public int home() {
        World t = w.twin();
        int n = 0;
        for (int f = 0; f < t.places.size(); f++) {
            while (t.places.get(f).view != f) {
                t.swap(f, t.places.get(f).view);
                n++;
            }
        }
        return n;
    }

    long all(World t) {
        return t.money[0] + t.money[1] + t.money[2] + t.money[3];
    }

    int fines() {
        int sum = 0;
        for (Place p : w.places) sum += p.fine;
        return sum;
    }

    public int hours(int n) {
        if (!in(n, 1, 200)) return tell(BEYOND);
        if (w.hour + n > 99999) return tell(STATE);
        w = w.later(n);
        return (int) all(w);
    }

    public int now(int what) {
        switch (what) {
            case 0: return w.hour;
            case 1: return w.hour % 24;
            case 2: return w.spring() ? 1 : 0;
            case 3: return (int) all(w);
            case 4:
                int set = 0;
                for (int f = 0; f < w.places.size(); f++) {
                    if (w.places.get(f).view == f) set += 1 << f;
                }
                return set;
            case 5: return fines();
            default: return tell(BEYOND);
        }
    }

    public int on(int owner, int n) {
        if (!owner(owner) || !in(n, 0, 400)) return tell(BEYOND);
        return (int) w.later(n).money[owner];
    }

    public int then(int frame, int n, int what) {
        if (!there(frame) || !in(n, 0, 400) || !in(what, 0, 1)) return tell(BEYOND);
        World t = w.later(n);
        return what == 0 ? t.out(frame) : t.places.get(t.places.get(frame).view).fine;
    }

    public int rich(int owner, int v) {
        if (!owner(owner) || !in(v, 0, 99999)) return tell(BEYOND);
        World t = w.twin();
        for (int n = 0; n <= 400; n++) {
            if (t.money[owner] >= v) return n;
            t.pass();
        }
        return tell(NONE);
    }

    public int best(int owner, int n) {
        if (!owner(owner) || !in(n, 1, 200)) return tell(BEYOND);
        long most = w.later(n).money[owner];
        int answer = -1;
        for (int a = 0; a < w.places.size(); a++) {
            for (int b = a + 1; b < w.places.size(); b++) {
                World t = w.twin();
                if (t.exchange(a, b) < 0) continue;
                long m = t.later(n).money[owner];
                if (m > most) {
                    most = m;
                    answer = 10 * a + b;
                }
            }
        }
        return answer < 0 ? tell(NONE) : answer;
    }

    public int kind(int view, int n) {
        if (!there(view) || !in(n, 1, 200)) return tell(BEYOND);
        int answer = -1;
        int most = -1;
        for (int k = 0; k < 6; k++) {
            World t = w.twin();
            t.places.get(view).kind = k;
            int sum = 0;
            for (int i = 0; i < n; i++) {
                sum += t.worth(view);
                t.pass();
            }
            if (sum > most) {
                most = sum;
                answer = k;
            }
        }
        return answer;
    }

    public int shifts(int owner, int n) {
        if (!owner(owner) || !in(n, 1, 200)) return tell(BEYOND);
        World t = w.twin();
        int answer = -1;
        long most = -1;
        for (int k = 0; k <= 7; k++) {
            long m = t.later(n).money[owner];
            if (m > most) {
                most = m;
                answer = k;
            }
            t.shift();
        }
        return answer;
    }

    public int least(int view, int owner, int n, int v) {
        if (!there(view) || !owner(owner) || !in(n, 1, 200) || !in(v, 0, 99999)) return tell(BEYOND);
        for (int f = 0; f <= 99; f++) {
            World t = w.twin();
            t.places.get(view).fine = f;
            if (t.later(n).money[owner] >= v) return f;
        }
        return tell(NONE);
    }

    public int draw(int n) {
        if (!in(n, 1, 200)) return tell(BEYOND);
        int answer = -1;
        long lowest = Long.MAX_VALUE;
        for (int f = 0; f < w.places.size(); f++) {
            if (w.places.get(f).drawn) continue;
            World t = w.twin();
            t.places.get(f).drawn = true;
            int o = w.places.get(f).owner;
            long cost = w.later(n).money[o] - t.later(n).money[o];
            if (cost < lowest) {
                lowest = cost;
                answer = f;
            }
        }
        return answer < 0 ? tell(NONE) : answer;
    }

    public int richest(int n) {
        if (!in(n, 0, 400)) return tell(BEYOND);
        long[] m = w.later(n).money;
        int answer = 0;
        for (int o = 1; o < 4; o++) {
            if (m[o] > m[answer]) answer = o;
        }
        return answer;
    }

    public int feed(int bytes, int n) {
        if (!in(n, 1, 4)) return tell(BEYOND);
        if (tape.length() + n > 120) return tell(FULL);
        String four = "" + (char) (bytes >>> 24) + (char) (bytes >>> 16 & 255)
            + (char) (bytes >>> 8 & 255) + (char) (bytes & 255);
        tape += four.substring(4 - n);
        return tape.length();
    }

    public int wipe() {
        int had = tape.length();
        tape = "";
        return had;
    }

    // ---- the text: all tokens first, then a machine of one state for each place in an ITEM

    static final Pattern TOKEN = Pattern.compile("[a-z]+|[0-9]+|;|[^ ]", Pattern.DOTALL);

    public int city() {
        String text = tape;
        tape = "";
        World t = w.twin();
        Matcher m = TOKEN.matcher(text);
        String state = "item";
        int items = 0;
        int first = 0;
        while (m.find()) {
            String tok = m.group();
            int fault = -1 - m.start();
            int number = tok.matches("0*[0-9]{1,4}") ? Integer.parseInt(tok.replaceFirst("^0+(?=.)", "")) : -1;
            int last = t.places.size() - 1;
            int kind = List.of(NAMES).indexOf(tok);
            switch (state) {
                case "item":
                    if (kind >= 0 && last < 7) {
                        state = "owner";
                        first = kind;
                    } else if (tok.equals("trade") || tok.equals("money")) {
                        state = tok;
                    } else {
                        return fault;
                    }
                    break;
                case "owner":
                    if (!in(number, 0, 3)) return fault;
                    t.add(first, number);
                    state = "fine?";
                    break;
                case "fine":
                    if (!in(number, 0, 99)) return fault;
                    t.places.get(last).fine = number;
                    state = "curtain?";
                    break;
                case "trade":
                    if (!in(number, 0, last)) return fault;
                    first = number;
                    state = "other";
                    break;
                case "other":
                    if (!in(number, 0, last) || number == first) return fault;
                    t.swap(first, number);
                    state = "end";
                    break;
                case "money":
                    if (!in(number, 0, 3)) return fault;
                    first = number;
                    state = "sum";
                    break;
                case "sum":
                    if (number < 0) return fault;
                    t.money[first] = number;
                    state = "end";
                    break;
                default:
                    if (tok.equals(";")) {
                        state = "item";
                        items++;
                    } else if (tok.equals("fine") && state.equals("fine?")) {
                        state = "fine";
                    } else if (tok.equals("curtain") && !state.equals("end")) {
                        t.places.get(last).drawn = true;
                        state = "end";
                    } else {
                        return fault;
                    }
                    break;
            }
        }
        if (!state.equals("end") && !state.endsWith("?")) return -1 - text.length();
        w = t;
        return items + 1;
    }

    // ---- sheets

    boolean row(int s) { return in(s, 0, 3); }

    long cut(long v, int b) {
        return b == 64 ? v : v << (64 - b) >> (64 - b);
    }

    public int sheet(int s, int b, int n) {
        if (!row(s) || !(b == 0 || b == 8 || b == 16 || b == 64)) return tell(BEYOND);
        if (n < 0) return tell(SIZE);
        if (n > 40) return tell(BEYOND);
        rows[s] = b == 0 ? null : new long[n];
        bits[s] = b;
        return b == 0 ? 0 : n;
    }

    public long write(int s, int i, long v) {
        if (!row(s)) return tell(BEYOND);
        if (rows[s] == null) return tell(MISSING);
        if (!in(i, 0, rows[s].length - 1)) return tell(BEYOND);
        long was = rows[s][i];
        rows[s][i] = cut(v, bits[s]);
        return was;
    }

    public int copy(int s, int from, int t, int to, int n) {
        if (!row(s) || !row(t)) return tell(BEYOND);
        if (rows[s] == null || rows[t] == null) return tell(MISSING);
        if (bits[s] != bits[t]) return tell(KIND);
        if (from < 0 || to < 0 || n < 0) return tell(BEYOND);
        if ((long) from + n > rows[s].length || (long) to + n > rows[t].length) return tell(BEYOND);
        long[] were = rows[s].clone();
        for (int i = 0; i < n; i++) rows[t][to + i] = were[from + i];
        return n;
    }

    public int lays(int s) {
        if (!row(s)) return tell(BEYOND);
        if (rows[s] == null) return tell(MISSING);
        int came = 0;
        for (int i = 0; i < rows[s].length; i++) {
            if (there(i) && in(rows[s][i], 0, 99)) {
                w.places.get(i).fine = (int) rows[s][i];
                came++;
            }
        }
        return came;
    }

    public int book(int s, int owner) {
        if (!row(s)) return tell(BEYOND);
        if (rows[s] == null) return tell(MISSING);
        if (!owner(owner)) return tell(BEYOND);
        for (int i = 0; i < rows[s].length; i++) rows[s][i] = cut(w.later(i).money[owner], bits[s]);
        return rows[s].length;
    }

    public int read(int s, int owner, int view) {
        if (!row(s)) return tell(BEYOND);
        if (rows[s] == null) return tell(MISSING);
        if (!owner(owner) || !there(view)) return tell(BEYOND);
        int pairs = 0;
        for (int k = 0; k < 6; k++) {
            for (int f = 0; f <= 99; f++) {
                World t = w.twin();
                t.places.get(view).kind = k;
                t.places.get(view).fine = f;
                boolean so = true;
                for (int i = 0; i < rows[s].length && so; i++) {
                    so = rows[s][i] == t.money[owner];
                    t.pass();
                }
                if (so) pairs++;
            }
        }
        return pairs;
    }

    // ---- images

    public int image() {
        kept = w.twin();
        return 1;
    }

    public int undo() {
        if (kept == null) return tell(NONE);
        w = kept.twin();
        return w.places.size();
    }

    public int tear() {
        int was = kept == null ? 0 : 1;
        kept = null;
        return was;
    }

    public int count(int what) {
        switch (what) {
            case 0: return w.places.size();
            case 1: return tape.length();
            case 2:
                int drawn = 0;
                for (Place p : w.places) drawn += p.drawn ? 1 : 0;
                return drawn;
            case 3: return fines();
            default: return tell(BEYOND);
        }
    }

    public int status(int which) {
        if (in(which, 0, 6)) return told[which];
        if (which != -1) return tell(BEYOND);
        int sum = 0;
        for (int t : told) sum += t;
        return sum;
    }
}
