/**
 * The registry of a close city where the view out of a window is property and can be
 * exchanged, frame for frame. DOC.md tells what each call answers; its words in capitals
 * (FRAME, WORTH, ON, SHIFT ..) are used here as they are used there.
 */
public final class ViewTrades {
    private static final int BEYOND = 0;
    private static final int FULL = 1;
    private static final int KIND = 2;
    private static final int NONE = 3;
    private static final int STATE = 4;
    private static final int MISSING = 5;
    private static final int SIZE = 6;
    private static final int FINDINGS = 7;
    private static final int FIRST_FINDING = -1000000001;

    private static final int OWNERS = 4;
    private static final int MOST_FRAMES = 8;
    private static final int MOST_MONEY = 99999;
    private static final int MOST_FINE = 99;
    private static final int MOST_HOUR = 99999;
    private static final int MOST_GONE = 200;
    private static final int MOST_FORESEEN = 400;
    private static final int MOST_SHIFTS = 8;
    private static final int MOST_THROWS = 20;
    private static final int MOST_BYTES = 120;
    private static final int SHEETS = 4;
    private static final int MOST_NUMBERS = 40;

    private final City city = new City();
    // Every question that begins with "if" is tried out here, so that no call makes an object.
    private final City trial = new City();
    private final City kept = new City();
    private boolean isKept = false;
    private final Tape tape = new Tape();
    private final Sheet[] sheets = new Sheet[SHEETS];
    private final int[] told = new int[FINDINGS];
    // What each view is WORTH in all ON the HOURS asked latest; a view earns the same out of any frame.
    private final int[] earnings = new int[MOST_FRAMES];
    // For the reader: MONEY of the owner ON 0, 1, .. HOURS without what the view in question is worth.
    private final int[] without = new int[MOST_NUMBERS];

    public ViewTrades() {
        for (int s = 0; s < SHEETS; s++) {
            sheets[s] = new Sheet();
        }
    }

    // ---- owners

    public int money(int owner, int v) {
        if (!isOwner(owner) || !isWithin(v, 0, MOST_MONEY)) {
            return tell(BEYOND);
        }
        int before = city.money[owner];
        city.money[owner] = v;
        return before;
    }

    public int ownerOf(int owner, int what) {
        if (!isOwner(owner)) {
            return tell(BEYOND);
        }
        switch (what) {
            case 0:
                return city.money[owner];
            case 1:
                return city.framesOwnedBy(owner);
            case 2:
                return city.viewsOwnedBy(owner);
            case 3:
                return city.incomeOf(owner);
            default:
                return tell(BEYOND);
        }
    }

    // ---- frames and views

    public int frame(int kind, int owner) {
        if (!Kinds.isKind(kind) || !isOwner(owner)) {
            return tell(BEYOND);
        }
        if (city.frames >= MOST_FRAMES) {
            return tell(FULL);
        }
        return city.addFrame(kind, owner);
    }

    public int frameOf(int frame, int what) {
        if (!city.hasFrame(frame)) {
            return tell(BEYOND);
        }
        switch (what) {
            case 0:
                return city.owner[frame];
            case 1:
                return city.curtain[frame];
            case 2:
                return city.view[frame];
            case 3:
                return city.worthOutOf(frame);
            default:
                return tell(BEYOND);
        }
    }

    public int set(int frame, int what, int v) {
        if (!city.hasFrame(frame)) {
            return tell(BEYOND);
        }
        if (what == 0 && isOwner(v)) {
            int before = city.owner[frame];
            city.owner[frame] = v;
            return before;
        }
        if (what == 1 && isWithin(v, 0, 1)) {
            int before = city.curtain[frame];
            city.curtain[frame] = v;
            return before;
        }
        return tell(BEYOND);
    }

    public int of(int view, int what) {
        if (!city.hasView(view)) {
            return tell(BEYOND);
        }
        switch (what) {
            case 0:
                return city.kind[view];
            case 1:
                return city.fine[view];
            case 2:
                return city.frameShowing(view);
            case 3:
                return city.worthOf(view);
            case 4:
                return Kinds.wears(city.kind[view], city.hour);
            case 5:
                return city.soldFor(view);
            default:
                return tell(BEYOND);
        }
    }

    public int fine(int view, int v) {
        if (!city.hasView(view) || !isWithin(v, 0, MOST_FINE)) {
            return tell(BEYOND);
        }
        int before = city.fine[view];
        city.fine[view] = v;
        return before;
    }

    public int turn(int view, int kind) {
        if (!city.hasView(view) || !Kinds.isKind(kind)) {
            return tell(BEYOND);
        }
        int before = city.kind[view];
        city.kind[view] = kind;
        return before;
    }

    public int as(int view, int kind) {
        if (!city.hasView(view) || !Kinds.isKind(kind)) {
            return tell(BEYOND);
        }
        if (!Kinds.isOrIsUnder(city.kind[view], kind)) {
            return tell(KIND);
        }
        return city.fine[view];
    }

    public int trade(int frame, int other) {
        if (!city.hasFrame(frame) || !city.hasFrame(other) || frame == other) {
            return tell(BEYOND);
        }
        if (!city.canExchange(frame, other)) {
            return tell(STATE);
        }
        return city.exchange(frame, other);
    }

    public int shift() {
        city.shiftViews();
        return city.frames;
    }

    public int back() {
        trial.become(city);
        for (int n = 0; n <= MOST_SHIFTS; n++) {
            if (trial.viewsAreHome()) {
                return n;
            }
            trial.shiftViews();
        }
        return tell(NONE);
    }

    public int stone(int frame, int n) {
        if (!city.hasFrame(frame) || !isWithin(n, 0, MOST_THROWS)) {
            return tell(BEYOND);
        }
        int at = frame;
        for (int i = 0; i < n; i++) {
            at = city.view[at];
        }
        return at;
    }

    public int home() {
        return city.exchangesTillHome();
    }

    // ---- hours

    public int hours(int n) {
        if (!isWithin(n, 1, MOST_GONE)) {
            return tell(BEYOND);
        }
        if (city.hour + n > MOST_HOUR) {
            return tell(STATE);
        }
        for (int i = 0; i < n; i++) {
            city.passHour();
        }
        return city.moneyInAll();
    }

    public int now(int what) {
        switch (what) {
            case 0:
                return city.hour;
            case 1:
                return Calendar.hourOfDay(city.hour);
            case 2:
                return Calendar.isSpring(city.hour) ? 1 : 0;
            case 3:
                return city.moneyInAll();
            case 4:
                return city.framesAtHome();
            case 5:
                return city.fineInAll();
            default:
                return tell(BEYOND);
        }
    }

    public int on(int owner, int n) {
        if (!isOwner(owner) || !isWithin(n, 0, MOST_FORESEEN)) {
            return tell(BEYOND);
        }
        foresee(n);
        return moneyForeseen(city, owner);
    }

    public int then(int frame, int n, int what) {
        if (!city.hasFrame(frame) || !isWithin(n, 0, MOST_FORESEEN) || !isWithin(what, 0, 1)) {
            return tell(BEYOND);
        }
        trial.become(city);
        for (int i = 0; i < n; i++) {
            trial.passHour();
        }
        return what == 0 ? trial.worthOutOf(frame) : trial.fine[trial.view[frame]];
    }

    public int rich(int owner, int v) {
        if (!isOwner(owner) || !isWithin(v, 0, MOST_MONEY)) {
            return tell(BEYOND);
        }
        trial.become(city);
        for (int n = 0; n <= MOST_FORESEEN; n++) {
            if (trial.money[owner] >= v) {
                return n;
            }
            trial.passHour();
        }
        return tell(NONE);
    }

    // ---- what is best

    public int best(int owner, int n) {
        if (!isOwner(owner) || !isWithin(n, 1, MOST_GONE)) {
            return tell(BEYOND);
        }
        foresee(n);
        int most = moneyForeseen(city, owner);
        int answer = -1;
        for (int a = 0; a < city.frames; a++) {
            for (int b = a + 1; b < city.frames; b++) {
                if (city.canExchange(a, b)) {
                    trial.become(city);
                    trial.exchange(a, b);
                    int money = moneyForeseen(trial, owner);
                    if (money > most) {
                        most = money;
                        answer = 10 * a + b;
                    }
                }
            }
        }
        return answer < 0 ? tell(NONE) : answer;
    }

    public int kind(int view, int n) {
        if (!city.hasView(view) || !isWithin(n, 1, MOST_GONE)) {
            return tell(BEYOND);
        }
        int answer = 0;
        int most = -1;
        for (int k = 0; k < Kinds.KINDS; k++) {
            int worth = Kinds.worthInAll(k, city.fine[view], city.hour, n);
            if (worth > most) {
                most = worth;
                answer = k;
            }
        }
        return answer;
    }

    public int shifts(int owner, int n) {
        if (!isOwner(owner) || !isWithin(n, 1, MOST_GONE)) {
            return tell(BEYOND);
        }
        foresee(n);
        trial.become(city);
        int answer = 0;
        int most = -1;
        for (int k = 0; k < MOST_SHIFTS; k++) {
            int money = moneyForeseen(trial, owner);
            if (money > most) {
                most = money;
                answer = k;
            }
            trial.shiftViews();
        }
        return answer;
    }

    public int least(int view, int owner, int n, int v) {
        if (!city.hasView(view) || !isOwner(owner)) {
            return tell(BEYOND);
        }
        if (!isWithin(n, 1, MOST_GONE) || !isWithin(v, 0, MOST_MONEY)) {
            return tell(BEYOND);
        }
        foresee(n);
        for (int f = 0; f <= MOST_FINE; f++) {
            earnings[view] = Kinds.worthInAll(city.kind[view], f, city.hour, n);
            if (moneyForeseen(city, owner) >= v) {
                return f;
            }
        }
        return tell(NONE);
    }

    public int draw(int n) {
        if (!isWithin(n, 1, MOST_GONE)) {
            return tell(BEYOND);
        }
        foresee(n);
        int answer = -1;
        int lowest = 0;
        for (int f = 0; f < city.frames; f++) {
            if (city.curtain[f] == 0) {
                int cost = costOfDrawing(f);
                if (answer < 0 || cost < lowest) {
                    lowest = cost;
                    answer = f;
                }
            }
        }
        return answer < 0 ? tell(NONE) : answer;
    }

    public int richest(int n) {
        if (!isWithin(n, 0, MOST_FORESEEN)) {
            return tell(BEYOND);
        }
        foresee(n);
        int answer = 0;
        int most = -1;
        for (int owner = 0; owner < OWNERS; owner++) {
            int money = moneyForeseen(city, owner);
            if (money > most) {
                most = money;
                answer = owner;
            }
        }
        return answer;
    }

    // ---- the text

    public int feed(int bytes, int n) {
        if (!isWithin(n, 1, 4)) {
            return tell(BEYOND);
        }
        if (!tape.hasRoomFor(n)) {
            return tell(FULL);
        }
        tape.append(bytes, n);
        return tape.length;
    }

    public int wipe() {
        return tape.clear();
    }

    public int city() {
        // Read onto a copy: a FAULT behind good ITEMS must leave nothing of them.
        trial.become(city);
        int answer = tape.readOnto(trial);
        if (answer >= 0) {
            city.become(trial);
        }
        tape.clear();
        return answer;
    }

    // ---- sheets

    public int sheet(int s, int bits, int n) {
        if (!isSheet(s) || (bits != 0 && bits != 8 && bits != 16 && bits != 64)) {
            return tell(BEYOND);
        }
        if (n < 0) {
            return tell(SIZE);
        }
        if (n > MOST_NUMBERS) {
            return tell(BEYOND);
        }
        sheets[s].begin(bits, n);
        return sheets[s].size;
    }

    public long write(int s, int i, long v) {
        if (!isSheet(s)) {
            return tell(BEYOND);
        }
        Sheet sheet = sheets[s];
        if (sheet.isMissing()) {
            return tell(MISSING);
        }
        if (!isWithin(i, 0, sheet.size - 1)) {
            return tell(BEYOND);
        }
        long before = sheet.numbers[i];
        sheet.put(i, v);
        return before;
    }

    public int copy(int s, int from, int t, int to, int n) {
        if (!isSheet(s) || !isSheet(t)) {
            return tell(BEYOND);
        }
        Sheet source = sheets[s];
        Sheet target = sheets[t];
        if (source.isMissing() || target.isMissing()) {
            return tell(MISSING);
        }
        if (source.bits != target.bits) {
            return tell(KIND);
        }
        if (!source.hasRange(from, n) || !target.hasRange(to, n)) {
            return tell(BEYOND);
        }
        System.arraycopy(source.numbers, from, target.numbers, to, n);
        return n;
    }

    public int lays(int s) {
        if (!isSheet(s)) {
            return tell(BEYOND);
        }
        Sheet sheet = sheets[s];
        if (sheet.isMissing()) {
            return tell(MISSING);
        }
        int came = 0;
        for (int i = 0; i < sheet.size && i < city.frames; i++) {
            long number = sheet.numbers[i];
            if (number >= 0 && number <= MOST_FINE) {
                city.fine[i] = (int) number;
                came++;
            }
        }
        return came;
    }

    public int book(int s, int owner) {
        if (!isSheet(s)) {
            return tell(BEYOND);
        }
        Sheet sheet = sheets[s];
        if (sheet.isMissing()) {
            return tell(MISSING);
        }
        if (!isOwner(owner)) {
            return tell(BEYOND);
        }
        trial.become(city);
        for (int i = 0; i < sheet.size; i++) {
            sheet.put(i, trial.money[owner]);
            trial.passHour();
        }
        return sheet.size;
    }

    public int read(int s, int owner, int view) {
        if (!isSheet(s)) {
            return tell(BEYOND);
        }
        Sheet sheet = sheets[s];
        if (sheet.isMissing()) {
            return tell(MISSING);
        }
        if (!isOwner(owner) || !city.hasView(view)) {
            return tell(BEYOND);
        }
        boolean pays = foreseeWithout(sheet.size, owner, view);
        int pairs = 0;
        for (int k = 0; k < Kinds.KINDS; k++) {
            for (int f = 0; f <= MOST_FINE; f++) {
                if (fits(sheet, k, f, pays)) {
                    pairs++;
                }
            }
        }
        return pairs;
    }

    // ---- images

    public int image() {
        kept.become(city);
        isKept = true;
        return 1;
    }

    public int undo() {
        if (!isKept) {
            return tell(NONE);
        }
        city.become(kept);
        return city.frames;
    }

    public int tear() {
        int before = isKept ? 1 : 0;
        isKept = false;
        return before;
    }

    public int count(int what) {
        switch (what) {
            case 0:
                return city.frames;
            case 1:
                return tape.length;
            case 2:
                return city.curtainsDrawn();
            case 3:
                return city.fineInAll();
            default:
                return tell(BEYOND);
        }
    }

    public int status(int which) {
        if (which >= 0 && which < FINDINGS) {
            return told[which];
        }
        if (which != -1) {
            return tell(BEYOND);
        }
        int all = 0;
        for (int i = 0; i < FINDINGS; i++) {
            all += told[i];
        }
        return all;
    }

    // ---- what the calls share

    private int tell(int finding) {
        told[finding]++;
        return FIRST_FINDING - finding;
    }

    private static boolean isWithin(int v, int low, int high) {
        return v >= low && v <= high;
    }

    private static boolean isOwner(int owner) {
        return isWithin(owner, 0, OWNERS - 1);
    }

    private static boolean isSheet(int s) {
        return isWithin(s, 0, SHEETS - 1);
    }

    private void foresee(int n) {
        for (int v = 0; v < city.frames; v++) {
            earnings[v] = Kinds.worthInAll(city.kind[v], city.fine[v], city.hour, n);
        }
    }

    // Nobody loses MONEY as HOURS go, so that cutting it once at the end is cutting it in each HOUR.
    private int moneyForeseen(City there, int owner) {
        int sum = there.money[owner];
        for (int f = 0; f < there.frames; f++) {
            if (there.owner[f] == owner && there.curtain[f] == 0) {
                sum += earnings[there.view[f]];
            }
        }
        return Math.min(MOST_MONEY, sum);
    }

    private int costOfDrawing(int frame) {
        int owner = city.owner[frame];
        trial.become(city);
        trial.curtain[frame] = 1;
        return moneyForeseen(city, owner) - moneyForeseen(trial, owner);
    }

    // Answers whether the view earns anything for the owner at all.
    private boolean foreseeWithout(int n, int owner, int view) {
        int frame = city.frameShowing(view);
        trial.become(city);
        trial.curtain[frame] = 1;
        for (int i = 0; i < n; i++) {
            without[i] = trial.money[owner];
            trial.passHour();
        }
        return city.owner[frame] == owner && city.curtain[frame] == 0;
    }

    private boolean fits(Sheet sheet, int kind, int fine, boolean pays) {
        int earned = 0;
        int left = fine;
        for (int i = 0; i < sheet.size; i++) {
            if (sheet.numbers[i] != Math.min(MOST_MONEY, without[i] + earned)) {
                return false;
            }
            if (pays) {
                earned += Kinds.worth(kind, left, city.hour + i);
            }
            left = Kinds.fineBehind(kind, left, city.hour + i);
        }
        return true;
    }

    private static final class Calendar {
        static int hourOfDay(int hour) {
            return hour % 24;
        }

        static boolean isSpring(int hour) {
            return hour / 24 % 28 < 7;
        }
    }

    private static final class Kinds {
        static final int YARD = 0;
        static final int SEA = 1;
        static final int STREET = 2;
        static final int SKY = 3;
        static final int STEEPLE = 4;
        static final int GARDEN = 5;
        static final int KINDS = 6;
        private static final int[] ABOVE = {-1, YARD, YARD, YARD, SEA, STREET};

        static boolean isKind(int kind) {
            return kind >= 0 && kind < KINDS;
        }

        static boolean isOrIsUnder(int kind, int above) {
            int at = kind;
            for (int i = 0; i < KINDS && isKind(at); i++) {
                if (at == above) {
                    return true;
                }
                at = ABOVE[at];
            }
            return false;
        }

        static String nameOf(int kind) {
            switch (kind) {
                case YARD:
                    return "yard";
                case SEA:
                    return "sea";
                case STREET:
                    return "street";
                case SKY:
                    return "sky";
                case STEEPLE:
                    return "steeple";
                case GARDEN:
                    return "garden";
                default:
                    return "";
            }
        }

        static int worth(int kind, int fine, int hour) {
            int yard = 2 + fine / 10;
            switch (kind) {
                case SEA:
                    return yard + seaLight(hour);
                case STREET:
                    return yard + streetLife(hour);
                case SKY:
                    return fine / 4;
                case STEEPLE:
                    return (yard + seaLight(hour)) * (Calendar.hourOfDay(hour) == 12 ? 2 : 1);
                case GARDEN:
                    return yard + streetLife(hour) + (Calendar.isSpring(hour) ? fine : 0);
                default:
                    return yard;
            }
        }

        private static int seaLight(int hour) {
            int h = Calendar.hourOfDay(hour);
            return h >= 6 && h <= 17 ? 5 : 0;
        }

        private static int streetLife(int hour) {
            return Calendar.hourOfDay(hour) % 2 == 0 ? 3 : 0;
        }

        static int wears(int kind, int hour) {
            switch (kind) {
                case STREET:
                    return 1;
                case GARDEN:
                    return Calendar.isSpring(hour) ? 0 : 1;
                default:
                    return 0;
            }
        }

        static int soldFor(int kind, int fine, int hour) {
            int yard = 5 * fine;
            switch (kind) {
                case SEA:
                case STEEPLE:
                    return yard + 50;
                case SKY:
                    return 2 * yard;
                case GARDEN:
                    return Calendar.isSpring(hour) ? yard + 100 : yard;
                default:
                    return yard;
            }
        }

        static int fineBehind(int kind, int fine, int hour) {
            if (Calendar.hourOfDay(hour) != 0) {
                return fine;
            }
            return Math.max(0, fine - wears(kind, hour));
        }

        static int worthInAll(int kind, int fine, int hour, int n) {
            int sum = 0;
            int left = fine;
            for (int i = 0; i < n; i++) {
                sum += worth(kind, left, hour + i);
                left = fineBehind(kind, left, hour + i);
            }
            return sum;
        }
    }

    /** All that section 1 of the document tells, THE TAPE not. */
    private static final class City {
        int hour = 0;
        int frames = 0;
        final int[] money = new int[OWNERS];
        final int[] owner = new int[MOST_FRAMES];
        final int[] curtain = new int[MOST_FRAMES];
        final int[] view = new int[MOST_FRAMES];
        final int[] kind = new int[MOST_FRAMES];
        final int[] fine = new int[MOST_FRAMES];

        City() {
            for (int i = 0; i < OWNERS; i++) {
                money[i] = 100;
            }
        }

        void become(City other) {
            hour = other.hour;
            frames = other.frames;
            System.arraycopy(other.money, 0, money, 0, OWNERS);
            System.arraycopy(other.owner, 0, owner, 0, MOST_FRAMES);
            System.arraycopy(other.curtain, 0, curtain, 0, MOST_FRAMES);
            System.arraycopy(other.view, 0, view, 0, MOST_FRAMES);
            System.arraycopy(other.kind, 0, kind, 0, MOST_FRAMES);
            System.arraycopy(other.fine, 0, fine, 0, MOST_FRAMES);
        }

        boolean hasFrame(int f) {
            return f >= 0 && f < frames;
        }

        // Each FRAME came with one view, and no view is ever lost.
        boolean hasView(int v) {
            return hasFrame(v);
        }

        int addFrame(int newKind, int newOwner) {
            int f = frames;
            owner[f] = newOwner;
            curtain[f] = 0;
            view[f] = f;
            kind[f] = newKind;
            fine[f] = 10;
            frames = f + 1;
            return f;
        }

        int worthOf(int v) {
            return Kinds.worth(kind[v], fine[v], hour);
        }

        int worthOutOf(int f) {
            return curtain[f] == 1 ? 0 : worthOf(view[f]);
        }

        int soldFor(int v) {
            return Kinds.soldFor(kind[v], fine[v], hour);
        }

        int frameShowing(int v) {
            int showing = 0;
            for (int f = 0; f < frames; f++) {
                if (view[f] == v) {
                    showing = f;
                }
            }
            return showing;
        }

        int framesOwnedBy(int who) {
            int bits = 0;
            for (int f = 0; f < frames; f++) {
                if (owner[f] == who) {
                    bits |= 1 << f;
                }
            }
            return bits;
        }

        int viewsOwnedBy(int who) {
            int bits = 0;
            for (int f = 0; f < frames; f++) {
                if (owner[f] == who) {
                    bits |= 1 << view[f];
                }
            }
            return bits;
        }

        int incomeOf(int who) {
            int sum = 0;
            for (int f = 0; f < frames; f++) {
                if (owner[f] == who) {
                    sum += worthOutOf(f);
                }
            }
            return sum;
        }

        int framesAtHome() {
            int bits = 0;
            for (int f = 0; f < frames; f++) {
                if (view[f] == f) {
                    bits |= 1 << f;
                }
            }
            return bits;
        }

        boolean viewsAreHome() {
            return Integer.bitCount(framesAtHome()) == frames;
        }

        int moneyInAll() {
            int sum = 0;
            for (int i = 0; i < OWNERS; i++) {
                sum += money[i];
            }
            return sum;
        }

        int fineInAll() {
            int sum = 0;
            for (int v = 0; v < frames; v++) {
                sum += fine[v];
            }
            return sum;
        }

        int curtainsDrawn() {
            int sum = 0;
            for (int f = 0; f < frames; f++) {
                sum += curtain[f];
            }
            return sum;
        }

        // Below 0 it is the owner of FRAME b who has to pay.
        private int dueFromFirst(int a, int b) {
            return owner[a] == owner[b] ? 0 : soldFor(view[b]) - soldFor(view[a]);
        }

        boolean canExchange(int a, int b) {
            int due = dueFromFirst(a, b);
            return due > 0 ? money[owner[a]] >= due : money[owner[b]] >= -due;
        }

        int exchange(int a, int b) {
            int due = dueFromFirst(a, b);
            if (due > 0) {
                pay(owner[a], owner[b], due);
            } else {
                pay(owner[b], owner[a], -due);
            }
            swapViews(a, b);
            return Math.abs(due);
        }

        private void pay(int payer, int payee, int sum) {
            money[payer] -= sum;
            money[payee] = Math.min(MOST_MONEY, money[payee] + sum);
        }

        void swapViews(int a, int b) {
            int v = view[a];
            view[a] = view[b];
            view[b] = v;
        }

        void shiftViews() {
            int first = view[0];
            for (int f = 0; f + 1 < frames; f++) {
                view[f] = view[f + 1];
            }
            if (frames > 0) {
                view[frames - 1] = first;
            }
        }

        // A ring of k FRAMES that hold each other's views takes k - 1 EXCHANGES.
        int exchangesTillHome() {
            int rings = 0;
            int seen = 0;
            for (int f = 0; f < frames; f++) {
                if ((seen >> f & 1) == 0) {
                    rings++;
                    int at = f;
                    for (int i = 0; i < frames; i++) {
                        seen |= 1 << at;
                        at = view[at];
                    }
                }
            }
            return frames - rings;
        }

        void passHour() {
            for (int f = 0; f < frames; f++) {
                int who = owner[f];
                money[who] = Math.min(MOST_MONEY, money[who] + worthOutOf(f));
            }
            for (int v = 0; v < frames; v++) {
                fine[v] = Kinds.fineBehind(kind[v], fine[v], hour);
            }
            hour++;
        }
    }

    /**
     * Reads THE TEXT of a CITY token by token. A token that can't stand where it is stays the
     * current one, so that a FAULT is always at its place; the end is a token, too.
     */
    private static final class Tape {
        private static final int END = 0;
        private static final int WORD = 1;
        private static final int NUMBER = 2;
        private static final int SEMICOLON = 3;
        private static final int NO_TOKEN = 4;
        private static final int MOST_NUMBER = 9999;

        private final int[] bytes = new int[MOST_BYTES];
        int length = 0;
        private int token = END;
        private int place = 0;
        private int behind = 0;
        private int number = 0;

        boolean hasRoomFor(int n) {
            return length + n <= MOST_BYTES;
        }

        void append(int source, int n) {
            for (int i = n - 1; i >= 0; i--) {
                bytes[length] = source >> 8 * i & 255;
                length++;
            }
        }

        int clear() {
            int before = length;
            length = 0;
            return before;
        }

        // How many ITEMS came to the city, or -1 less the place of the FAULT.
        int readOnto(City city) {
            behind = 0;
            advance();
            for (int items = 1; items <= MOST_BYTES; items++) {
                if (!readItem(city)) {
                    return -1 - place;
                }
                if (token == END) {
                    return items;
                }
                if (token != SEMICOLON) {
                    return -1 - place;
                }
                advance();
            }
            return -1 - place;
        }

        private boolean readItem(City city) {
            int kind = kindHere();
            if (Kinds.isKind(kind)) {
                return readFrame(city, kind);
            }
            if (isWord("trade")) {
                return readTrade(city);
            }
            if (isWord("money")) {
                return readMoney(city);
            }
            return false;
        }

        private boolean readFrame(City city, int kind) {
            if (city.frames >= MOST_FRAMES) {
                return false;
            }
            advance();
            if (!isNumberUpTo(OWNERS - 1)) {
                return false;
            }
            int frame = city.addFrame(kind, number);
            advance();
            if (isWord("fine")) {
                advance();
                if (!isNumberUpTo(MOST_FINE)) {
                    return false;
                }
                city.fine[frame] = number;
                advance();
            }
            if (isWord("curtain")) {
                city.curtain[frame] = 1;
                advance();
            }
            return true;
        }

        private boolean readTrade(City city) {
            advance();
            if (!isNumberUpTo(city.frames - 1)) {
                return false;
            }
            int frame = number;
            advance();
            if (!isNumberUpTo(city.frames - 1) || number == frame) {
                return false;
            }
            city.swapViews(frame, number);
            advance();
            return true;
        }

        private boolean readMoney(City city) {
            advance();
            if (!isNumberUpTo(OWNERS - 1)) {
                return false;
            }
            int owner = number;
            advance();
            if (!isNumberUpTo(MOST_NUMBER)) {
                return false;
            }
            city.money[owner] = number;
            advance();
            return true;
        }

        private int kindHere() {
            for (int k = 0; k < Kinds.KINDS; k++) {
                if (isWord(Kinds.nameOf(k))) {
                    return k;
                }
            }
            return -1;
        }

        private boolean isWord(String word) {
            if (token != WORD || behind - place != word.length()) {
                return false;
            }
            for (int i = 0; i < word.length(); i++) {
                if (bytes[place + i] != word.charAt(i)) {
                    return false;
                }
            }
            return true;
        }

        private boolean isNumberUpTo(int most) {
            return token == NUMBER && number <= most;
        }

        private void advance() {
            place = behind;
            while (place < length && bytes[place] == ' ') {
                place++;
            }
            behind = place;
            if (place >= length) {
                token = END;
            } else if (isLetter(bytes[place])) {
                token = WORD;
                passWord();
            } else if (isDigit(bytes[place])) {
                token = NUMBER;
                passNumber();
            } else {
                token = bytes[place] == ';' ? SEMICOLON : NO_TOKEN;
                behind = place + 1;
            }
        }

        private void passWord() {
            while (behind < length && isLetter(bytes[behind])) {
                behind++;
            }
        }

        // A number above 9999 may stand nowhere: how far above doesn't matter, and must not wrap around.
        private void passNumber() {
            number = 0;
            while (behind < length && isDigit(bytes[behind])) {
                int digit = bytes[behind] - '0';
                number = Math.min(MOST_NUMBER + 1, 10 * number + digit);
                behind++;
            }
        }

        private static boolean isLetter(int b) {
            return b >= 'a' && b <= 'z';
        }

        private static boolean isDigit(int b) {
            return b >= '0' && b <= '9';
        }
    }

    private static final class Sheet {
        int bits = 0;
        int size = 0;
        final long[] numbers = new long[MOST_NUMBERS];

        boolean isMissing() {
            return bits == 0;
        }

        void begin(int newBits, int n) {
            bits = newBits;
            size = newBits == 0 ? 0 : n;
            for (int i = 0; i < MOST_NUMBERS; i++) {
                numbers[i] = 0L;
            }
        }

        void put(int i, long v) {
            switch (bits) {
                case 8:
                    numbers[i] = (byte) v;
                    break;
                case 16:
                    numbers[i] = (short) v;
                    break;
                default:
                    numbers[i] = v;
                    break;
            }
        }

        boolean hasRange(int from, int n) {
            return from >= 0 && n >= 0 && n <= size && from <= size - n;
        }
    }
}
