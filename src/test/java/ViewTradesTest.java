/** For each promise of DOC.md its ordinary inputs, its edges and wrong inputs, reckoned by hand. */
final class ViewTradesTest {
    private static final int BEYOND = -1000000001;
    private static final int FULL = -1000000002;
    private static final int KIND = -1000000003;
    private static final int NONE = -1000000004;
    private static final int STATE = -1000000005;
    private static final int MISSING = -1000000006;
    private static final int SIZE = -1000000007;
    private static final int YARD = 0;
    private static final int SEA = 1;
    private static final int STREET = 2;
    private static final int SKY = 3;
    private static final int STEEPLE = 4;
    private static final int GARDEN = 5;
    private static final int LOW = Integer.MIN_VALUE;
    private static final int HIGH = Integer.MAX_VALUE;

    private final Checks c = new Checks();
    private ViewTrades x;

    public static void main(String[] args) {
        new ViewTradesTest().runAll();
    }

    private void runAll() {
        owners();
        framesAndViews();
        hoursThatGo();
        whatIsBest();
        texts();
        sheets();
        images();
        c.finish();
    }

    private void begin(String name) {
        c.begin(name);
        x = new ViewTrades();
    }

    private void due(String what, long got, long want) {
        c.due(what, got, want);
    }

    /** A frame of each kind, 0 to 5, of owners 0 1 2 3 0 1. */
    private void six() {
        for (int k = 0; k < 6; k++) {
            x.frame(k, k % 4);
        }
    }

    private void hoursToGo(int n) {
        for (int left = n; left > 0; left -= 200) {
            x.hours(Math.min(200, left));
        }
    }

    private void feedText(String text) {
        for (int i = 0; i < text.length(); i++) {
            x.feed(text.charAt(i), 1);
        }
    }

    private void dueText(String text, int want) {
        feedText(text);
        due("count(1) ahead of the text", x.count(1), text.length());
        due("city() of \"" + text + "\"", x.city(), want);
        due("count(1) behind the text", x.count(1), 0);
    }

    private void dueFault(String text, int place) {
        int before = x.status(-1);
        int frames = x.count(0);
        long money = x.now(3);
        dueText(text, -1 - place);
        due("findings behind a fault", x.status(-1), before);
        due("frames behind a fault", x.count(0), frames);
        due("money behind a fault", x.now(3), money);
    }

    // ---- owners

    private void owners() {
        begin("promise 1: a new object");
        for (int what = 0; what < 4; what++) {
            due("count", x.count(what), 0);
            due("money of " + what, x.ownerOf(what, 0), 100);
            due("frames of " + what, x.ownerOf(what, 1), 0);
            due("lays", x.lays(what), MISSING);
        }
        due("hour", x.now(0), 0);
        due("all at home", x.now(4), 0);
        due("spring", x.now(2), 1);
        due("undo", x.undo(), NONE);
        due("tear", x.tear(), 0);
        due("status", x.status(-1), 5);
        due("a second object has its own state", new ViewTrades().status(-1), 0);
        c.end();

        begin("promise 2: money");
        due("money(3, 99999)", x.money(3, 99999), 100);
        due("money(3, 0)", x.money(3, 0), 99999);
        due("money(3, 5)", x.money(3, 5), 0);
        due("others keep theirs", x.now(3), 305);
        due("owner 4", x.money(4, 0), BEYOND);
        due("owner -1", x.money(-1, 0), BEYOND);
        due("v -1", x.money(3, -1), BEYOND);
        due("v 100000", x.money(3, 100000), BEYOND);
        due("nothing changed", x.ownerOf(3, 0), 5);
        c.end();

        begin("promise 3: ownerOf");
        six();
        x.trade(0, 4);
        x.trade(0, 1);
        due("MONEY", x.ownerOf(0, 0), 100);
        due("FRAMES", x.ownerOf(0, 1), 17);
        due("views", x.ownerOf(0, 2), 3);
        due("views of 1", x.ownerOf(1, 2), 48);
        due("gets", x.ownerOf(0, 3), 6);
        due("gets of 1", x.ownerOf(1, 3), 19);
        x.set(1, 1, 1);
        due("gets behind a curtain", x.ownerOf(1, 3), 16);
        due("views behind a curtain", x.ownerOf(1, 2), 48);
        x.money(1, 99999);
        due("gets with most money", x.ownerOf(1, 3), 16);
        due("what 4", x.ownerOf(0, 4), BEYOND);
        due("what -1", x.ownerOf(0, -1), BEYOND);
        due("owner 4", x.ownerOf(4, 0), BEYOND);
        due("owner -1", x.ownerOf(-1, 0), BEYOND);
        c.end();
    }

    // ---- frames and views

    private void framesAndViews() {
        begin("promise 4: frame");
        for (int f = 0; f < 8; f++) {
            due("frame " + f, x.frame(f % 6, f % 4), f);
        }
        due("a 9th", x.frame(0, 0), FULL);
        due("a 9th of a wrong kind", x.frame(6, 0), BEYOND);
        due("a 9th of a wrong owner", x.frame(0, 4), BEYOND);
        due("kind -1", x.frame(-1, 0), BEYOND);
        due("owner -1", x.frame(0, -1), BEYOND);
        due("count", x.count(0), 8);
        due("its kind", x.of(7, 0), 1);
        due("its owner", x.frameOf(7, 0), 3);
        due("its curtain", x.frameOf(7, 1), 0);
        due("its view", x.frameOf(7, 2), 7);
        due("its fine", x.of(7, 1), 10);
        c.end();

        begin("promise 5: frameOf");
        due("none there", x.frameOf(0, 0), BEYOND);
        six();
        x.trade(4, 0);
        due("OWNER", x.frameOf(3, 0), 3);
        due("CURTAIN", x.frameOf(3, 1), 0);
        due("VIEW", x.frameOf(4, 2), 0);
        due("WORTH", x.frameOf(5, 3), 16);
        x.set(5, 1, 1);
        due("CURTAIN drawn", x.frameOf(5, 1), 1);
        due("WORTH behind it", x.frameOf(5, 3), 0);
        due("its view", x.of(5, 3), 16);
        due("what 4", x.frameOf(0, 4), BEYOND);
        due("what -1", x.frameOf(0, -1), BEYOND);
        due("frame 6", x.frameOf(6, 0), BEYOND);
        due("frame -1", x.frameOf(-1, 0), BEYOND);
        c.end();

        begin("promise 6: set");
        six();
        due("OWNER", x.set(1, 0, 3), 1);
        due("OWNER again", x.set(1, 0, 0), 3);
        due("is", x.frameOf(1, 0), 0);
        due("CURTAIN", x.set(1, 1, 1), 0);
        due("CURTAIN again", x.set(1, 1, 1), 1);
        due("CURTAIN away", x.set(1, 1, 0), 1);
        due("OWNER 4", x.set(1, 0, 4), BEYOND);
        due("OWNER -1", x.set(1, 0, -1), BEYOND);
        due("CURTAIN 2", x.set(1, 1, 2), BEYOND);
        due("CURTAIN -1", x.set(1, 1, -1), BEYOND);
        due("what 2", x.set(1, 2, 0), BEYOND);
        due("what -1", x.set(1, -1, 0), BEYOND);
        due("frame 6", x.set(6, 0, 0), BEYOND);
        due("frame -1", x.set(-1, 1, 0), BEYOND);
        due("still", x.frameOf(1, 0) + x.frameOf(1, 1), 0);
        c.end();

        worths();

        begin("promise 8: fine");
        six();
        due("fine(2, 99)", x.fine(2, 99), 10);
        due("fine(2, 0)", x.fine(2, 0), 99);
        due("is", x.of(2, 1), 0);
        due("100", x.fine(2, 100), BEYOND);
        due("-1", x.fine(2, -1), BEYOND);
        due("view 6", x.fine(6, 0), BEYOND);
        due("view -1", x.fine(-1, 0), BEYOND);
        due("still", x.count(3), 50);
        c.end();

        begin("promise 9: turn");
        six();
        x.fine(2, 40);
        due("turn(2, 3)", x.turn(2, SKY), STREET);
        due("is", x.of(2, 0), SKY);
        due("FINE stays", x.of(2, 1), 40);
        due("its worth", x.of(2, 3), 10);
        due("back", x.turn(2, YARD), SKY);
        due("kind 6", x.turn(2, 6), BEYOND);
        due("kind -1", x.turn(2, -1), BEYOND);
        due("view 6", x.turn(6, 0), BEYOND);
        due("view -1", x.turn(-1, 0), BEYOND);
        due("still", x.of(2, 0), YARD);
        c.end();

        begin("promise 10: as");
        six();
        int[] sets = {1, 3, 5, 9, 19, 37};
        for (int k = 0; k < 6; k++) {
            x.fine(k, 20 + k);
            for (int as = 0; as < 6; as++) {
                due(k + " as " + as, x.as(k, as), (sets[k] >> as & 1) == 1 ? 20 + k : KIND);
            }
        }
        due("kind 6", x.as(0, 6), BEYOND);
        due("kind -1", x.as(0, -1), BEYOND);
        due("view 6", x.as(6, 0), BEYOND);
        due("view -1", x.as(-1, 5), BEYOND);
        c.end();

        trades();
        shiftsAndStones();
    }

    private void worths() {
        begin("promise 7: of");
        due("none there", x.of(0, 0), BEYOND);
        six();
        x.trade(0, 4);
        due("KIND", x.of(5, 0), GARDEN);
        due("FINE", x.of(5, 1), 10);
        due("seen out of", x.of(4, 2), 0);
        due("seen out of", x.of(0, 2), 4);
        due("what 6", x.of(0, 6), BEYOND);
        due("what -1", x.of(0, -1), BEYOND);
        due("view 6", x.of(6, 0), BEYOND);
        due("view -1", x.of(-1, 3), BEYOND);
        x.set(4, 1, 1);
        due("CURTAIN or not", x.of(0, 3), 3);
        c.end();

        begin("promise 7: WORTH in each hour of a day");
        six();
        for (int k = 0; k < 6; k++) {
            x.fine(k, 39);
        }
        for (int h = 0; h < 24; h++) {
            int light = h >= 6 && h <= 17 ? 5 : 0;
            int life = h % 2 == 0 ? 3 : 0;
            x.fine(STREET, 39);
            due("yard at " + h, x.of(YARD, 3), 5);
            due("sea at " + h, x.of(SEA, 3), 5 + light);
            due("street at " + h, x.of(STREET, 3), 5 + life);
            due("sky at " + h, x.of(SKY, 3), 9);
            due("steeple at " + h, x.of(STEEPLE, 3), h == 12 ? 20 : 5 + light);
            due("garden at " + h, x.of(GARDEN, 3), 44 + life);
            x.hours(1);
        }
        c.end();

        begin("promise 7: spring, WEARS and SOLD FOR");
        six();
        int[] wears = {0, 0, 1, 0, 0, 0};
        int[] prices = {50, 100, 50, 100, 100, 150};
        for (int k = 0; k < 6; k++) {
            due("WEARS of " + k, x.of(k, 4), wears[k]);
            due("SOLD FOR of " + k, x.of(k, 5), prices[k]);
        }
        x.fine(STREET, 0);
        due("a street that can't wear more", x.of(STREET, 4), 1);
        hoursToGo(7 * 24 - 1);
        due("last hour of spring", x.now(2), 1);
        due("garden then", x.of(GARDEN, 3), 13);
        due("garden for", x.of(GARDEN, 5), 150);
        x.hours(1);
        due("first hour behind spring", x.now(2), 0);
        due("garden then", x.of(GARDEN, 3), 6);
        due("garden for", x.of(GARDEN, 5), 50);
        due("garden WEARS", x.of(GARDEN, 4), 1);
        hoursToGo(21 * 24 - 1);
        due("the year's last hour", x.now(2), 0);
        x.hours(1);
        due("spring again", x.now(2), 1);
        due("garden WEARS", x.of(GARDEN, 4), 0);
        c.end();
    }

    private void trades() {
        begin("promise 11: trade");
        six();
        x.fine(SEA, 60);
        due("too dear by one", x.trade(0, 1), STATE);
        x.money(0, 299);
        due("too dear by one", x.trade(1, 0), STATE);
        due("views stay", x.now(4), 63);
        x.money(0, 300);
        due("just enough", x.trade(1, 0), 300);
        due("payer", x.ownerOf(0, 0), 0);
        due("payee", x.ownerOf(1, 0), 400);
        due("view of 0", x.frameOf(0, 2), 1);
        due("view of 1", x.frameOf(1, 2), 0);
        due("owners stay", x.frameOf(0, 0) * 10 + x.frameOf(1, 0), 1);
        due("same owner", x.trade(0, 4), 0);
        due("nothing paid", x.ownerOf(0, 0), 0);
        due("view of 0", x.frameOf(0, 2), 4);
        due("as dear", x.trade(1, 2), 0);
        x.money(3, 99999);
        x.money(2, 99999);
        x.fine(SKY, 90);
        due("most money", x.trade(3, 2), 850);
        due("payer", x.ownerOf(2, 0), 99149);
        due("payee", x.ownerOf(3, 0), 99999);
        due("one and the same", x.trade(0, 0), BEYOND);
        due("frame 6", x.trade(6, 0), BEYOND);
        due("frame 6", x.trade(0, 6), BEYOND);
        due("frame -1", x.trade(-1, 0), BEYOND);
        due("frame -1", x.trade(0, -1), BEYOND);
        c.end();

        begin("promise 11: blossom is dear in spring alone");
        x.frame(GARDEN, 0);
        x.frame(YARD, 1);
        due("in spring", x.trade(0, 1), 100);
        hoursToGo(7 * 24);
        x.fine(0, 10);
        due("behind it", x.trade(0, 1), 0);
        c.end();
    }

    private void shiftsAndStones() {
        begin("promise 12: shift");
        due("no frames", x.shift(), 0);
        x.frame(0, 0);
        due("one frame", x.shift(), 1);
        due("its view", x.frameOf(0, 2), 0);
        x.frame(1, 1);
        x.frame(2, 2);
        due("three frames", x.shift(), 3);
        due("views", x.frameOf(0, 2) * 100 + x.frameOf(1, 2) * 10 + x.frameOf(2, 2), 120);
        x.shift();
        due("views", x.frameOf(0, 2) * 100 + x.frameOf(1, 2) * 10 + x.frameOf(2, 2), 201);
        due("nobody pays", x.now(3), 400);
        c.end();

        begin("promise 13: back");
        due("no frames", x.back(), 0);
        for (int f = 0; f < 8; f++) {
            x.frame(0, 0);
        }
        due("at home", x.back(), 0);
        for (int n = 7; n >= 0; n--) {
            x.shift();
            due("from " + n, x.back(), n);
        }
        x.trade(2, 5);
        due("never", x.back(), NONE);
        due("nothing moved", x.now(4), 255 - 4 - 32);
        c.end();

        begin("promise 14: stone");
        due("no frames", x.stone(0, 0), BEYOND);
        six();
        x.shift();
        due("none thrown", x.stone(4, 0), 4);
        due("one", x.stone(4, 1), 5);
        due("two", x.stone(4, 2), 0);
        due("20", x.stone(1, 20), 3);
        due("21", x.stone(1, 21), BEYOND);
        due("-1", x.stone(1, -1), BEYOND);
        due("frame 6", x.stone(6, 1), BEYOND);
        due("frame -1", x.stone(-1, 1), BEYOND);
        c.end();

        begin("promise 15: home");
        due("no frames", x.home(), 0);
        six();
        due("at home", x.home(), 0);
        x.trade(0, 4);
        due("one ring of two", x.home(), 1);
        x.trade(1, 5);
        due("two rings of two", x.home(), 2);
        x.trade(0, 4);
        x.trade(1, 5);
        x.shift();
        due("a ring of six", x.home(), 5);
        x.shift();
        due("two rings of three", x.home(), 4);
        c.end();
    }

    // ---- hours

    private void hoursThatGo() {
        begin("promise 16: hours");
        six();
        due("one hour", x.hours(1), 400 + 33);
        due("a street wears at hour 0", x.of(STREET, 1), 9);
        due("a garden doesn't in spring", x.of(GARDEN, 1), 10);
        due("money of 1", x.ownerOf(1, 0), 100 + 3 + 16);
        x.hours(23);
        due("not at other hours", x.of(STREET, 1), 9);
        x.hours(1);
        due("but at the next 0", x.of(STREET, 1), 8);
        x.fine(STREET, 0);
        hoursToGo(6 * 24);
        due("FINE 0 at least", x.of(STREET, 1), 0);
        due("a garden behind spring", x.of(GARDEN, 1), 9);
        due("the others", x.of(YARD, 1) + x.of(SEA, 1) + x.of(SKY, 1) + x.of(STEEPLE, 1), 40);
        due("0", x.hours(0), BEYOND);
        due("-1", x.hours(-1), BEYOND);
        due("201", x.hours(201), BEYOND);
        due("hour", x.now(0), 169);
        due("200", x.hours(200) > 0 ? x.now(0) : -1, 369);
        c.end();

        begin("promise 16: the edges of hours");
        x.frame(YARD, 0);
        x.frame(STREET, 1);
        x.money(0, 99997);
        x.set(1, 1, 1);
        due("most money", x.hours(1), 99999 + 300);
        due("a view wears behind a curtain", x.of(1, 1), 9);
        x.money(0, 0);
        for (int i = 0; i < 499; i++) {
            x.hours(200);
        }
        due("hour", x.now(0), 99801);
        due("one too many", x.hours(199), STATE);
        due("201 all the same", x.hours(201), BEYOND);
        due("to the last", x.hours(198), 99999 + 300);
        due("hour", x.now(0), 99999);
        due("none left", x.hours(1), STATE);
        x.money(1, 50);
        x.set(1, 1, 0);
        x.fine(1, 50);
        due("ON goes on: 99999 is an odd hour, 100000 an even one", x.on(1, 2), 50 + 7 + 10);
        due("then", x.then(1, 1, 0), 10);
        c.end();

        begin("promise 17: now");
        due("spring", x.now(2), 1);
        six();
        x.trade(0, 4);
        x.fine(0, 99);
        hoursToGo(7 * 24 + 5);
        due("HOUR", x.now(0), 173);
        due("hour of the day", x.now(1), 5);
        due("spring", x.now(2), 0);
        due("MONEY", x.now(3), x.ownerOf(0, 0) + x.ownerOf(1, 0) + x.ownerOf(2, 0) + x.ownerOf(3, 0));
        due("at home", x.now(4), 46);
        due("FINE", x.now(5), 99 + 10 + 2 + 10 + 10 + 9);
        due("what 6", x.now(6), BEYOND);
        due("what -1", x.now(-1), BEYOND);
        c.end();

        begin("promise 18: on");
        six();
        due("0 hours", x.on(1, 0), 100);
        due("1 hour", x.on(1, 1), 119);
        due("2 hours", x.on(1, 2), 119 + 3 + 13);
        x.set(1, 1, 1);
        due("a curtain", x.on(1, 2), 100 + 16 + 13);
        due("a street in 2 days", x.on(2, 48), 100 + 6 + 23 * 2 + 11 * 3 + 5 + 23 * 2 + 11 * 3);
        due("nothing changes", x.now(0) + x.now(3) + x.of(STREET, 1), 410);
        x.money(1, 99998);
        due("most money", x.on(1, 400), 99999);
        hoursToGo(23);
        x.fine(STREET, 10);
        x.money(2, 100);
        due("past midnight", x.on(2, 3), 100 + 3 + 6 + 2);
        due("401", x.on(0, 401), BEYOND);
        due("-1", x.on(0, -1), BEYOND);
        due("owner 4", x.on(4, 1), BEYOND);
        due("owner -1", x.on(-1, 1), BEYOND);
        c.end();

        begin("promise 19: then");
        six();
        x.trade(0, 4);
        due("at once", x.then(0, 0, 0), 3);
        due("at noon", x.then(0, 12, 0), 16);
        due("FINE of a street", x.then(2, 1, 1), 9);
        due("FINE of a street", x.then(2, 24, 1), 9);
        due("FINE of a street", x.then(2, 25, 1), 8);
        due("FINE of a garden", x.then(5, 400, 1), 0);
        due("FINE of a garden", x.then(5, 169, 1), 9);
        due("WORTH of a garden", x.then(5, 166, 0), 16);
        due("WORTH of a garden", x.then(5, 168, 0), 6);
        x.set(5, 1, 1);
        due("WORTH behind a curtain", x.then(5, 166, 0), 0);
        due("FINE behind a curtain", x.then(5, 169, 1), 9);
        due("what 2", x.then(0, 0, 2), BEYOND);
        due("what -1", x.then(0, 0, -1), BEYOND);
        due("401", x.then(0, 401, 0), BEYOND);
        due("-1", x.then(0, -1, 0), BEYOND);
        due("frame 6", x.then(6, 0, 0), BEYOND);
        due("frame -1", x.then(-1, 0, 0), BEYOND);
        c.end();

        begin("promise 20: rich");
        x.frame(YARD, 0);
        due("already", x.rich(0, 100), 0);
        due("v 0", x.rich(0, 0), 0);
        due("in an hour", x.rich(0, 101), 1);
        due("in an hour", x.rich(0, 103), 1);
        due("in two", x.rich(0, 104), 2);
        due("in 400", x.rich(0, 1300), 400);
        due("in 401", x.rich(0, 1301), NONE);
        due("never", x.rich(1, 101), NONE);
        due("v 99999", x.rich(0, 99999), NONE);
        due("v 100000", x.rich(0, 100000), BEYOND);
        due("v -1", x.rich(0, -1), BEYOND);
        due("owner 4", x.rich(4, 0), BEYOND);
        due("owner -1", x.rich(-1, 0), BEYOND);
        due("nothing changes", x.now(0), 0);
        c.end();
    }

    // ---- what is best

    private void whatIsBest() {
        begin("promise 21: best");
        due("no frames", x.best(0, 1), NONE);
        x.frame(YARD, 0);
        due("one frame", x.best(0, 1), NONE);
        x.frame(YARD, 1);
        due("no better", x.best(0, 200), NONE);
        x.frame(YARD, 2);
        x.turn(1, SEA);
        x.turn(2, SEA);
        due("too short to pay", x.best(0, 8), NONE);
        due("the least of two", x.best(0, 24), 1);
        x.fine(1, 9);
        x.fine(2, 8);
        due("as good for less", x.best(0, 48), 2);
        x.money(0, 39);
        due("can't be paid", x.best(0, 48), NONE);
        x.money(0, 40);
        due("just", x.best(0, 48), 2);
        due("others trade, too, but to no use", x.best(3, 48), NONE);
        due("sold at once", x.best(2, 1), 2);
        due("201", x.best(0, 201), BEYOND);
        due("0", x.best(0, 0), BEYOND);
        x.set(0, 0, 3);
        x.set(1, 0, 0);
        x.turn(1, YARD);
        due("what can be paid", x.best(0, 48), 1);
        x.money(0, 45);
        due("frames 1 and 2", x.best(0, 48), 12);
        x.money(0, 40);
        x.set(0, 0, 0);
        x.set(1, 0, 1);
        due("owner 4", x.best(4, 1), BEYOND);
        due("owner -1", x.best(-1, 1), BEYOND);
        due("nothing changes", x.now(4) + x.now(3), 347);
        c.end();

        begin("promise 22: kind");
        due("no views", x.kind(0, 1), BEYOND);
        x.frame(YARD, 0);
        due("in spring", x.kind(0, 24), GARDEN);
        x.fine(0, 0);
        due("street before garden", x.kind(0, 1), STREET);
        due("sea for a day of 0", x.kind(0, 24), STEEPLE);
        x.fine(0, 99);
        hoursToGo(169);
        due("sky, once spring is over", x.kind(0, 1), SKY);
        x.fine(0, 10);
        due("all yards alike at an odd hour", x.kind(0, 1), YARD);
        x.set(0, 1, 1);
        x.turn(0, SKY);
        due("whatever it is, a curtain drawn", x.kind(0, 1), YARD);
        hoursToGo(5);
        due("sea and steeple alike at 6", x.kind(0, 1), SEA);
        due("0", x.kind(0, 0), BEYOND);
        due("201", x.kind(0, 201), BEYOND);
        due("view 1", x.kind(1, 1), BEYOND);
        due("view -1", x.kind(-1, 1), BEYOND);
        due("nothing changes", x.of(0, 0) * 100 + x.of(0, 1), 310);
        c.end();

        begin("promise 22: a kind WEARS");
        x.frame(YARD, 0);
        hoursToGo(7 * 24);
        x.fine(0, 40);
        due("a street is worth 7 and 7, a sea 6 and 6, a sky 10 and 10", x.kind(0, 2), SKY);
        x.fine(0, 10);
        due("for a day", x.kind(0, 1), STREET);
        due("it wears to 9, worth 2", x.kind(0, 4), YARD + 2);
        c.end();

        begin("promise 23: shifts");
        due("no frames", x.shifts(0, 1), 0);
        for (int f = 0; f < 8; f++) {
            x.frame(YARD, f == 0 ? 0 : 1);
        }
        due("all alike", x.shifts(0, 24), 0);
        x.turn(5, SEA);
        due("one sea", x.shifts(0, 24), 5);
        x.turn(7, GARDEN);
        due("a garden", x.shifts(0, 24), 7);
        x.turn(6, GARDEN);
        due("two gardens", x.shifts(0, 24), 6);
        x.set(0, 1, 1);
        due("behind a curtain", x.shifts(0, 24), 0);
        due("0", x.shifts(0, 0), BEYOND);
        due("201", x.shifts(0, 201), BEYOND);
        due("owner 4", x.shifts(4, 1), BEYOND);
        due("owner -1", x.shifts(-1, 1), BEYOND);
        due("nothing changes", x.now(4), 255);
        c.end();

        begin("promise 24: least");
        due("no views", x.least(0, 0, 1, 0), BEYOND);
        x.frame(YARD, 0);
        x.frame(GARDEN, 1);
        due("enough already", x.least(0, 0, 1, 102), 0);
        due("nothing wanted", x.least(0, 0, 1, 0), 0);
        due("a little", x.least(0, 0, 1, 103), 10);
        due("more", x.least(0, 0, 10, 200), 80);
        due("99", x.least(1, 1, 1, 100 + 2 + 9 + 3 + 99), 99);
        due("too much", x.least(1, 1, 1, 100 + 2 + 9 + 3 + 100), NONE);
        due("another's view", x.least(1, 0, 1, 103), 0);
        due("another's view", x.least(1, 0, 1, 104), NONE);
        x.trade(0, 1);
        due("seen out of it now", x.least(1, 0, 1, x.ownerOf(0, 0) + 20), 14);
        x.set(0, 1, 1);
        due("behind a curtain", x.least(1, 0, 1, x.ownerOf(0, 0) + 1), NONE);
        due("v -1", x.least(0, 0, 1, -1), BEYOND);
        due("v 100000", x.least(0, 0, 1, 100000), BEYOND);
        due("0", x.least(0, 0, 0, 0), BEYOND);
        due("201", x.least(0, 0, 201, 0), BEYOND);
        due("owner 4", x.least(0, 4, 1, 0), BEYOND);
        due("owner -1", x.least(0, -1, 1, 0), BEYOND);
        due("view 2", x.least(2, 0, 1, 0), BEYOND);
        due("view -1", x.least(-1, 0, 1, 0), BEYOND);
        due("nothing changes", x.count(3), 20);
        c.end();

        begin("promise 25: draw");
        due("no frames", x.draw(1), NONE);
        six();
        due("a sky is worth least", x.draw(200), 3);
        x.fine(SKY, 90);
        due("yard, sea and steeple in the night", x.draw(6), 0);
        x.set(0, 1, 1);
        due("but one that isn't drawn", x.draw(6), 1);
        x.money(1, 99999);
        due("most money loses nothing", x.draw(200), 1);
        x.set(1, 1, 1);
        due("nor here", x.draw(200), 5);
        x.money(1, 99998);
        due("it would lose one, a steeple 3", x.draw(1), 5);
        for (int f = 0; f < 6; f++) {
            x.set(f, 1, 1);
        }
        due("all are drawn", x.draw(1), NONE);
        due("0", x.draw(0), BEYOND);
        due("201", x.draw(201), BEYOND);
        x.set(2, 1, 0);
        due("the one", x.draw(1), 2);
        due("nothing changes", x.count(2), 5);
        c.end();

        begin("promise 26: richest");
        due("all alike", x.richest(400), 0);
        x.frame(YARD, 3);
        due("at once", x.richest(0), 0);
        due("in an hour", x.richest(1), 3);
        x.money(1, 700);
        due("in 200", x.richest(200), 1);
        due("in 201", x.richest(201), 3);
        x.money(2, 99999);
        x.money(3, 99000);
        due("most money", x.richest(400), 2);
        due("401", x.richest(401), BEYOND);
        due("-1", x.richest(-1), BEYOND);
        c.end();
    }

    // ---- the text

    private void texts() {
        begin("promise 27: feed");
        due("n 0", x.feed(0, 0), BEYOND);
        due("n 5", x.feed(0, 5), BEYOND);
        due("n -1", x.feed(0, -1), BEYOND);
        due("the highest first", x.feed(0x736b7920, 4), 4);
        due("the lowest bytes", x.feed(0x41413120, 2), 6);
        due("a text", x.city(), 1);
        due("sky of 1", x.of(0, 0) * 10 + x.frameOf(0, 0), 31);
        for (int i = 4; i <= 116; i += 4) {
            due("four", x.feed(0x20202020, 4), i);
        }
        due("119", x.feed(0x202020, 3), 119);
        due("121", x.feed(0x2020, 2), FULL);
        due("n first", x.feed(0x2020, 5), BEYOND);
        due("120", x.feed(0xff, 1), 120);
        due("full", x.feed(0, 1), FULL);
        due("a byte above 127 is no token", x.city(), -120);
        c.end();

        begin("promise 28: wipe");
        due("empty", x.wipe(), 0);
        feedText("yard 0");
        due("six", x.wipe(), 6);
        due("empty", x.wipe(), 0);
        due("count", x.count(1), 0);
        feedText("sea 0");
        due("nothing of it is left", x.city() * 10 + x.of(0, 0), 11);
        c.end();

        begin("promise 29: city");
        dueText("yard 0;sea 1;street 2;sky 3;steeple 0;garden 1", 6);
        for (int f = 0; f < 6; f++) {
            due("kind " + f, x.of(f, 0), f);
            due("owner " + f, x.frameOf(f, 0), f % 4);
            due("fine " + f, x.of(f, 1), 10);
            due("curtain " + f, x.frameOf(f, 1), 0);
        }
        dueText("  sky3fine99curtain ; trade 0 6;money 3 9999 ", 3);
        due("fine", x.of(6, 1), 99);
        due("curtain", x.frameOf(6, 1), 1);
        due("views", x.frameOf(0, 2) * 10 + x.frameOf(6, 2), 60);
        due("money", x.ownerOf(3, 0), 9999);
        due("nobody pays", x.ownerOf(0, 0), 100);
        dueText("garden 1 curtain;money 0 0;trade 7 0", 3);
        due("view of 7", x.frameOf(7, 2), 6);
        dueText("money 00000000000000000002 000000000099999", -1 - 27);
        dueText("money 00000000000000000002 00000000009999", 1);
        due("leading noughts", x.ownerOf(2, 0), 9999);
        c.end();

        begin("promise 29: faults");
        dueFault("", 0);
        dueFault("   ", 3);
        dueFault("yard", 4);
        dueFault("yard  ", 6);
        dueFault("yard 4", 5);
        dueFault("yard x", 5);
        dueFault("yard;", 4);
        dueFault("yards 0", 0);
        dueFault("yar", 0);
        dueFault("tea 0", 0);
        dueFault("yardz 0", 0);
        dueFault("Yard 0", 0);
        dueFault(" ;", 1);
        dueFault("7", 0);
        dueFault("fine 3", 0);
        dueFault("curtain", 0);
        dueFault("yard 0;", 7);
        dueFault("yard 0; ;", 8);
        dueFault("yard 0 fine", 11);
        dueFault("yard 0 fine 100", 12);
        dueFault("yard 0 fine curtain", 12);
        dueFault("yard 0 fine 1 fine 1", 14);
        dueFault("yard 0 curtain curtain", 15);
        dueFault("yard 0 curtain fine 1", 15);
        dueFault("yard 0 sea 0", 7);
        dueFault("yard 0 1", 7);
        dueFault("yard 0-", 6);
        dueFault("yard 0,", 6);
        dueFault("yard 0\n", 6);
        dueFault("yard 0\t;", 6);
        dueFault("trade 0 1", 6);
        dueFault("trade", 5);
        dueFault("yard 0;trade 0 0", 15);
        dueFault("yard 0;trade 0 1", 15);
        dueFault("yard 0;trade 0", 14);
        dueFault("yard 0;trade 1 0;yard 1", 13);
        dueFault("yard 0;sea 1;trade 0 1 2", 23);
        dueFault("money 4 0", 6);
        dueFault("money 0 10000", 8);
        dueFault("money 0 99999999999999999999", 8);
        dueFault("money 0 4294967296", 8);
        dueFault("money 0 ;", 8);
        dueFault("money 1", 7);
        dueFault("money 0 1 1", 10);
        dueFault("money 0 5;yard 9", 15);
        x.frame(0, 0);
        dueFault("trade 0 0", 8);
        dueFault("sky0;sky0;sky0;sky0;sky0;sky0;sky0;sky0", 35);
        dueFault("sky0;sky0;sky0;sky0;sky0;sky0;sky0; sky", 36);
        dueText("sky0;sky0;sky0;sky0;sky0;sky0;sky0;trade 0 7", 8);
        dueFault("garden", 0);
        c.end();
    }

    // ---- sheets

    private void sheets() {
        begin("promise 30: sheet");
        due("sheet", x.sheet(0, 8, 40), 40);
        due("last number", x.write(0, 39, 1), 0);
        due("none behind it", x.write(0, 40, 1), BEYOND);
        due("anew", x.sheet(0, 16, 40), 40);
        due("all 0", x.write(0, 39, 1), 0);
        due("all 0", x.write(0, 0, 1), 0);
        x.sheet(0, 16, 40);
        due("the first, too", x.write(0, 0, 1), 0);
        due("0 numbers", x.sheet(0, 64, 0), 0);
        due("is there", x.lays(0), 0);
        due("bits 0", x.sheet(0, 0, 40), 0);
        due("is MISSING", x.lays(0), MISSING);
        due("sheet 4, n -1", x.sheet(4, 8, -1), BEYOND);
        due("sheet -1", x.sheet(-1, 8, 1), BEYOND);
        due("bits 32, n -1", x.sheet(0, 32, -1), BEYOND);
        due("bits -8", x.sheet(0, -8, 1), BEYOND);
        due("n -1", x.sheet(0, 8, -1), SIZE);
        due("n -1, bits 0", x.sheet(0, 0, -1), SIZE);
        due("n lowest", x.sheet(0, 64, LOW), SIZE);
        due("n 41", x.sheet(0, 8, 41), BEYOND);
        due("n 41, bits 0", x.sheet(0, 0, 41), BEYOND);
        due("n highest", x.sheet(0, 8, HIGH), BEYOND);
        due("still MISSING", x.lays(0), MISSING);
        c.end();

        begin("promise 31: write");
        due("MISSING", x.write(0, 0, 1), MISSING);
        due("MISSING, no such number", x.write(0, 99, 1), MISSING);
        due("sheet 4", x.write(4, 0, 1), BEYOND);
        due("sheet -1", x.write(-1, 0, 1), BEYOND);
        x.sheet(0, 8, 3);
        x.sheet(1, 16, 3);
        x.sheet(2, 64, 3);
        x.write(0, 1, 0x1234567890abL);
        x.write(1, 1, 0x1234567890abL);
        x.write(2, 1, 0x1234567890abL);
        due("8 bits", x.write(0, 1, 127), (byte) 0xab);
        due("16 bits", x.write(1, 1, 32767), (short) 0x90ab);
        due("64 bits", x.write(2, 1, Long.MIN_VALUE), 0x1234567890abL);
        due("127", x.write(0, 1, 128), 127);
        due("128", x.write(0, 1, 0), -128);
        due("32767", x.write(1, 1, 32768), 32767);
        due("32768", x.write(1, 1, 0), -32768);
        due("lowest", x.write(2, 1, 0), Long.MIN_VALUE);
        due("its neighbours", x.write(2, 0, 0) + x.write(2, 2, BEYOND), 0);
        due("a number like a finding", x.write(2, 2, 0), BEYOND);
        due("is none", x.status(-1), 4);
        due("i 3", x.write(0, 3, 0), BEYOND);
        due("i -1", x.write(0, -1, 0), BEYOND);
        c.end();

        copies();
        books();
        booksPastMidnight();
    }

    private void copies() {
        begin("promise 32: copy");
        due("sheet 4", x.copy(4, 0, 0, 0, 0), BEYOND);
        due("sheet -1", x.copy(0, 0, -1, 0, 0), BEYOND);
        due("MISSING", x.copy(0, -1, 0, 0, 0), MISSING);
        x.sheet(0, 16, 5);
        due("one MISSING", x.copy(0, 0, 1, 0, 0), MISSING);
        due("one MISSING", x.copy(1, 0, 0, 0, 0), MISSING);
        x.sheet(1, 8, 5);
        due("KIND", x.copy(0, -1, 1, 0, 0), KIND);
        x.sheet(1, 16, 3);
        for (int i = 0; i < 5; i++) {
            x.write(0, i, 500 + i);
        }
        due("three", x.copy(0, 2, 1, 0, 3), 3);
        due("none", x.copy(0, 5, 1, 3, 0), 0);
        due("too few there", x.copy(0, 0, 1, 0, 4), BEYOND);
        due("too few here", x.copy(0, 3, 1, 0, 3), BEYOND);
        due("from 6", x.copy(0, 6, 1, 0, 0), BEYOND);
        due("to 4", x.copy(0, 0, 1, 4, 0), BEYOND);
        due("from -1", x.copy(0, -1, 1, 0, 1), BEYOND);
        due("to -1", x.copy(0, 0, 1, -1, 1), BEYOND);
        due("n -1", x.copy(0, 1, 1, 1, -1), BEYOND);
        due("highest", x.copy(0, HIGH, 1, HIGH, HIGH), BEYOND);
        due("highest", x.copy(0, HIGH, 1, 0, 1), BEYOND);
        due("highest", x.copy(0, 1, 1, 0, HIGH), BEYOND);
        due("lowest", x.copy(0, LOW, 1, LOW, LOW), BEYOND);
        due("copied", x.write(1, 0, 0) * 1000000 + x.write(1, 1, 0) * 1000 + x.write(1, 2, 0), 502503504);
        due("onto itself", x.copy(0, 0, 0, 1, 4), 4);
        for (int i = 0; i < 5; i++) {
            due("up by one", x.write(0, i, 500 + i), i == 0 ? 500 : 499 + i);
        }
        due("onto itself", x.copy(0, 1, 0, 0, 4), 4);
        for (int i = 0; i < 5; i++) {
            due("down by one", x.write(0, i, 0), i == 4 ? 504 : 501 + i);
        }
        c.end();

        begin("promise 33: lays");
        due("sheet 4", x.lays(4), BEYOND);
        due("sheet -1", x.lays(-1), BEYOND);
        due("MISSING", x.lays(0), MISSING);
        x.sheet(0, 64, 6);
        due("no views", x.lays(0), 0);
        for (int f = 0; f < 5; f++) {
            x.frame(0, 0);
        }
        x.write(0, 0, 99);
        x.write(0, 1, 100);
        x.write(0, 2, -1);
        x.write(0, 3, 4294967296L);
        due("99 and 0", x.lays(0), 2);
        due("fine", x.of(0, 1), 99);
        due("100", x.of(1, 1), 10);
        due("-1", x.of(2, 1), 10);
        due("more than an int", x.of(3, 1), 10);
        due("0", x.of(4, 1), 0);
        x.sheet(0, 8, 2);
        due("fewer than views", x.lays(0), 2);
        due("the last stays", x.of(4, 1) + x.of(3, 1), 10);
        c.end();
    }

    private void books() {
        begin("promise 34: book");
        due("sheet 4", x.book(4, 9), BEYOND);
        due("sheet -1", x.book(-1, 0), BEYOND);
        due("MISSING", x.book(0, 9), MISSING);
        x.sheet(0, 16, 40);
        due("owner 4", x.book(0, 4), BEYOND);
        due("owner -1", x.book(0, -1), BEYOND);
        x.frame(STREET, 2);
        due("40", x.book(0, 2), 40);
        int[] due = {100, 106, 108, 113};
        for (int i = 0; i < 4; i++) {
            due("number " + i, x.write(0, i, 0), due[i]);
        }
        due("nothing changes", x.now(0) + x.now(3) + x.of(0, 1), 410);
        due("of another", x.book(0, 1), 40);
        due("last", x.write(0, 39, 0), 100);
        x.money(2, 99999);
        x.book(0, 2);
        due("16 bits", x.write(0, 0, 0), (short) 99999);
        x.sheet(0, 8, 2);
        x.money(2, 125);
        due("2", x.book(0, 2), 2);
        due("8 bits", x.write(0, 1, 0), -125);
        x.sheet(0, 64, 0);
        due("0", x.book(0, 2), 0);
        c.end();

        begin("promise 35: read");
        due("sheet 4", x.read(4, 9, 9), BEYOND);
        due("sheet -1", x.read(-1, 0, 0), BEYOND);
        due("MISSING", x.read(0, 9, 9), MISSING);
        x.sheet(0, 64, 0);
        due("no view", x.read(0, 0, 0), BEYOND);
        x.frame(YARD, 0);
        x.frame(SKY, 1);
        due("view 2", x.read(0, 0, 2), BEYOND);
        due("view -1", x.read(0, 0, -1), BEYOND);
        due("owner 4", x.read(0, 4, 0), BEYOND);
        due("owner -1", x.read(0, -1, 0), BEYOND);
        due("an empty book", x.read(0, 0, 0), 600);
        x.sheet(0, 64, 1);
        due("0 isn't 100", x.read(0, 0, 0), 0);
        x.book(0, 0);
        due("MONEY now", x.read(0, 0, 0), 600);
        x.sheet(0, 64, 2);
        x.book(0, 0);
        due("3 an hour: yard, sea, steeple 10 to 19; sky 12 to 15", x.read(0, 0, 0), 34);
        x.write(0, 1, 106);
        due("6 an hour: yard, sea, steeple 40 to 49; sky 24 to 27; street 10 to 19; garden 1", x.read(0, 0, 0), 45);
        x.book(0, 0);
        due("another's view changes nothing", x.read(0, 0, 1), 600);
        x.write(0, 1, 106);
        due("nor mends it", x.read(0, 0, 1), 0);
        x.set(0, 1, 1);
        due("behind a curtain", x.read(0, 0, 0), 0);
        x.write(0, 1, 100);
        due("behind a curtain", x.read(0, 0, 0), 600);
        x.sheet(0, 8, 2);
        x.money(1, 300);
        x.book(0, 1);
        due("cut numbers are not MONEY", x.read(0, 1, 1), 0);
        x.sheet(0, 64, 40);
        x.money(1, 99998);
        x.book(0, 1);
        due("most money: all but a sky below 4 earn 1", x.read(0, 1, 1), 500 + 96);
        due("nothing changes", x.of(1, 0) * 100 + x.of(1, 1), 310);
        c.end();
    }

    private void booksPastMidnight() {
        begin("promise 35: read past midnight");
        x.frame(STREET, 0);
        x.sheet(0, 64, 7);
        hoursToGo(20);
        x.fine(0, 10);
        x.book(0, 0);
        due("6 3 6 3 6 2: just a street of 10, for a garden doesn't wear in spring", x.read(0, 0, 0), 1);
        x.fine(0, 11);
        x.book(0, 0);
        due("6 3 6 3 6 3: a street of 11 to 19, a garden of 1", x.read(0, 0, 0), 10);
        hoursToGo(8 * 24);
        x.fine(0, 10);
        x.book(0, 0);
        due("or a garden behind spring", x.read(0, 0, 0), 2);
        c.end();
    }

    // ---- images

    private void images() {
        begin("promises 36 and 37: image and undo");
        due("undo", x.undo(), NONE);
        x.frame(GARDEN, 2);
        x.frame(SEA, 1);
        x.hours(30);
        x.set(1, 1, 1);
        x.trade(0, 1);
        x.fine(1, 33);
        x.sheet(0, 8, 1);
        int[] kept = state();
        due("image", x.image(), 1);
        x.frame(0, 0);
        x.hours(5);
        x.set(1, 1, 0);
        x.set(0, 0, 3);
        x.trade(0, 2);
        x.turn(0, YARD);
        x.fine(0, 77);
        x.money(3, 9);
        x.write(0, 0, 55);
        feedText("yard");
        due("undo", x.undo(), 2);
        dueState(kept);
        due("THE TAPE isn't kept", x.count(1), 4);
        due("sheets aren't either", x.write(0, 0, 0), 55);
        due("nor findings taken back", x.status(3), 1);
        x.hours(1);
        due("it stays", x.undo(), 2);
        dueState(kept);
        x.frame(SKY, 0);
        due("the latest", x.image(), 1);
        x.frame(SKY, 0);
        due("is what counts", x.undo(), 3);
        c.end();

        begin("promise 38: tear");
        due("nothing", x.tear(), 0);
        x.frame(0, 0);
        x.image();
        x.image();
        due("something", x.tear(), 1);
        due("nothing", x.tear(), 0);
        due("undo", x.undo(), NONE);
        due("the city stays", x.count(0), 1);
        c.end();

        begin("promise 39: count");
        six();
        feedText("abc");
        x.set(1, 1, 1);
        x.set(4, 1, 1);
        x.fine(3, 50);
        due("FRAMES", x.count(0), 6);
        due("bytes", x.count(1), 3);
        due("CURTAINS", x.count(2), 2);
        due("FINE", x.count(3), 100);
        due("what 4", x.count(4), BEYOND);
        due("what -1", x.count(-1), BEYOND);
        c.end();

        begin("promise 40: status");
        x.money(9, 9);
        x.money(9, 9);
        for (int f = 0; f < 9; f++) {
            x.frame(YARD, f % 4);
        }
        x.as(0, 1);
        x.undo();
        x.best(0, 1);
        x.draw(0);
        x.fine(0, 99);
        x.trade(0, 1);
        x.lays(0);
        x.write(1, 1, 1);
        x.sheet(0, 8, -1);
        x.image();
        x.undo();
        x.city();
        int[] due = {3, 1, 1, 2, 1, 2, 1};
        for (int i = 0; i < 7; i++) {
            due("status " + i, x.status(i), due[i]);
        }
        due("all", x.status(-1), 11);
        due("7", x.status(7), BEYOND);
        due("-2", x.status(-2), BEYOND);
        due("counted from then on", x.status(0), 5);
        due("all", x.status(-1), 13);
        c.end();
    }

    private int[] state() {
        int[] s = new int[40];
        int n = 0;
        s[n++] = x.count(0);
        s[n++] = x.now(0);
        for (int i = 0; i < 4; i++) {
            s[n++] = x.ownerOf(i, 0);
        }
        for (int f = 0; f < 2; f++) {
            s[n++] = x.frameOf(f, 0);
            s[n++] = x.frameOf(f, 1);
            s[n++] = x.frameOf(f, 2);
            s[n++] = x.of(f, 0);
            s[n++] = x.of(f, 1);
        }
        return s;
    }

    private void dueState(int[] want) {
        int[] got = state();
        for (int i = 0; i < want.length; i++) {
            due("part " + i + " of what was kept", got[i], want[i]);
        }
    }
}
