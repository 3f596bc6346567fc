/** A test for each sentence of 'Terms' that names a bound, a beginning or a boundary. */
final class EdgesOfTermsTest extends EdgeTests {
    // 499 calls of hours(200) and one of hours(199).
    private static final int LAST_HOUR = 99999;

    public static void main(String[] args) {
        new EdgesOfTermsTest().runAndFinish();
    }

    @Override
    void runAll() {
        findings();
        calendar();
        framesOwnersViews();
        worths();
        wears();
        soldFor();
        exchanges();
        anHourGoes();
        on();
        shiftsOfViews();
        sheets();
    }

    // ---- findings

    private void findings() {
        begin("FINDINGS are answers below -1000000000, each with its number", EdgeTests::stand);
        due("BEYOND", x.now(6), -1000000001);
        due("KIND", x.as(0, SEA), -1000000003);
        due("STATE", poorOwnerTrades(x), -1000000005);
        due("SIZE", x.sheet(0, 8, -1), -1000000007);
        x.frame(YARD, 0);
        x.frame(YARD, 0);
        due("FULL", x.frame(YARD, 0), -1000000002);
        x.tear();
        due("NONE", x.undo(), -1000000004);
        x.sheet(0, 0, 0);
        due("MISSING", x.lays(0), -1000000006);
        for (int i = 0; i < 7; i++) {
            due("status(" + i + ")", x.status(i), 1);
        }
        end();

        begin("a finding in a long is the same number", EdgeTests::stand);
        due("BEYOND", x.write(4, 0, 0), -1000000001L);
        x.sheet(0, 0, 0);
        due("MISSING", x.write(0, 0, 0), -1000000006L);
        end();

        begin("an object is used for at most 512 calls: the last one answers, too");
        for (int i = 0; i < 256; i++) {
            x.fine(0, 0);
            due("findings", x.status(-1), i + 1);
        }
        end();

        begin("Quotients are cut", y -> yards(y, 2, 0));
        x.turn(1, SKY);
        int[] fines = {0, 3, 4, 7, 8, 9, 10, 19, 20, 98, 99};
        for (int fine : fines) {
            x.fine(0, fine);
            x.fine(1, fine);
            due("yard of " + fine, x.of(0, 3), 2 + (fine - fine % 10) / 10);
            due("sky of " + fine, x.of(1, 3), (fine - fine % 4) / 4);
        }
        end();

        begin("Sets are told by bits: none, the first, the last, all", y -> yards(y, 8, 1));
        due("none of owner 0", x.ownerOf(0, 1), 0);
        due("no views of owner 0", x.ownerOf(0, 2), 0);
        due("all of owner 1", x.ownerOf(1, 1), 255);
        due("all views of owner 1", x.ownerOf(1, 2), 255);
        x.set(0, 0, 2);
        x.set(7, 0, 3);
        due("the first", x.ownerOf(2, 1), 1);
        due("the last", x.ownerOf(3, 1), 128);
        x.trade(0, 7);
        due("the last view", x.ownerOf(2, 2), 128);
        due("the first view", x.ownerOf(3, 2), 1);
        due("at home", x.now(4), 126);
        end();
    }

    private static int poorOwnerTrades(ViewTrades x) {
        x.money(0, 49);
        return x.trade(0, 1);
    }

    // ---- HOUR, DAY, SPRING

    private void calendar() {
        begin("HOUR: 0 at first");
        due("HOUR", x.now(0), 0);
        due("of the day", x.now(1), 0);
        due("SPRING", x.now(2), 1);
        end();

        begin("HOUR of the day: its rest by 24");
        int[] hours = {1, 22, 1, 23, 1, 1};
        int[] due = {1, 23, 0, 23, 0, 1};
        for (int i = 0; i < hours.length; i++) {
            x.hours(hours[i]);
            due("of the day at HOUR " + x.now(0), x.now(1), due[i]);
        }
        end();

        begin("HOUR 99999 at most", y -> hours(y, LAST_HOUR - 1));
        due("99998", x.now(0), 99998);
        due("two more", x.hours(2), STATE);
        due("still 99998", x.now(0), 99998);
        due("one more", x.hours(1), 400);
        due("99999", x.now(0), 99999);
        due("of the day", x.now(1), 15);
        due("DAY 4166 is one of the 23rd behind SPRING's first", x.now(2), 0);
        due("none more", x.hours(1), STATE);
        due("still 99999", x.now(0), 99999);
        due("findings", x.status(4), 2);
        end();

        begin("SPRING: DAYS whose rest by 28 is below 7");
        dueSpring(0, 1);
        dueSpring(167, 1);
        dueSpring(168, 0);
        dueSpring(671, 0);
        dueSpring(672, 1);
        dueSpring(839, 1);
        dueSpring(840, 0);
        dueSpring(28 * 24 * 100 - 1, 0);
        dueSpring(28 * 24 * 100, 1);
        end();
    }

    private void dueSpring(int hour, int spring) {
        hours(x, hour - x.now(0));
        due("HOUR", x.now(0), hour);
        due("SPRING at " + hour, x.now(2), spring);
    }

    // ---- FRAMES, OWNERS, VIEWS

    private void framesOwnersViews() {
        begin("FRAMES 0, 1, .. (at most 8)");
        for (int f = 0; f < 8; f++) {
            due("FRAMES", x.count(0), f);
            due("the next", x.frame(YARD, 0), f);
        }
        due("a 9th", x.frame(YARD, 0), FULL);
        due("FRAMES", x.count(0), 8);
        due("FRAME 7", x.frameOf(7, 2), 7);
        due("FRAME 8", x.frameOf(8, 2), BEYOND);
        end();

        begin("OWNERS 0 to 3, each with MONEY, 100 at first");
        for (int owner = 0; owner < 4; owner++) {
            due("MONEY of " + owner, x.ownerOf(owner, 0), 100);
        }
        due("OWNER 4", x.ownerOf(4, 0), BEYOND);
        due("all together", x.now(3), 400);
        end();

        begin("MONEY 0 to 99999");
        for (int owner = 0; owner < 4; owner++) {
            x.money(owner, 0);
        }
        due("least", x.now(3), 0);
        for (int owner = 0; owner < 4; owner++) {
            x.money(owner, 99999);
        }
        due("most", x.now(3), 399996);
        end();

        begin("a CURTAIN 0 at first, FINE 10 at first", EdgeTests::six);
        for (int f = 0; f < 6; f++) {
            due("CURTAIN of " + f, x.frameOf(f, 1), 0);
            due("FINE of " + f, x.of(f, 1), 10);
        }
        end();

        begin("each FRAME came with the view of its number, whatever has been exchanged", y -> yards(y, 2, 0));
        x.shift();
        due("FRAME 2", x.frame(SKY, 1), 2);
        due("its VIEW", x.frameOf(2, 2), 2);
        due("that view", x.of(2, 2), 2);
        due("view 1", x.of(1, 2), 0);
        due("view 0", x.of(0, 2), 1);
        end();

        begin("VIEWS as many as FRAMES", y -> yards(y, 3, 0));
        due("view 2", x.of(2, 0), YARD);
        due("view 3", x.of(3, 0), BEYOND);
        x.frame(SEA, 0);
        due("view 3", x.of(3, 0), SEA);
        due("view 4", x.of(4, 0), BEYOND);
        end();

        begin("FINE 0 to 99", y -> yards(y, 8, 0));
        for (int v = 0; v < 8; v++) {
            x.fine(v, 0);
        }
        due("least of all together", x.count(3), 0);
        for (int v = 0; v < 8; v++) {
            x.fine(v, 99);
        }
        due("most of all together", x.count(3), 792);
        end();
    }

    // ---- WORTH

    private void worths() {
        begin("WORTH of a YARD: 2, and FINE by 10", y -> y.frame(YARD, 0));
        dueWorths(new int[] {0, 9, 10, 19, 90, 99}, new int[] {2, 2, 3, 3, 11, 11});
        end();

        begin("WORTH of a SEA: 5 more from hour 6 to 17", y -> y.frame(SEA, 0));
        dueWorthAt(0, 3);
        dueWorthAt(5, 3);
        dueWorthAt(6, 8);
        dueWorthAt(12, 8);
        dueWorthAt(17, 8);
        dueWorthAt(18, 3);
        dueWorthAt(23, 3);
        dueWorthAt(30, 8);
        end();

        begin("WORTH of a STREET: 3 more, if h is even", y -> y.frame(STREET, 0));
        x.fine(0, 99);
        dueWorthAt(0, 14);
        x.fine(0, 20);
        dueWorthAt(1, 3);
        dueWorthAt(2, 6);
        dueWorthAt(22, 6);
        dueWorthAt(23, 3);
        dueWorthAt(24, 6);
        end();

        begin("WORTH of a SKY: FINE by 4 and no more", y -> y.frame(SKY, 0));
        dueWorths(new int[] {0, 3, 4, 7, 96, 99}, new int[] {0, 0, 1, 1, 24, 24});
        dueWorthAt(12, 24);
        end();

        begin("WORTH of a STEEPLE: as SEA, twice that at hour 12", y -> y.frame(STEEPLE, 0));
        dueWorthAt(0, 3);
        dueWorthAt(5, 3);
        dueWorthAt(6, 8);
        dueWorthAt(11, 8);
        dueWorthAt(12, 16);
        dueWorthAt(13, 8);
        dueWorthAt(17, 8);
        dueWorthAt(18, 3);
        dueWorthAt(36, 16);
        x.fine(0, 99);
        due("the most of it", x.of(0, 3), 32);
        x.fine(0, 0);
        due("the least at noon", x.of(0, 3), 14);
        end();

        begin("WORTH of a GARDEN: as STREET, and FINE in SPRING", y -> y.frame(GARDEN, 0));
        dueWorths(new int[] {0, 9, 10, 99}, new int[] {5, 14, 16, 113});
        x.fine(0, 10);
        dueWorthAt(1, 13);
        dueWorthAt(166, 16);
        dueWorthAt(167, 13);
        dueWorthAt(168, 6);
        x.fine(0, 99);
        due("the most of it behind SPRING", x.of(0, 3), 14);
        hours(x, 672 - 168);
        x.fine(0, 10);
        dueWorthAt(672, 16);
        end();

        begin("WORTH 0 out of a FRAME whose CURTAIN is drawn", EdgeTests::six);
        for (int f = 0; f < 6; f++) {
            x.set(f, 1, 1);
            due("out of " + f, x.frameOf(f, 3), 0);
            due("the view all the same", x.of(f, 3) > 0 ? 1 : 0, 1);
        }
        for (int owner = 0; owner < 4; owner++) {
            due("what owner " + owner + " gets", x.ownerOf(owner, 3), 0);
        }
        due("an hour brings nothing", x.hours(1), 400);
        x.set(0, 1, 0);
        x.trade(0, 4);
        due("the CURTAIN is the FRAME's, not the view's", x.frameOf(0, 3), 3);
        due("the CURTAIN is the FRAME's, not the view's", x.frameOf(4, 3), 0);
        end();
    }

    private void dueWorths(int[] fines, int[] worths) {
        for (int i = 0; i < fines.length; i++) {
            x.fine(0, fines[i]);
            due("of FINE " + fines[i], x.of(0, 3), worths[i]);
            due("out of the FRAME, of FINE " + fines[i], x.frameOf(0, 3), worths[i]);
        }
    }

    private void dueWorthAt(int hour, int worth) {
        hours(x, hour - x.now(0));
        due("at HOUR " + hour, x.of(0, 3), worth);
    }

    // ---- WEARS

    private void wears() {
        begin("WEARS: STREET 1, GARDEN 0 in SPRING, the others 0", EdgeTests::six);
        dueWears(new int[] {0, 0, 1, 0, 0, 0});
        hours(x, 167);
        dueWears(new int[] {0, 0, 1, 0, 0, 0});
        end();

        begin("WEARS: GARDEN as STREET behind SPRING", EdgeTests::six);
        hours(x, 168);
        dueWears(new int[] {0, 0, 1, 0, 0, 1});
        hours(x, 671 - 168);
        dueWears(new int[] {0, 0, 1, 0, 0, 1});
        hours(x, 1);
        dueWears(new int[] {0, 0, 1, 0, 0, 0});
        end();

        begin("WEARS is told at other hours and of FINE 0, too", EdgeTests::six);
        x.fine(STREET, 0);
        due("at hour 0", x.of(STREET, 4), 1);
        x.hours(13);
        due("at hour 13", x.of(STREET, 4), 1);
        end();
    }

    private void dueWears(int[] want) {
        for (int k = 0; k < 6; k++) {
            due("WEARS of " + k + " at " + x.now(0), x.of(k, 4), want[k]);
        }
    }

    // ---- SOLD FOR

    private void soldFor() {
        begin("SOLD FOR, FINE 0, in SPRING", EdgeTests::six);
        dueSoldFor(0, new int[] {0, 50, 0, 0, 50, 100});
        end();

        begin("SOLD FOR, FINE 1 and 99, in SPRING", EdgeTests::six);
        dueSoldFor(1, new int[] {5, 55, 5, 10, 55, 105});
        dueSoldFor(99, new int[] {495, 545, 495, 990, 545, 595});
        end();

        begin("SOLD FOR in the last HOUR of SPRING and the first behind it", EdgeTests::six);
        hours(x, 167);
        dueSoldFor(20, new int[] {100, 150, 100, 200, 150, 200});
        hours(x, 1);
        dueSoldFor(20, new int[] {100, 150, 100, 200, 150, 100});
        hours(x, 671 - 168);
        dueSoldFor(20, new int[] {100, 150, 100, 200, 150, 100});
        hours(x, 1);
        dueSoldFor(20, new int[] {100, 150, 100, 200, 150, 200});
        end();
    }

    private void dueSoldFor(int fine, int[] want) {
        for (int k = 0; k < 6; k++) {
            x.fine(k, fine);
            due("SOLD FOR of " + k + ", FINE " + fine, x.of(k, 5), want[k]);
        }
    }

    // ---- EXCHANGES

    private void exchanges() {
        begin("the OWNER of the FRAME that gets the dearer view pays, named first", EdgeTests::six);
        due("paid", x.trade(YARD, SEA), 50);
        due("payer", x.ownerOf(0, 0), 50);
        due("payee", x.ownerOf(1, 0), 150);
        end();

        begin("the OWNER of the FRAME that gets the dearer view pays, named last", EdgeTests::six);
        due("paid", x.trade(SEA, YARD), 50);
        due("payer", x.ownerOf(0, 0), 50);
        due("payee", x.ownerOf(1, 0), 150);
        end();

        begin("views as dear as each other: nobody pays, even without MONEY", EdgeTests::six);
        for (int owner = 0; owner < 4; owner++) {
            x.money(owner, 0);
        }
        due("SEA for SKY", x.trade(1, 3), 0);
        due("it is done", x.frameOf(1, 2) * 10 + x.frameOf(3, 2), 31);
        due("MONEY", x.now(3), 0);
        end();

        begin("by one step of FINE dearer", EdgeTests::six);
        x.fine(SEA, 11);
        due("paid", x.trade(1, 3), 5);
        due("payer", x.ownerOf(3, 0), 95);
        due("payee", x.ownerOf(1, 0), 105);
        end();

        begin("nothing is paid, if it is the same OWNER, even without MONEY", EdgeTests::six);
        x.money(1, 0);
        x.fine(GARDEN, 99);
        due("paid", x.trade(1, 5), 0);
        due("MONEY", x.ownerOf(1, 0), 0);
        due("it is done", x.frameOf(1, 2) * 10 + x.frameOf(5, 2), 51);
        end();

        begin("the same OWNER with most MONEY", EdgeTests::six);
        x.money(1, 99999);
        due("paid", x.trade(5, 1), 0);
        due("MONEY", x.ownerOf(1, 0), 99999);
        end();

        begin("99999 MONEY at most: the payee comes just to it", EdgeTests::six);
        x.money(1, 99949);
        due("paid", x.trade(0, 1), 50);
        due("payee", x.ownerOf(1, 0), 99999);
        due("payer", x.ownerOf(0, 0), 50);
        end();

        begin("99999 MONEY at most: what is above is cut, and yet paid", EdgeTests::six);
        x.money(1, 99950);
        due("paid", x.trade(0, 1), 50);
        due("payee", x.ownerOf(1, 0), 99999);
        due("payer", x.ownerOf(0, 0), 50);
        end();

        begin("the dearest EXCHANGE that there is", y -> yards(y, 2, 0));
        x.set(1, 0, 1);
        x.fine(0, 0);
        x.turn(1, SKY);
        x.fine(1, 99);
        x.money(0, 989);
        due("one too few", x.trade(0, 1), STATE);
        x.money(0, 990);
        due("paid", x.trade(0, 1), 990);
        due("payer", x.ownerOf(0, 0), 0);
        due("payee", x.ownerOf(1, 0), 1090);
        end();

        begin("by SOLD FOR, not by WORTH, and behind a CURTAIN as well", EdgeTests::six);
        x.set(1, 1, 1);
        x.set(0, 1, 1);
        due("paid", x.trade(1, 0), 50);
        due("CURTAINS stay", x.frameOf(0, 1) + x.frameOf(1, 1), 2);
        end();
    }

    // ---- an HOUR goes

    private void anHourGoes() {
        begin("an HOUR goes: 99999 MONEY at most", y -> y.frame(YARD, 2));
        x.money(2, 99996);
        due("just to it", x.hours(1), 300 + 99999);
        x.money(2, 99997);
        due("cut", x.hours(1), 300 + 99999);
        due("and no more", x.hours(1), 300 + 99999);
        end();

        begin("an HOUR goes: each OWNER has a most of its own", y -> yards(y, 4, 0));
        for (int f = 0; f < 4; f++) {
            x.set(f, 0, f);
            x.money(f, 99998);
        }
        due("all together", x.hours(200), 399996);
        end();

        begin("at hour 0 each view WEARS behind what it brings", y -> y.frame(STREET, 1));
        x.hours(1);
        due("what FINE 10 is WORTH", x.ownerOf(1, 0), 106);
        due("FINE", x.of(0, 1), 9);
        x.hours(1);
        due("what FINE 9 is WORTH", x.ownerOf(1, 0), 108);
        end();

        begin("at hour 0 of a day and at no other", y -> y.frame(STREET, 1));
        x.fine(0, 50);
        for (int hour = 1; hour <= 49; hour++) {
            x.hours(1);
            due("FINE at " + hour, x.of(0, 1), hour <= 24 ? 49 : hour <= 48 ? 48 : 47);
        }
        end();

        begin("a GARDEN doesn't WEAR at the last hour 0 of SPRING, but at the next", y -> y.frame(GARDEN, 1));
        hours(x, 145);
        due("behind HOUR 144", x.of(0, 1), 10);
        hours(x, 23);
        due("at HOUR 168", x.of(0, 1), 10);
        hours(x, 1);
        due("behind HOUR 168", x.of(0, 1), 9);
        end();

        begin("a GARDEN WEARS at the last hour 0 ahead of SPRING, not at its first", y -> y.frame(GARDEN, 1));
        hours(x, 649);
        x.fine(0, 10);
        hours(x, 671 - 649);
        due("at HOUR 671", x.of(0, 1), 10);
        hours(x, 2);
        due("behind HOUR 672", x.of(0, 1), 10);
        end();

        begin("a GARDEN WEARS 21 times a year", y -> y.frame(GARDEN, 1));
        x.fine(0, 99);
        hours(x, 673);
        due("FINE", x.of(0, 1), 78);
        end();

        begin("FINE 0 at least", y -> y.frame(STREET, 1));
        x.fine(0, 1);
        x.hours(1);
        due("from 1 to 0", x.of(0, 1), 0);
        x.hours(24);
        due("and stays", x.of(0, 1), 0);
        end();

        begin("a view WEARS behind a CURTAIN and in another FRAME", EdgeTests::six);
        x.trade(2, 0);
        x.set(0, 1, 1);
        x.hours(1);
        due("FINE of the STREET", x.of(STREET, 1), 9);
        due("FINE of the YARD", x.of(YARD, 1), 10);
        end();

        begin("the view that is seen brings MONEY to the OWNER of the FRAME", EdgeTests::six);
        x.trade(3, 2);
        x.money(2, 0);
        x.money(3, 0);
        x.hours(1);
        due("OWNER 2 sees the SKY", x.ownerOf(2, 0), 2);
        due("OWNER 3 sees the STREET", x.ownerOf(3, 0), 6);
        end();

        begin("an HOUR goes without FRAMES, too");
        due("MONEY", x.hours(1), 400);
        due("HOUR", x.now(0), 1);
        end();
    }

    // ---- section 2

    private void on() {
        begin("ON: nothing changes", EdgeTests::stand);
        x.on(1, 400);
        x.then(2, 400, 1);
        x.rich(1, 99999);
        x.best(1, 200);
        x.kind(2, 200);
        x.shifts(1, 200);
        x.least(2, 1, 200, 99999);
        x.draw(200);
        x.richest(400);
        x.read(2, 1, 2);
        x.back();
        x.home();
        x.stone(3, 20);
        due("HOUR", x.now(0), 0);
        due("MONEY", x.now(3), 400);
        due("FINE", x.now(5), 60);
        due("at home", x.now(4), 63);
        due("CURTAINS", x.count(2), 0);
        due("KIND of 2", x.of(2, 0), STREET);
        due("THE TAPE", x.count(1), 10);
        due("a number of the sheet", x.write(2, 2, 0), -3);
        due("the image", x.undo(), 0);
        end();

        begin("ON 0 HOURS all is as it is", EdgeTests::six);
        for (int owner = 0; owner < 4; owner++) {
            due("MONEY of " + owner, x.on(owner, 0), 100);
        }
        due("WORTH", x.then(5, 0, 0), 16);
        due("FINE", x.then(2, 0, 1), 10);
        end();

        begin("ON goes past HOUR 99999: it only asks", y -> {
            y.frame(STREET, 0);
            hours(y, LAST_HOUR);
        });
        x.fine(0, 20);
        x.money(0, 0);
        due("HOUR 99999 is odd, the hour 15 of the day", x.on(0, 1), 4);
        due("the next is even", x.on(0, 2), 4 + 7);
        due("it WEARS 9 hours on", x.then(0, 9, 1), 20);
        due("it WEARS behind that", x.then(0, 10, 1), 19);
        due("MONEY 11", x.rich(0, 11), 2);
        due("HOUR", x.now(0), 99999);
        end();
    }

    private void shiftsOfViews() {
        begin("SHIFTS: no FRAMES, one FRAME");
        due("none", x.shift(), 0);
        x.frame(SKY, 0);
        due("one", x.shift(), 1);
        due("its own", x.frameOf(0, 2), 0);
        end();

        begin("SHIFTS: the last one gets that of FRAME 0, of two", y -> yards(y, 2, 0));
        x.shift();
        due("views", x.frameOf(0, 2) * 10 + x.frameOf(1, 2), 10);
        end();

        begin("SHIFTS: all at once, of eight", y -> yards(y, 8, 0));
        x.shift();
        for (int f = 0; f < 8; f++) {
            due("view of " + f, x.frameOf(f, 2), (f + 1) % 8);
        }
        x.shift();
        for (int f = 0; f < 8; f++) {
            due("then view of " + f, x.frameOf(f, 2), (f + 2) % 8);
        }
        end();

        begin("SHIFTS: nobody pays, OWNERS and CURTAINS stay", EdgeTests::six);
        x.set(0, 1, 1);
        for (int owner = 0; owner < 4; owner++) {
            x.money(owner, owner);
        }
        x.shift();
        for (int owner = 0; owner < 4; owner++) {
            due("MONEY of " + owner, x.ownerOf(owner, 0), owner);
        }
        due("FRAMES of 0", x.ownerOf(0, 1), 17);
        due("CURTAIN of 0", x.frameOf(0, 1), 1);
        due("CURTAIN of 5", x.frameOf(5, 1), 0);
        end();
    }

    // ---- section 3

    private void sheets() {
        begin("SHEETS 0 to 3 are MISSING at first");
        for (int s = 0; s < 4; s++) {
            due("write " + s, x.write(s, 0, 1), MISSING);
            due("lays " + s, x.lays(s), MISSING);
            due("book " + s, x.book(s, 0), MISSING);
            due("copy from " + s, x.copy(s, 0, s, 0, 0), MISSING);
        }
        due("sheet 4", x.lays(4), BEYOND);
        end();

        begin("SHEETS: at most 40 numbers");
        int[] bits = {8, 16, 64};
        for (int b : bits) {
            due("40", x.sheet(3, b, 40), 40);
            due("number 39", x.write(3, 39, 1), 0);
            due("number 40", x.write(3, 40, 1), BEYOND);
            due("41", x.sheet(3, b, 41), BEYOND);
            due("the 40 stay", x.write(3, 39, 0), 1);
        }
        end();

        begin("SHEETS keep numbers each of its own");
        for (int s = 0; s < 4; s++) {
            x.sheet(s, 64, 2);
            x.write(s, 0, 100 + s);
            x.write(s, 1, 200 + s);
        }
        for (int s = 0; s < 4; s++) {
            due("first of " + s, x.write(s, 0, 0), 100 + s);
            due("second of " + s, x.write(s, 1, 0), 200 + s);
        }
        end();
    }
}
