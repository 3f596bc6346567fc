/** The edges of promises 16 to 26: hours, and what is best. */
final class EdgesOfHoursTest extends EdgeTests {
    public static void main(String[] args) {
        new EdgesOfHoursTest().runAndFinish();
    }

    @Override
    void runAll() {
        hours();
        now();
        on();
        then();
        rich();
        best();
        kind();
        shifts();
        least();
        draw();
        richest();
    }

    // ---- hours

    private void hours() {
        range("promise 16: hours, n", EdgeTests::stand, 1, 1, 200, 200, (y, v) -> {
            int answer = y.hours(v);
            return answer < 0 ? answer : y.now(0);
        });

        begin("promise 16: MONEY of all together then", EdgeTests::six);
        due("an hour", x.hours(1), 400 + 3 + 3 + 6 + 2 + 3 + 16);
        due("another", x.hours(1), 433 + 3 + 3 + 2 + 2 + 3 + 13);
        end();

        // A refused call with so long a past leaves no calls for a look at all: it is looked at by hand.
        begin("promise 16: STATE: HOUR would be above 99999", y -> {
            y.frame(STREET, 1);
            EdgeTests.hours(y, 99800);
        });
        due("200 too many by one", x.hours(200), STATE);
        due("HOUR", x.now(0), 99800);
        due("199 are not", x.hours(199), 99999 + 300);
        due("HOUR", x.now(0), 99999);
        due("one more is", x.hours(1), STATE);
        due("FINE", x.of(0, 1), 0);
        due("HOUR", x.now(0), 99999);
        due("MONEY", x.now(3), 99999 + 300);
        due("two STATE", x.status(4), 2);
        due("no other", x.status(-1), 2);
        end();

        begin("promise 16: BEYOND is told ahead of STATE", y -> EdgeTests.hours(y, 99999));
        due("201", x.hours(201), BEYOND);
        due("0", x.hours(0), BEYOND);
        due("-1", x.hours(-1), BEYOND);
        due("what would wrap around", x.hours(HIGH), BEYOND);
        due("the least", x.hours(LOW), BEYOND);
        due("one of them", x.hours(200), STATE);
        due("HOUR", x.now(0), 99999);
        due("five BEYOND", x.status(0), 5);
        due("one STATE", x.status(4), 1);
        due("MONEY", x.now(3), 400);
        end();
    }

    private void now() {
        range("promise 17: now, what", EdgeTests::stand, 0, 0, 5, 60, (y, v) -> y.now(v));

        begin("promise 17: without FRAMES");
        int[] due = {0, 0, 1, 400, 0, 0};
        for (int what = 0; what < 6; what++) {
            due("now(" + what + ")", x.now(what), due[what]);
        }
        end();

        begin("promise 17: the most of all", y -> yards(y, 8, 0));
        for (int i = 0; i < 8; i++) {
            x.money(i % 4, 99999);
            x.fine(i, 99);
        }
        due("MONEY", x.now(3), 399996);
        due("at home", x.now(4), 255);
        due("FINE", x.now(5), 792);
        x.shift();
        due("none at home", x.now(4), 0);
        end();
    }

    // ---- hours that are foreseen

    private void on() {
        range("promise 18: on, owner", EdgeTests::stand, 0, 106, 3, 102, (y, v) -> y.on(v, 1));
        range("promise 18: on, n", EdgeTests::stand, 0, 100, 400, 900, (y, v) -> y.on(3, v));

        begin("promise 18: MONEY 99999 at most", y -> y.frame(YARD, 2));
        x.money(2, 99999 - 1200);
        due("just to it", x.on(2, 400), 99999);
        x.money(2, 99999 - 1201);
        due("one less", x.on(2, 400), 99998);
        x.money(2, 99999 - 1199);
        due("cut", x.on(2, 400), 99999);
        x.money(2, 99999);
        due("the most", x.on(2, 0), 99999);
        end();

        begin("promise 18: an OWNER without FRAMES, a CURTAIN drawn", EdgeTests::six);
        x.set(2, 1, 1);
        due("CURTAIN", x.on(2, 400), 100);
        x.set(3, 0, 0);
        due("no FRAMES", x.on(3, 400), 100);
        end();

        begin("promise 18: as the hours then go", EdgeTests::six);
        EdgeTests.hours(x, 150);
        x.fine(GARDEN, 12);
        x.fine(STREET, 7);
        int one = x.on(1, 200);
        int two = x.on(2, 200);
        EdgeTests.hours(x, 200);
        due("a SEA and a GARDEN over the end of SPRING", x.ownerOf(1, 0), one);
        due("a STREET that WEARS to 0", x.ownerOf(2, 0), two);
        end();
    }

    private void then() {
        range("promise 19: then, frame", EdgeTests::stand, 0, 3, 5, 16, (y, v) -> y.then(v, 0, 0));
        range("promise 19: then, n", EdgeTests::stand, 0, 10, 400, 0, (y, v) -> y.then(2, v, 1));
        range("promise 19: then, what", EdgeTests::stand, 0, 2, 1, 10, (y, v) -> y.then(3, 1, v));

        begin("promise 19: at hour 0, behind it, and at the next", y -> y.frame(STREET, 0));
        due("FINE at hour 0", x.then(0, 0, 1), 10);
        due("FINE behind it", x.then(0, 1, 1), 9);
        due("FINE at the next", x.then(0, 24, 1), 9);
        due("FINE behind that", x.then(0, 25, 1), 8);
        due("WORTH at hour 0", x.then(0, 0, 0), 6);
        due("WORTH behind it", x.then(0, 1, 0), 2);
        due("WORTH at the next", x.then(0, 24, 0), 5);
        end();

        begin("promise 19: of the view that is seen then, not of the FRAME's own", EdgeTests::six);
        x.trade(0, 2);
        due("FINE out of 0", x.then(0, 25, 1), 8);
        due("FINE out of 2", x.then(2, 25, 1), 10);
        x.set(0, 1, 1);
        due("WORTH behind a CURTAIN", x.then(0, 2, 0), 0);
        due("FINE behind a CURTAIN", x.then(0, 25, 1), 8);
        end();

        begin("promise 19: without FRAMES");
        refused("then(0, 0, 0)", BEYOND, y -> y.then(0, 0, 0));
        end();
    }

    private void rich() {
        range("promise 20: rich, owner", EdgeTests::stand, 0, 1, 3, 1, (y, v) -> y.rich(v, 101));
        range("promise 20: rich, v", EdgeTests::stand, 0, 0, 99999, NONE, (y, v) -> y.rich(1, v));

        begin("promise 20: in 0 HOURS", y -> y.frame(YARD, 0));
        due("just so much", x.rich(0, 100), 0);
        due("one more", x.rich(0, 101), 1);
        x.money(0, 99999);
        due("the most there is", x.rich(0, 99999), 0);
        x.money(0, 99998);
        due("nearly", x.rich(0, 99999), 1);
        end();

        begin("promise 20: in 400 HOURS, and NONE in 401", y -> {
            stand(y);
            y.set(1, 0, 0);
            y.turn(5, YARD);
            y.fine(5, 0);
        });
        due("two an hour", x.rich(1, 900), 400);
        due("two an hour, odd", x.rich(1, 899), 400);
        due("two an hour", x.rich(1, 898), 399);
        refused("one more", NONE, y -> y.rich(1, 901));
        end();

        begin("promise 20: NONE: it gets nothing", EdgeTests::stand);
        x.set(3, 1, 1);
        due("behind a CURTAIN", x.rich(3, 101), NONE);
        due("v 0", x.rich(3, 0), 0);
        due("v 100", x.rich(3, 100), 0);
        end();

        begin("promise 20: BEYOND is told ahead of NONE", EdgeTests::stand);
        refused("v 100000", BEYOND, y -> y.rich(3, 100000));
        refused("owner 4, v 99999", BEYOND, y -> y.rich(4, 99999));
        refused("of what never comes", NONE, y -> y.rich(3, 99999));
        end();
    }

    // ---- what is best

    private void best() {
        range("promise 21: best, owner", EdgeTests::stand, 0, 24, 3, 23, (y, v) -> y.best(v, 1));
        range("promise 21: best, n", EdgeTests::stand, 1, 23, 200, 35, (y, v) -> y.best(3, v));

        begin("promise 21: NONE: no FRAMES, one FRAME");
        refused("no FRAMES", NONE, y -> y.best(0, 200));
        x.frame(GARDEN, 0);
        due("one FRAME", x.best(0, 200), NONE);
        end();

        begin("promise 21: NONE: no more than as it is", y -> {
            yards(y, 4, 0);
            yards(y, 4, 1);
        });
        refused("all alike", NONE, y -> y.best(0, 200));
        refused("of an OWNER without FRAMES", NONE, y -> y.best(3, 200));
        end();

        begin("promise 21: NONE: most MONEY already", y -> y.frame(YARD, 0));
        x.frame(SEA, 1);
        x.money(0, 99999);
        due("no more than 99999", x.best(0, 200), NONE);
        x.money(0, 99998);
        due("it comes to 99999 as it is", x.best(0, 1), NONE);
        end();

        begin("promise 21: the least one that there is and the last", y -> yards(y, 8, 1));
        x.set(0, 0, 0);
        x.turn(1, STREET);
        due("0 and 1", x.best(0, 1), 1);
        x.turn(1, YARD);
        x.set(0, 0, 1);
        x.set(7, 0, 0);
        x.turn(6, STREET);
        due("6 and 7", x.best(0, 1), 67);
        end();

        begin("promise 21: of several the least", y -> yards(y, 8, 1));
        x.set(3, 0, 0);
        for (int v = 4; v < 8; v++) {
            x.turn(v, STREET);
        }
        due("of 34, 35, 36, 37", x.best(0, 1), 34);
        x.turn(2, STREET);
        due("23, too", x.best(0, 1), 23);
        x.turn(0, STREET);
        due("03, too", x.best(0, 1), 3);
        end();

        begin("promise 21: that can be paid, just and not", EdgeTests::six);
        x.set(4, 0, 2);
        x.money(0, 50);
        x.turn(GARDEN, YARD);
        x.turn(STREET, YARD);
        due("a SEA or STEEPLE for 50", x.best(0, 100), 4);
        x.money(0, 49);
        due("not for 49", x.best(0, 100), NONE);
        end();

        begin("promise 21: that the other one can pay, just and not", EdgeTests::six);
        x.turn(GARDEN, YARD);
        x.turn(STREET, YARD);
        for (int owner = 0; owner < 3; owner++) {
            x.money(owner, 50);
        }
        due("sold to owner 0", x.best(3, 1), 3);
        x.money(0, 49);
        due("sold to owner 2", x.best(3, 1), 23);
        x.money(2, 49);
        due("sold to owner 1", x.best(3, 1), 35);
        x.money(1, 49);
        due("sold to none, but a SEA is as dear and WORTH 3", x.best(3, 1), 13);
        end();

        begin("promise 21: an EXCHANGE with oneself, out of a FRAME with a CURTAIN", y -> yards(y, 2, 0));
        x.set(0, 1, 1);
        x.turn(0, SKY);
        x.fine(0, 99);
        x.money(0, 0);
        due("nobody pays", x.best(0, 1), 1);
        end();

        begin("promise 21: BEYOND is told ahead of NONE");
        refused("owner 4", BEYOND, y -> y.best(4, 1));
        refused("n 0", BEYOND, y -> y.best(0, 0));
        refused("n 201", BEYOND, y -> y.best(0, 201));
        refused("neither", NONE, y -> y.best(0, 1));
        end();
    }

    private void kind() {
        range("promise 22: kind, view", EdgeTests::stand, 0, GARDEN, 5, GARDEN, (y, v) -> y.kind(v, 1));
        range("promise 22: kind, n", EdgeTests::stand, 1, GARDEN, 200, GARDEN, (y, v) -> y.kind(3, v));

        begin("promise 22: without views");
        refused("kind(0, 1)", BEYOND, y -> y.kind(0, 1));
        end();

        begin("promise 22: of several the least", y -> y.frame(GARDEN, 0));
        x.fine(0, 0);
        due("STREET and GARDEN at hour 0", x.kind(0, 1), STREET);
        x.hours(1);
        due("all but SKY at hour 1", x.kind(0, 1), YARD);
        x.hours(6);
        due("SEA and STEEPLE at hour 7", x.kind(0, 1), SEA);
        x.hours(5);
        due("STEEPLE alone at hour 12", x.kind(0, 1), STEEPLE);
        end();

        begin("promise 22: the last hour of SPRING and the first behind it", y -> y.frame(SKY, 0));
        x.fine(0, 40);
        EdgeTests.hours(x, 167);
        due("in SPRING", x.kind(0, 1), GARDEN);
        x.hours(1);
        due("behind it", x.kind(0, 1), SKY);
        end();

        begin("promise 22: WEARS, too", y -> y.frame(YARD, 0));
        EdgeTests.hours(x, 168);
        x.fine(0, 10);
        due("STREET 6 and 2, SEA 3 and 3, at hours 0 and 1", x.kind(0, 2), STREET);
        due("STREET 6 2 5 2 5 2, six of SEA 18", x.kind(0, 6), STREET);
        x.fine(0, 12);
        due("STREET 6 3 6 3 6 3", x.kind(0, 6), STREET);
        due("of a day SEA 72 and 60, STEEPLE 8 more", x.kind(0, 24), STEEPLE);
        x.fine(0, 36);
        due("SKY 9 and STREET 8", x.kind(0, 1), SKY);
        x.fine(0, 32);
        due("SKY 8 and STREET 8", x.kind(0, 1), STREET);
        end();

        begin("promise 22: CURTAIN or not, whatever it is now", EdgeTests::six);
        for (int v = 0; v < 6; v++) {
            x.set(v, 1, 1);
            due("view " + v, x.kind(v, 200), GARDEN);
            due("it stays", x.of(v, 0), v);
        }
        end();
    }

    private void shifts() {
        range("promise 23: shifts, owner", EdgeTests::stand, 0, 1, 3, 2, (y, v) -> y.shifts(v, 1));
        range("promise 23: shifts, n", EdgeTests::stand, 1, 2, 200, 2, (y, v) -> y.shifts(3, v));

        begin("promise 23: without FRAMES, of one FRAME, all alike: 0");
        due("none", x.shifts(0, 1), 0);
        x.frame(SEA, 0);
        due("one", x.shifts(0, 200), 0);
        yards(x, 7, 1);
        due("of an OWNER without FRAMES", x.shifts(2, 200), 0);
        end();

        begin("promise 23: 7 at most", y -> yards(y, 8, 1));
        x.set(0, 0, 0);
        x.turn(7, GARDEN);
        due("7", x.shifts(0, 1), 7);
        x.shift();
        due("then 6", x.shifts(0, 1), 6);
        end();

        begin("promise 23: of several the fewest", y -> yards(y, 8, 1));
        x.set(0, 0, 0);
        x.turn(3, STREET);
        x.turn(6, STREET);
        due("of 3 and 6", x.shifts(0, 1), 3);
        x.turn(0, STREET);
        due("0, too", x.shifts(0, 1), 0);
        end();

        begin("promise 23: a turn of three FRAMES: 0 before 3 and 6", y -> yards(y, 3, 0));
        x.set(1, 0, 1);
        x.set(2, 0, 1);
        x.turn(0, STREET);
        due("as it is", x.shifts(0, 1), 0);
        x.shift();
        due("twice", x.shifts(0, 1), 2);
        end();

        begin("promise 23: MONEY 99999 at most", y -> yards(y, 8, 0));
        x.turn(5, SKY);
        x.money(0, 99999);
        due("no more than 99999", x.shifts(0, 1), 0);
        due("nothing moved", x.now(4), 255);
        end();
    }

    private void least() {
        range("promise 24: least, view", EdgeTests::stand, 0, 0, 5, 0, (y, v) -> y.least(v, 0, 1, 0));
        range("promise 24: least, owner", EdgeTests::stand, 0, 0, 3, 0, (y, v) -> y.least(0, v, 1, 0));
        range("promise 24: least, n", EdgeTests::stand, 1, NONE, 200, 4, (y, v) -> y.least(3, 3, v, 300));
        range("promise 24: least, v", EdgeTests::stand, 0, 0, 99999, NONE, (y, v) -> y.least(3, 3, 1, v));

        begin("promise 24: FINE 0, FINE 99, and NONE", y -> {
            stand(y);
            y.turn(3, GARDEN);
        });
        due("0", x.least(3, 3, 1, 105), 0);
        due("1", x.least(3, 3, 1, 106), 1);
        due("98", x.least(3, 3, 1, 212), 98);
        due("99", x.least(3, 3, 1, 213), 99);
        refused("100 it would be", NONE, y -> y.least(3, 3, 1, 214));
        due("it stays", x.of(3, 1), 10);
        end();

        begin("promise 24: a view that is not seen out of its FRAMES", EdgeTests::stand);
        due("enough", x.least(0, 3, 1, 102), 0);
        refused("not enough", NONE, y -> y.least(0, 3, 1, 103));
        x.trade(0, 3);
        due("now it is", x.least(0, 3, 1, x.ownerOf(3, 0) + 11), 90);
        x.set(3, 1, 1);
        due("behind a CURTAIN", x.least(0, 3, 1, x.ownerOf(3, 0) + 1), NONE);
        end();

        begin("promise 24: MONEY 99999 is just reached", y -> y.frame(SKY, 0));
        x.money(0, 99975);
        due("24 an hour", x.least(0, 0, 1, 99999), 96);
        x.money(0, 99974);
        due("25 an hour", x.least(0, 0, 1, 99999), NONE);
        due("in two hours", x.least(0, 0, 2, 99999), 52);
        end();

        begin("promise 24: it WEARS in between", y -> y.frame(STREET, 0));
        due("FINE 10 would be 6 and 2", x.least(0, 0, 2, 109), 11);
        due("and is 108", x.least(0, 0, 2, 108), 10);
        end();

        begin("promise 24: BEYOND is told ahead of NONE", EdgeTests::stand);
        refused("view 6", BEYOND, y -> y.least(6, 3, 1, 99999));
        refused("owner 4", BEYOND, y -> y.least(0, 4, 1, 99999));
        refused("n 201", BEYOND, y -> y.least(0, 3, 201, 99999));
        refused("v 100000", BEYOND, y -> y.least(0, 3, 1, 100000));
        refused("none of them", NONE, y -> y.least(0, 3, 1, 99999));
        end();

        begin("promise 24: without views");
        refused("least(0, 0, 1, 0)", BEYOND, y -> y.least(0, 0, 1, 0));
        end();
    }

    private void draw() {
        range("promise 25: draw, n", EdgeTests::stand, 1, 3, 200, 3, (y, v) -> y.draw(v));

        begin("promise 25: NONE: no FRAMES");
        refused("draw(1)", NONE, y -> y.draw(1));
        refused("draw(200)", NONE, y -> y.draw(200));
        end();

        begin("promise 25: NONE: all are drawn", y -> {
            stand(y);
            for (int f = 0; f < 6; f++) {
                y.set(f, 1, 1);
            }
        });
        refused("draw(1)", NONE, y -> y.draw(1));
        x.set(5, 1, 0);
        due("but the last", x.draw(200), 5);
        x.set(5, 1, 1);
        x.set(0, 1, 0);
        due("but the first", x.draw(200), 0);
        end();

        begin("promise 25: of several the least", y -> yards(y, 8, 0));
        due("all alike", x.draw(1), 0);
        x.set(0, 1, 1);
        due("one that isn't drawn", x.draw(1), 1);
        x.fine(6, 9);
        x.fine(7, 9);
        due("those that cost least", x.draw(1), 6);
        end();

        begin("promise 25: costs in MONEY, that is 99999 at most", y -> yards(y, 2, 0));
        x.set(1, 0, 1);
        x.fine(1, 99);
        due("3 and 11", x.draw(1), 0);
        x.money(1, 99988);
        due("11 still", x.draw(1), 0);
        x.money(1, 99996);
        due("3 and 3", x.draw(1), 0);
        x.money(1, 99997);
        due("3 and 2", x.draw(1), 1);
        x.money(1, 99999);
        due("3 and 0", x.draw(200), 1);
        end();

        begin("promise 25: BEYOND is told ahead of NONE");
        refused("0", BEYOND, y -> y.draw(0));
        refused("201", BEYOND, y -> y.draw(201));
        end();
    }

    private void richest() {
        range("promise 26: richest, n", EdgeTests::stand, 0, 0, 400, 1, (y, v) -> y.richest(v));

        begin("promise 26: of several the least");
        due("all alike", x.richest(0), 0);
        x.money(0, 99);
        due("without the first", x.richest(400), 1);
        x.money(3, 101);
        due("the last alone", x.richest(400), 3);
        x.money(2, 101);
        due("the last two", x.richest(400), 2);
        for (int owner = 0; owner < 4; owner++) {
            x.money(owner, 0);
        }
        due("with nothing", x.richest(0), 0);
        end();

        begin("promise 26: MONEY 99999 at most", y -> y.frame(YARD, 3));
        x.money(1, 99999);
        x.money(3, 98799);
        due("alike in 400", x.richest(400), 1);
        x.money(1, 99998);
        due("one more in 400", x.richest(400), 3);
        due("not yet in 399", x.richest(399), 1);
        x.money(3, 99999);
        x.money(1, 99999);
        due("cut to the same", x.richest(400), 1);
        end();
    }
}
