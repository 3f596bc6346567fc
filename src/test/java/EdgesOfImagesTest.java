/** The edges of promises 36 to 40: images, counts and findings. */
final class EdgesOfImagesTest extends EdgeTests {
    public static void main(String[] args) {
        new EdgesOfImagesTest().runAndFinish();
    }

    @Override
    void runAll() {
        image();
        undo();
        tear();
        count();
        status();
    }

    private static void standWithoutImage(ViewTrades x) {
        stand(x);
        x.tear();
    }

    private void image() {
        begin("promise 36: of a city without FRAMES");
        due("image", x.image(), 1);
        yards(x, 8, 3);
        x.money(0, 0);
        x.hours(1);
        due("undo", x.undo(), 0);
        due("FRAMES", x.count(0), 0);
        due("HOUR", x.now(0), 0);
        due("MONEY", x.now(3), 400);
        due("FINE", x.count(3), 0);
        end();

        begin("promise 36: of eight FRAMES, all that section 1 tells", EdgeTests::standWithEight);
        x.hours(25);
        x.trade(0, 7);
        x.set(7, 1, 1);
        x.fine(7, 99);
        x.money(3, 99999);
        due("image", x.image(), 1);
        x.shift();
        x.hours(200);
        for (int f = 0; f < 8; f++) {
            x.set(f, 0, 0);
            x.set(f, 1, 0);
            x.fine(f, 1);
            x.turn(f, SKY);
            x.money(f % 4, 1);
        }
        due("undo", x.undo(), 8);
        due("HOUR", x.now(0), 25);
        due("views", x.frameOf(0, 2) * 10 + x.frameOf(7, 2), 70);
        due("CURTAINS", x.count(2), 1);
        due("CURTAIN", x.frameOf(7, 1), 1);
        due("OWNER", x.frameOf(7, 0), 3);
        due("KIND", x.of(7, 0), SEA);
        due("FINE", x.of(7, 1), 99);
        due("FINE of the STREET", x.of(2, 1), 8);
        due("MONEY", x.ownerOf(3, 0), 99999);
        end();

        begin("promise 36: the latest is kept, again and again", y -> y.frame(YARD, 0));
        for (int v = 0; v < 5; v++) {
            x.fine(0, v);
            due("image", x.image(), 1);
        }
        x.fine(0, 77);
        x.undo();
        due("FINE", x.of(0, 1), 4);
        end();

        begin("promise 36: THE TAPE, sheets and findings aren't kept", EdgeTests::stand);
        x.image();
        x.wipe();
        feed(x, "xy");
        x.write(0, 0, 99);
        x.sheet(1, 0, 0);
        x.now(6);
        x.undo();
        due("bytes", x.count(1), 2);
        due("a number", x.write(0, 0, 0), 99);
        due("MISSING", x.write(1, 0, 0), MISSING);
        due("BEYOND", x.status(0), 1);
        due("THE TAPE", x.city(), -1);
        end();
    }

    private void undo() {
        begin("promise 37: NONE: nothing is kept", EdgesOfImagesTest::standWithoutImage);
        refused("undo", NONE, ViewTrades::undo);
        end();

        begin("promise 37: NONE, again and again");
        for (int i = 1; i < 5; i++) {
            due("undo", x.undo(), NONE);
            due("findings", x.status(3), i);
        }
        end();

        begin("promise 37: what was kept stays", y -> yards(y, 7, 0));
        x.image();
        for (int i = 0; i < 5; i++) {
            x.frame(SEA, 1);
            x.hours(1);
            due("undo", x.undo(), 7);
            due("HOUR", x.now(0), 0);
            due("MONEY", x.now(3), 400);
        }
        end();

        begin("promise 37: back from HOUR 99999", y -> {
            y.image();
            hours(y, 99999);
        });
        due("none more", x.hours(1), STATE);
        due("undo", x.undo(), 0);
        due("HOUR", x.now(0), 0);
        due("an hour", x.hours(1), 400);
        end();

        begin("promise 37: a city with more FRAMES comes back as well", y -> yards(y, 1, 0));
        x.image();
        x.frame(SEA, 1);
        x.trade(0, 1);
        due("undo", x.undo(), 1);
        due("its own view", x.frameOf(0, 2), 0);
        due("no FRAME 1", x.frameOf(1, 0), BEYOND);
        due("no view 1", x.of(1, 0), BEYOND);
        end();
    }

    private void tear() {
        begin("promise 38: 1 if something was, else 0");
        due("nothing", x.tear(), 0);
        x.image();
        due("something", x.tear(), 1);
        due("nothing again", x.tear(), 0);
        due("no finding", x.status(-1), 0);
        due("undo", x.undo(), NONE);
        x.image();
        due("something again", x.tear(), 1);
        end();

        begin("promise 38: undo() tears nothing", EdgeTests::stand);
        x.undo();
        due("something", x.tear(), 1);
        end();

        begin("promise 38: the city stays as it is", EdgeTests::stand);
        x.tear();
        due("FRAMES", x.count(0), 6);
        due("bytes", x.count(1), 10);
        due("MONEY", x.now(3), 400);
        end();
    }

    private void count() {
        range("promise 39: count, what", EdgeTests::stand, 0, 6, 3, 60, (y, v) -> y.count(v));

        begin("promise 39: none there at all");
        for (int what = 0; what < 4; what++) {
            due("count(" + what + ")", x.count(what), 0);
        }
        end();

        begin("promise 39: as many as there can be", y -> yards(y, 8, 0));
        for (int f = 0; f < 8; f++) {
            x.set(f, 1, 1);
            x.fine(f, 99);
        }
        feed(x, " ".repeat(120));
        due("FRAMES", x.count(0), 8);
        due("bytes", x.count(1), 120);
        due("CURTAINS", x.count(2), 8);
        due("FINE", x.count(3), 792);
        x.frame(YARD, 0);
        x.feed(0, 1);
        due("FRAMES", x.count(0), 8);
        due("bytes", x.count(1), 120);
        end();
    }

    private void status() {
        range("promise 40: status, which", EdgeTests::stand, -1, 0, 6, 0, (y, v) -> y.status(v));

        begin("promise 40: BEYOND of status() is counted from then on");
        due("none yet", x.status(-1), 0);
        due("another one", x.status(7), BEYOND);
        due("BEYOND", x.status(0), 1);
        due("all", x.status(-1), 1);
        due("another one", x.status(-2), BEYOND);
        due("BEYOND", x.status(0), 2);
        due("all", x.status(-1), 2);
        due("no SIZE", x.status(6), 0);
        end();

        begin("promise 40: each finding as itself, one act after the other", EdgeTests::standWithEight);
        dueStatus(0, x.stone(8, 0), BEYOND);
        dueStatus(1, x.frame(YARD, 0), FULL);
        dueStatus(2, x.as(0, SEA), KIND);
        x.tear();
        dueStatus(3, x.undo(), NONE);
        x.money(0, 0);
        dueStatus(4, x.trade(0, 1), STATE);
        x.sheet(0, 0, 0);
        dueStatus(5, x.lays(0), MISSING);
        dueStatus(6, x.sheet(0, 0, -1), SIZE);
        due("all", x.status(-1), 7);
        end();

        begin("promise 40: undo() takes none back", EdgeTests::stand);
        x.image();
        x.now(6);
        x.undo();
        due("BEYOND", x.status(0), 1);
        x.now(7);
        x.undo();
        due("BEYOND", x.status(0), 2);
        x.tear();
        x.undo();
        due("NONE", x.status(3), 1);
        due("all", x.status(-1), 3);
        end();

        begin("promise 40: a FAULT is no finding");
        x.city();
        feed(x, "tea");
        x.city();
        due("all", x.status(-1), 0);
        end();

        begin("promise 40: of two calls in one no finding is told that isn't answered", EdgeTests::stand);
        x.best(0, 200);
        x.shifts(0, 200);
        x.draw(200);
        x.back();
        x.home();
        x.read(0, 0, 0);
        due("all", x.status(-1), 0);
        end();
    }

    private void dueStatus(int which, long answer, int finding) {
        due("the finding", answer, finding);
        due("status(" + which + ")", x.status(which), 1);
        for (int later = which + 1; later < 7; later++) {
            due("not yet: status(" + later + ")", x.status(later), 0);
        }
    }
}
