/** The edges of promises 1 to 15: owners, frames and views. */
final class EdgesOfFramesTest extends EdgeTests {
    public static void main(String[] args) {
        new EdgesOfFramesTest().runAndFinish();
    }

    @Override
    void runAll() {
        newObject();
        money();
        ownerOf();
        frame();
        frameOf();
        set();
        of();
        fine();
        turn();
        as();
        trade();
        shift();
        back();
        stone();
        home();
    }

    private void newObject() {
        begin("promise 1: no FRAMES, no views");
        due("FRAMES", x.count(0), 0);
        refused("frameOf(0, 0)", BEYOND, y -> y.frameOf(0, 0));
        refused("of(0, 0)", BEYOND, y -> y.of(0, 0));
        due("FINE of all", x.count(3), 0);
        due("CURTAINS", x.count(2), 0);
        end();

        begin("promise 1: THE TAPE is empty");
        due("bytes", x.count(1), 0);
        due("wipe", x.wipe(), 0);
        end();

        begin("promise 1: no image is kept");
        refused("undo", NONE, ViewTrades::undo);
        due("tear", x.tear(), 0);
        end();

        begin("promise 1: no finding has been answered");
        for (int which = -1; which < 7; which++) {
            due("status(" + which + ")", x.status(which), 0);
        }
        end();

        begin("promise 1: objects know nothing of each other", EdgeTests::stand);
        ViewTrades other = new ViewTrades();
        due("FRAMES", other.count(0), 0);
        due("THE TAPE", other.count(1), 0);
        due("image", other.tear(), 0);
        due("sheet", other.write(0, 0, 0), MISSING);
        due("MONEY", other.money(2, 7), 100);
        due("MONEY there", x.ownerOf(2, 0), 100);
        due("findings there", x.status(-1), 0);
        end();
    }

    private void money() {
        range("promise 2: money, owner", EdgeTests::stand, 0, 100, 3, 100, (y, v) -> y.money(v, 5));
        range("promise 2: money, v", EdgeTests::stand, 0, 100, 99999, 100, (y, v) -> y.money(1, v));

        begin("promise 2: MONEY becomes 0 and 99999");
        for (int owner = 0; owner < 4; owner++) {
            due("first", x.money(owner, 0), 100);
            due("it was 0", x.money(owner, 99999), 0);
            due("it was 99999", x.money(owner, 99999), 99999);
            due("it is", x.ownerOf(owner, 0), 99999);
        }
        end();
    }

    private void ownerOf() {
        range("promise 3: ownerOf, owner", EdgeTests::stand, 0, 100, 3, 100, (y, v) -> y.ownerOf(v, 0));
        range("promise 3: ownerOf, what", EdgeTests::stand, 0, 100, 3, 6, (y, v) -> y.ownerOf(0, v));

        begin("promise 3: of an OWNER without FRAMES", y -> yards(y, 8, 0));
        for (int what = 1; what < 4; what++) {
            due("what " + what, x.ownerOf(3, what), 0);
        }
        end();

        begin("promise 3: of an OWNER of all FRAMES", y -> yards(y, 8, 3));
        due("FRAMES", x.ownerOf(3, 1), 255);
        due("VIEWS", x.ownerOf(3, 2), 255);
        due("gets", x.ownerOf(3, 3), 24);
        end();

        begin("promise 3: VIEWS out of its FRAMES, not those of its numbers", EdgeTests::six);
        x.shift();
        due("FRAMES 0 and 4", x.ownerOf(0, 1), 17);
        due("views 1 and 5", x.ownerOf(0, 2), 34);
        due("gets by the views", x.ownerOf(0, 3), 3 + 16);
        end();

        begin("promise 3: what it gets in this HOUR, and in the next", EdgeTests::six);
        due("at hour 0", x.ownerOf(1, 3), 3 + 16);
        x.hours(1);
        due("at hour 1", x.ownerOf(1, 3), 3 + 13);
        x.hours(11);
        due("at hour 12", x.ownerOf(1, 3), 8 + 16);
        x.set(5, 1, 1);
        due("one CURTAIN drawn", x.ownerOf(1, 3), 8);
        end();

        begin("promise 3: the most that an OWNER gets", y -> yards(y, 8, 0));
        for (int v = 0; v < 8; v++) {
            x.turn(v, GARDEN);
            x.fine(v, 99);
        }
        due("gets", x.ownerOf(0, 3), 8 * 113);
        end();
    }

    private void frame() {
        range("promise 4: frame, kind", EdgeTests::stand, 0, 6, 5, 6, (y, v) -> y.frame(v, 0));
        range("promise 4: frame, owner", EdgeTests::stand, 0, 6, 3, 6, (y, v) -> y.frame(0, v));

        begin("promise 4: a 9th FRAME is FULL", EdgeTests::standWithEight);
        refused("a 9th", FULL, y -> y.frame(YARD, 0));
        refused("a 9th, the last kind and owner", FULL, y -> y.frame(GARDEN, 3));
        end();

        begin("promise 4: BEYOND is told ahead of FULL", EdgeTests::standWithEight);
        refused("a 9th of kind 6", BEYOND, y -> y.frame(6, 0));
        refused("a 9th of kind -1", BEYOND, y -> y.frame(-1, 0));
        refused("a 9th of owner 4", BEYOND, y -> y.frame(0, 4));
        refused("a 9th of owner -1", BEYOND, y -> y.frame(0, -1));
        end();

        begin("promise 4: the 8th FRAME is one as any other", y -> yards(y, 7, 0));
        due("number", x.frame(GARDEN, 3), 7);
        due("KIND", x.of(7, 0), GARDEN);
        due("OWNER", x.frameOf(7, 0), 3);
        due("VIEW", x.frameOf(7, 2), 7);
        due("WORTH", x.frameOf(7, 3), 16);
        end();

        begin("promise 4: room again behind undo()", y -> {
            yards(y, 7, 0);
            y.image();
            y.frame(SKY, 2);
            y.set(7, 1, 1);
            y.fine(7, 77);
        });
        due("FULL", x.frame(SKY, 2), FULL);
        due("seven", x.undo(), 7);
        due("the 8th", x.frame(SEA, 1), 7);
        due("FINE anew", x.of(7, 1), 10);
        due("CURTAIN anew", x.frameOf(7, 1), 0);
        due("VIEW anew", x.frameOf(7, 2), 7);
        due("OWNER anew", x.frameOf(7, 0), 1);
        end();
    }

    private void frameOf() {
        range("promise 5: frameOf, frame", EdgeTests::stand, 0, 0, 5, 5, (y, v) -> y.frameOf(v, 2));
        range("promise 5: frameOf, what", EdgeTests::stand, 0, 1, 3, 16, (y, v) -> y.frameOf(5, v));
        range("promise 5: frameOf, frame of eight", EdgeTests::standWithEight, 0, 0, 7, 3, (y, v) -> y.frameOf(v, 0));

        begin("promise 5: 0: CURTAIN", EdgeTests::six);
        x.set(5, 1, 1);
        due("drawn", x.frameOf(5, 3), 0);
        x.set(5, 1, 0);
        due("not drawn", x.frameOf(5, 3), 16);
        end();
    }

    private void set() {
        range("promise 6: set, frame, its OWNER", EdgeTests::stand, 0, 0, 5, 1, (y, v) -> y.set(v, 0, 2));
        range("promise 6: set, frame, its CURTAIN", EdgeTests::stand, 0, 0, 5, 0, (y, v) -> y.set(v, 1, 1));
        range("promise 6: set, what", EdgeTests::stand, 0, 1, 1, 0, (y, v) -> y.set(1, v, 0));
        range("promise 6: set, OWNER", EdgeTests::stand, 0, 1, 3, 1, (y, v) -> y.set(1, 0, v));
        range("promise 6: set, CURTAIN", EdgeTests::stand, 0, 0, 1, 0, (y, v) -> y.set(1, 1, v));

        begin("promise 6: an OWNER's numbers are no CURTAIN's", EdgeTests::stand);
        refused("CURTAIN 3", BEYOND, y -> y.set(1, 1, 3));
        due("OWNER 3", x.set(1, 0, 3), 1);
        due("it was 3", x.set(1, 0, 0), 3);
        due("CURTAIN 1", x.set(1, 1, 1), 0);
        due("it was 1", x.set(1, 1, 1), 1);
        due("it was 1 again", x.set(1, 1, 0), 1);
        due("all as it stands", x.frameOf(1, 0) * 10 + x.frameOf(1, 1), 0);
        end();
    }

    private void of() {
        range("promise 7: of, view", EdgeTests::stand, 0, 0, 5, 5, (y, v) -> y.of(v, 0));
        range("promise 7: of, what", EdgeTests::stand, 0, 5, 5, 150, (y, v) -> y.of(5, v));
        range("promise 7: of, view of eight", EdgeTests::standWithEight, 0, 0, 7, 1, (y, v) -> y.of(v, 0));

        begin("promise 7: out of which FRAME it is seen, the first and the last", y -> yards(y, 8, 0));
        x.trade(0, 7);
        due("view 0", x.of(0, 2), 7);
        due("view 7", x.of(7, 2), 0);
        x.shift();
        due("view 0", x.of(0, 2), 6);
        due("view 7", x.of(7, 2), 7);
        due("view 1", x.of(1, 2), 0);
        end();

        begin("promise 7: WORTH, CURTAIN or not", EdgeTests::six);
        x.set(5, 1, 1);
        due("WORTH", x.of(5, 3), 16);
        due("WORTH out of it", x.frameOf(5, 3), 0);
        end();
    }

    private void fine() {
        range("promise 8: fine, view", EdgeTests::stand, 0, 10, 5, 10, (y, v) -> y.fine(v, 3));
        range("promise 8: fine, v", EdgeTests::stand, 0, 10, 99, 10, (y, v) -> y.fine(1, v));

        begin("promise 8: FINE becomes 0 and 99", y -> yards(y, 8, 0));
        due("first", x.fine(7, 0), 10);
        due("it was 0", x.fine(7, 99), 0);
        due("it was 99", x.fine(7, 99), 99);
        due("it is", x.of(7, 1), 99);
        due("the others stay", x.count(3), 70 + 99);
        end();
    }

    private void turn() {
        range("promise 9: turn, view", EdgeTests::stand, 0, 0, 5, 5, (y, v) -> y.turn(v, YARD));
        range("promise 9: turn, kind", EdgeTests::stand, 0, 1, 5, 1, (y, v) -> y.turn(1, v));

        begin("promise 9: into the first KIND, the last one and its own", EdgeTests::six);
        due("to GARDEN", x.turn(0, GARDEN), YARD);
        due("to GARDEN again", x.turn(0, GARDEN), GARDEN);
        due("to YARD", x.turn(0, YARD), GARDEN);
        due("is", x.of(0, 0), YARD);
        due("the others stay", x.of(1, 0) * 10 + x.of(5, 0), 15);
        end();
    }

    private void as() {
        range("promise 10: as, view", EdgeTests::stand, 0, 10, 5, 10, (y, v) -> y.as(v, YARD));
        range("promise 10: as, kind", EdgeTests::stand, 0, 10, 5, 10, (y, v) -> y.as(5, v));

        String[] are = {"0", "01", "02", "03", "014", "025"};
        for (int kind = 0; kind < 6; kind++) {
            begin("promise 10: KIND " + kind + " as each", EdgeTests::stand);
            int view = kind;
            for (int as = 0; as < 6; as++) {
                int asked = as;
                if (are[kind].indexOf('0' + as) >= 0) {
                    due("as " + as, x.as(view, as), 10);
                } else {
                    refused("as " + as, KIND, y -> y.as(view, asked));
                }
            }
            end();
        }

        begin("promise 10: BEYOND is told ahead of KIND", EdgeTests::stand);
        refused("view 6 as SEA", BEYOND, y -> y.as(6, SEA));
        refused("view 0 as kind 6", BEYOND, y -> y.as(0, 6));
        refused("view 0 as kind -1", BEYOND, y -> y.as(0, -1));
        end();

        begin("promise 10: FINE 0 and 99, of what it has become", EdgeTests::six);
        x.fine(0, 0);
        due("0", x.as(0, YARD), 0);
        x.turn(0, STEEPLE);
        x.fine(0, 99);
        due("99", x.as(0, SEA), 99);
        x.turn(0, STREET);
        due("no longer", x.as(0, SEA), KIND);
        end();
    }

    private void trade() {
        range("promise 11: trade, frame", EdgeTests::stand, 0, 50, 5, 0, (y, v) -> y.trade(v, 1));
        range("promise 11: trade, other", EdgeTests::stand, 0, 50, 5, 0, (y, v) -> y.trade(1, v));

        begin("promise 11: BEYOND also one and the same", EdgeTests::standWithEight);
        for (int f = 0; f < 8; f++) {
            int same = f;
            refused("trade(" + f + ", " + f + ")", BEYOND, y -> y.trade(same, same));
        }
        end();

        begin("promise 11: STATE: one too few, the payer named first", y -> {
            stand(y);
            y.money(0, 49);
        });
        refused("trade(0, 1)", STATE, y -> y.trade(0, 1));
        x.money(0, 50);
        due("just enough", x.trade(0, 1), 50);
        due("nothing left", x.ownerOf(0, 0), 0);
        end();

        begin("promise 11: STATE: one too few, the payer named last", y -> {
            stand(y);
            y.money(0, 49);
        });
        refused("trade(1, 0)", STATE, y -> y.trade(1, 0));
        x.money(0, 50);
        due("just enough", x.trade(1, 0), 50);
        due("nothing left", x.ownerOf(0, 0), 0);
        end();

        begin("promise 11: who is paid may have nothing", EdgeTests::six);
        x.money(1, 0);
        due("paid", x.trade(0, 1), 50);
        due("payee", x.ownerOf(1, 0), 50);
        end();

        begin("promise 11: BEYOND is told ahead of STATE", y -> {
            stand(y);
            y.money(0, 0);
        });
        refused("one and the same without MONEY", BEYOND, y -> y.trade(0, 0));
        refused("trade(0, 6)", BEYOND, y -> y.trade(0, 6));
        refused("trade(6, 0)", BEYOND, y -> y.trade(6, 0));
        end();

        begin("promise 11: without FRAMES");
        refused("trade(0, 1)", BEYOND, y -> y.trade(0, 1));
        refused("trade(0, 0)", BEYOND, y -> y.trade(0, 0));
        end();

        begin("promise 11: the first and the last of eight", y -> yards(y, 8, 0));
        due("paid", x.trade(0, 7), 0);
        due("views", x.frameOf(0, 2) * 10 + x.frameOf(7, 2), 70);
        due("and back", x.trade(7, 0), 0);
        due("at home", x.now(4), 255);
        end();
    }

    private void shift() {
        begin("promise 12: how many FRAMES there are, 0 to 8");
        for (int f = 0; f <= 8; f++) {
            due("with " + f, x.shift(), f);
            x.frame(YARD, 0);
        }
        due("a 9th was FULL", x.status(1), 1);
        due("no other finding", x.status(-1), 1);
        end();
    }

    private void back() {
        begin("promise 13: without FRAMES in 0");
        due("back", x.back(), 0);
        end();

        begin("promise 13: of one FRAME in 0", y -> y.frame(YARD, 0));
        x.shift();
        due("back", x.back(), 0);
        end();

        begin("promise 13: of eight FRAMES in 7 at most, 0 behind 8", y -> yards(y, 8, 0));
        due("at home", x.back(), 0);
        for (int n = 1; n <= 8; n++) {
            x.shift();
            due("behind " + n, x.back(), 8 - n);
        }
        end();

        begin("promise 13: NONE", y -> {
            stand(y);
            y.trade(0, 4);
        });
        refused("back", NONE, ViewTrades::back);
        end();

        begin("promise 13: of three FRAMES, two exchanged, NONE; of two in 1", y -> yards(y, 2, 0));
        x.trade(0, 1);
        due("of two", x.back(), 1);
        x.frame(YARD, 0);
        due("of three", x.back(), NONE);
        end();

        begin("promise 13: a ring the other way round in one less than all", y -> yards(y, 3, 0));
        x.shift();
        x.shift();
        due("of three", x.back(), 1);
        due("nothing moved", x.frameOf(0, 2), 2);
        end();
    }

    private void stone() {
        range("promise 14: stone, frame", EdgeTests::stand, 0, 0, 5, 5, (y, v) -> y.stone(v, 1));
        range("promise 14: stone, n", EdgeTests::stand, 0, 1, 20, 1, (y, v) -> y.stone(1, v));

        begin("promise 14: n 0, 1, 19 and 20 in a ring of eight", y -> yards(y, 8, 0));
        x.shift();
        due("0", x.stone(7, 0), 7);
        due("1", x.stone(7, 1), 0);
        due("8", x.stone(7, 8), 7);
        due("19", x.stone(7, 19), 2);
        due("20", x.stone(7, 20), 3);
        end();

        begin("promise 14: in a ring of seven, another stays", y -> yards(y, 7, 0));
        x.shift();
        x.frame(YARD, 0);
        due("20", x.stone(0, 20), 6);
        due("its own", x.stone(7, 20), 7);
        end();

        begin("promise 14: without FRAMES");
        refused("stone(0, 0)", BEYOND, y -> y.stone(0, 0));
        end();
    }

    private void home() {
        begin("promise 15: without FRAMES, of one, at home");
        due("none", x.home(), 0);
        x.frame(YARD, 0);
        due("one", x.home(), 0);
        yards(x, 7, 0);
        due("eight at home", x.home(), 0);
        end();

        begin("promise 15: at most 7, a ring of eight", y -> yards(y, 8, 0));
        x.shift();
        due("one ring", x.home(), 7);
        x.shift();
        due("two rings of four", x.home(), 6);
        x.shift();
        due("one ring of eight", x.home(), 7);
        x.shift();
        due("four rings of two", x.home(), 4);
        end();

        begin("promise 15: as many as it says bring all home", y -> yards(y, 8, 0));
        x.shift();
        for (int left = 7; left > 0; left--) {
            due("left", x.home(), left);
            x.trade(7 - left, x.of(7 - left, 2));
        }
        due("left", x.home(), 0);
        due("all are home", x.now(4), 255);
        end();
    }
}
