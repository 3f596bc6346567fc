/** The edges of promises 27 to 29: THE TAPE, and THE TEXT of a CITY. */
final class EdgesOfTextTest extends EdgeTests {
    public static void main(String[] args) {
        new EdgesOfTextTest().runAndFinish();
    }

    @Override
    void runAll() {
        feed();
        wipe();
        city();
        tokens();
        numbers();
        kinds();
        trades();
        money();
        faults();
    }

    private static void fill(ViewTrades x, int bytes) {
        feed(x, " ".repeat(bytes));
    }

    private static void nearlyFull(ViewTrades x) {
        stand(x);
        x.wipe();
        feed(x, "money 2 77");
        fill(x, 107);
    }

    // ---- THE TAPE

    private void feed() {
        range("promise 27: feed, n", EdgeTests::stand, 1, 11, 4, 14, (y, v) -> y.feed(32, v));

        begin("promise 27: 117 bytes, 3 more, none more", EdgesOfTextTest::nearlyFull);
        due("bytes", x.count(1), 117);
        refused("4 more", FULL, y -> y.feed(0, 4));
        due("3 more", x.feed(0x202020, 3), 120);
        due("1 more", x.feed(32, 1), FULL);
        due("bytes", x.count(1), 120);
        due("it is a text still", x.city(), 1);
        end();

        begin("promise 27: FULL at 120", y -> {
            nearlyFull(y);
            fill(y, 3);
        });
        for (int n = 1; n <= 4; n++) {
            int many = n;
            refused(n + " more", FULL, y -> y.feed(0, many));
        }
        end();

        begin("promise 27: 120 byte by byte, and four by four");
        for (int i = 1; i <= 120; i++) {
            due("byte", x.feed('a', 1), i);
        }
        due("a 121st", x.feed('a', 1), FULL);
        x.wipe();
        for (int i = 4; i <= 120; i += 4) {
            due("four", x.feed(0, 4), i);
        }
        due("a 121st", x.feed('a', 1), FULL);
        end();

        begin("promise 27: BEYOND is told ahead of FULL", y -> {
            nearlyFull(y);
            fill(y, 3);
        });
        for (int n : new int[] {0, 5, -1, LOW, HIGH}) {
            refused("n " + n, BEYOND, y -> y.feed(0, n));
        }
        end();

        begin("promise 27: the n lowest bytes, the highest of these first");
        x.feed('s' << 24 | 'k' << 16 | 'y' << 8 | '1', 4);
        due("four", x.city() * 100 + x.of(0, 0) * 10 + x.frameOf(0, 0), 131);
        x.feed('Z' << 24 | 's' << 16 | 'e' << 8 | 'a', 3);
        x.feed('Z' << 24 | 'Z' << 16 | ' ' << 8 | '2', 2);
        x.feed('Z' << 24 | 'Z' << 16 | 'Z' << 8 | ';', 1);
        x.feed('Z' << 24 | 's' << 16 | 'k' << 8 | 'y', 3);
        x.feed(-256 | '3', 1);
        due("three, two and one", x.city(), 2);
        due("sea of 2", x.of(1, 0) * 10 + x.frameOf(1, 0), 12);
        due("sky of 3", x.of(2, 0) * 10 + x.frameOf(2, 0), 33);
        end();

        begin("promise 27: bytes of a number below 0 are bytes from 0 to 255");
        due("four", x.feed(-1, 4), 4);
        due("the least", x.feed(LOW, 4), 8);
        due("no token", x.city(), -1);
        x.feed('s' << 24 | 'k' << 16 | 'y' << 8 | 0xb1, 4);
        due("not a '1' with its highest bit", x.city(), -4);
        end();
    }

    private void wipe() {
        begin("promise 28: 0, 1 and 120 bytes");
        due("empty", x.wipe(), 0);
        x.feed(0, 1);
        due("one", x.wipe(), 1);
        fill(x, 120);
        due("120", x.wipe(), 120);
        due("empty", x.wipe(), 0);
        due("bytes", x.count(1), 0);
        due("room for 120 again", x.feed(0, 4), 4);
        due("no finding", x.status(-1), 0);
        end();
    }

    // ---- THE TEXT

    private void city() {
        begin("promise 29: how many ITEMS: 1, and as many as 120 bytes can hold");
        goodText("sky0", 1);
        goodText("money0 1;".repeat(12) + "money0 1", 13);
        goodText("money0 1;".repeat(12) + "money1 9999 ", 13);
        due("the last of 120 bytes", x.ownerOf(1, 0), 9999);
        goodText("money0 1;".repeat(11) + "money1 9999;money2 77", 13);
        due("the last of 120 bytes", x.ownerOf(2, 0), 77);
        fault("money0 1;".repeat(13) + "   ", 120);
        end();

        begin("promise 29: THE TAPE is empty then, whether it was a text or not", EdgeTests::stand);
        due("a text", x.city(), 1);
        due("bytes", x.count(1), 0);
        due("none", x.city(), -1);
        due("bytes", x.count(1), 0);
        due("no finding", x.status(-1), 0);
        end();

        begin("promise 29: ITEMS come to what there is", EdgeTests::six);
        x.shift();
        x.hours(2);
        x.image();
        feed(x, "garden 3 fine 44 curtain;trade 6 0;money 1 5");
        due("ITEMS", x.city(), 3);
        due("FRAMES", x.count(0), 7);
        due("HOUR", x.now(0), 2);
        due("view of 6", x.frameOf(6, 2), 1);
        due("view of 0", x.frameOf(0, 2), 6);
        due("FINE", x.of(6, 1), 44);
        due("CURTAIN", x.frameOf(6, 1), 1);
        due("OWNER", x.frameOf(6, 0), 3);
        due("MONEY of 1", x.ownerOf(1, 0), 5);
        due("the image stays", x.undo(), 6);
        end();

        begin("promise 29: with a FAULT nothing of the ITEMS ahead of it stays", EdgeTests::stand);
        fault("sky 0 fine 99;trade 6 0;money 0 9999;fine", 37);
        fault("sky 0 fine 99;trade 6 0;money 0 9999;", 37);
        fault("trade 0 1;trade 1 2;money 1 10000", 28);
        end();
    }

    private void tokens() {
        begin("TOKENS: no byte, a blank, 120 blanks: it ends too early", EdgeTests::stand);
        fault("", 0);
        fault(" ", 1);
        fault(" ".repeat(120), 120);
        end();

        begin("TOKENS: blanks may stand between, or not");
        goodText("sky0fine5curtain;sea1;trade0 1;money2 3", 4);
        goodText("sky   0   fine   5   curtain   ;   sea   1", 2);
        goodText(" sky 0 ", 1);
        goodText("sky0;" + " ".repeat(111) + "sky1", 2);
        goodText("sky0" + " ".repeat(116), 1);
        goodText(" ".repeat(116) + "sky0", 1);
        end();

        begin("TOKENS: a blank is byte 32 and no other", EdgeTests::stand);
        for (char blank : new char[] {0, 9, 10, 13, 31, 33, 127, 128, 160, 255}) {
            fault("sky" + blank + "0", 3);
            fault(blank + "sky 0", 0);
            fault("sky 0" + blank, 5);
        }
        end();

        begin("TOKENS: letters are a to z", EdgeTests::stand);
        for (char c : new char[] {'`', '{', 'A', 'Z', '@', '[', 'a' + 128, 'z' + 128}) {
            fault("" + c, 0);
            fault("sky 0 " + c, 6);
            fault("sk" + c, 0);
            fault("sky" + c + " 0", 3);
        }
        end();

        begin("TOKENS: digits are 0 to 9", EdgeTests::stand);
        for (char c : new char[] {'/', ':', '0' + 128, '9' + 128, '-', '+', '.'}) {
            fault("sky " + c, 4);
            fault("sky 1" + c, 5);
            fault("sky 0 fine " + c + "5", 11);
        }
        end();

        begin("TOKENS: SIGN ; and no other", EdgeTests::stand);
        for (char c : new char[] {':', '<', ',', ';' + 128}) {
            fault("sky 0" + c + "sky 1", 5);
        }
        end();

        begin("TOKENS, each as long as can be: WORDS", EdgeTests::stand);
        fault("skysea 0", 0);
        fault("skys 0", 0);
        fault("skya 0", 0);
        fault("skyz 0", 0);
        fault("asky 0", 0);
        fault("zsky 0", 0);
        fault("sk 0", 0);
        fault("s", 0);
        fault("sky 0 finecurtain", 6);
        fault("sky 0 fine 5 curtains", 13);
        fault("moneytrade 0 1", 0);
        fault("sk y 0", 0);
        end();

        begin("TOKENS, each as long as can be: NUMBERS", EdgeTests::stand);
        fault("trade 01", 8);
        fault("money 12", 6);
        fault("sky 00 0", 7);
        fault("sky 0 fine 990", 11);
        fault("sky 3 2", 6);
        end();
    }

    private void numbers() {
        begin("NUMBERS: an OWNER 0 to 3", EdgeTests::nothing);
        goodText("sky 0", 1);
        due("OWNER", x.frameOf(0, 0), 0);
        goodText("sky 3", 1);
        due("OWNER", x.frameOf(0, 0), 3);
        goodText("sky 0003", 1);
        due("OWNER", x.frameOf(0, 0), 3);
        fault("sky 4", 4);
        fault("sky 10", 4);
        fault("sky 9999", 4);
        fault("sky 10000", 4);
        end();

        begin("NUMBERS: FINE 0 to 99");
        goodText("sky 0 fine 0", 1);
        due("FINE", x.of(0, 1), 0);
        goodText("sky 0 fine 99", 1);
        due("FINE", x.of(0, 1), 99);
        goodText("sky 0 fine 0000000000000000000099", 1);
        due("FINE", x.of(0, 1), 99);
        fault("sky 0 fine 100", 11);
        fault("sky 0 fine 10000", 11);
        end();

        begin("NUMBERS that would wrap around", EdgeTests::stand);
        fault("sky 256", 4);
        fault("sky 65536", 4);
        fault("sky 4294967296", 4);
        fault("sky 4294967297", 4);
        fault("sky 18446744073709551616", 4);
        fault("sky 340282366920938463463374607431768211456", 4);
        fault("sky 0 fine 4294967297", 11);
        fault("trade 0 4294967297", 8);
        fault("money 0 4294967301", 8);
        fault("money 0 " + "9".repeat(112), 8);
        fault("money 4294967296 1", 6);
        end();
    }

    private void kinds() {
        String[] names = {"yard", "sea", "street", "sky", "steeple", "garden"};
        begin("the name of a KIND: each of six");
        for (int k = 0; k < 6; k++) {
            goodText(names[k] + " 2", 1);
            due(names[k], x.of(0, 0), k);
            due("OWNER", x.frameOf(0, 0), 2);
            due("FINE", x.of(0, 1), 10);
            due("CURTAIN", x.frameOf(0, 1), 0);
            due("VIEW", x.frameOf(0, 2), 0);
        }
        end();

        begin("perhaps fine, perhaps curtain, in their order and once", EdgeTests::stand);
        goodText("sky 0 curtain", 1);
        due("FINE", x.of(6, 1), 10);
        due("CURTAIN", x.frameOf(6, 1), 1);
        goodText("sky 0 fine 7", 1);
        due("FINE", x.of(6, 1), 7);
        due("CURTAIN", x.frameOf(6, 1), 0);
        goodText("sky 0 fine 7 curtain", 1);
        due("both", x.of(6, 1) * 10 + x.frameOf(6, 1), 71);
        fault("sky 0 curtain fine 7", 14);
        fault("sky 0 fine 7 fine 8", 13);
        fault("sky 0 curtain curtain", 14);
        fault("sky 0 fine curtain", 11);
        fault("sky fine 7", 4);
        fault("sky curtain", 4);
        fault("sky 0 money", 6);
        end();

        begin("the 8th FRAME, and the name of a KIND for a 9th: its own place", EdgeTests::nothing);
        goodText("sky0;".repeat(7) + "sea3 fine 99 curtain", 8);
        due("FRAMES", x.count(0), 8);
        due("the 8th", x.of(7, 0) * 100 + x.of(7, 1), 199);
        for (String name : names) {
            fault("sky0;".repeat(8) + name + " 0", 40);
            fault("sky0;".repeat(8) + name + " 4", 40);
            fault("sky0;".repeat(8) + name, 40);
        }
        fault("sky0;".repeat(8), 40);
        fault("sky0;".repeat(8) + "tea", 40);
        end();

        begin("the name of a KIND with eight FRAMES there already", EdgeTests::standWithEight);
        fault("yard 0", 0);
        fault("  garden 9", 2);
        fault("money 0 1; sky", 11);
        goodText("money 0 1;trade 0 7", 2);
        end();

        begin("one FRAME more than seven, and one more still", y -> {
            stand(y);
            y.frame(YARD, 0);
        });
        goodText("sky 0", 1);
        due("its number", x.frameOf(7, 2), 7);
        fault("sky 0;sea 1", 6);
        end();
    }

    private void trades() {
        begin("trade: FRAMES there by then", EdgeTests::stand);
        goodText("trade 0 5", 1);
        due("views", x.frameOf(0, 2) * 10 + x.frameOf(5, 2), 50);
        goodText("trade 5 0", 1);
        due("views", x.frameOf(0, 2) * 10 + x.frameOf(5, 2), 50);
        fault("trade 6 0", 6);
        fault("trade 0 6", 8);
        fault("trade 7 7", 6);
        goodText("sea 1;trade 6 0", 2);
        due("views", x.frameOf(0, 2) * 10 + x.frameOf(6, 2), 60);
        goodText("sea 1;trade 0 6", 2);
        fault("sea 1;trade 7 0", 12);
        fault("sea 1;trade 0 7", 14);
        fault("trade 0 6;sea 1", 8);
        end();

        begin("trade: of no FRAMES, of one");
        fault("trade 0 0", 6);
        fault("trade 0 1", 6);
        fault("sky 0;trade 0 0", 14);
        fault("sky 0;trade 0 1", 14);
        fault("sky 0;trade 1 0", 12);
        goodText("sky 0;sky 1;trade 1 0", 3);
        due("views", x.frameOf(0, 2) * 10 + x.frameOf(1, 2), 10);
        end();

        begin("trade: unlike", EdgeTests::stand);
        fault("trade 0 0", 8);
        fault("trade 5 5", 8);
        fault("trade 1 01", 8);
        end();

        begin("trade: the FRAMES 7 and 0", EdgeTests::standWithEight);
        goodText("trade 7 0", 1);
        due("views", x.frameOf(0, 2) * 10 + x.frameOf(7, 2), 70);
        fault("trade 8 0", 6);
        fault("trade 0 8", 8);
        end();

        begin("trade: nobody pays, even without MONEY", EdgeTests::six);
        for (int owner = 0; owner < 4; owner++) {
            x.money(owner, 0);
        }
        feed(x, "trade 0 5;trade 3 2");
        due("ITEMS", x.city(), 2);
        due("MONEY", x.now(3), 0);
        due("view of 0", x.frameOf(0, 2), 5);
        due("view of 3", x.frameOf(3, 2), 2);
        end();

        begin("trade: takes two NUMBERS and no more", EdgeTests::stand);
        fault("trade", 5);
        fault("trade 0", 7);
        fault("trade ;", 6);
        fault("trade 0;", 7);
        fault("trade 0 1 2", 10);
        fault("trade 0 1 curtain", 10);
        fault("trade x 1", 6);
        end();
    }

    private void money() {
        begin("money: a NUMBER 0 to 3, a NUMBER 0 to 9999", EdgeTests::stand);
        goodText("money 0 0", 1);
        due("MONEY", x.ownerOf(0, 0), 0);
        goodText("money 3 9999", 1);
        due("MONEY", x.ownerOf(3, 0), 9999);
        goodText("money 3 000009999", 1);
        due("MONEY", x.ownerOf(3, 0), 9999);
        fault("money 4 0", 6);
        fault("money 0 10000", 8);
        fault("money 0 99999", 8);
        fault("money 4 10000", 6);
        end();

        begin("money: without FRAMES, and twice");
        goodText("money 1 5;money 1 6", 2);
        due("MONEY", x.ownerOf(1, 0), 6);
        end();

        begin("money: takes two NUMBERS and no more", EdgeTests::stand);
        fault("money", 5);
        fault("money 0", 7);
        fault("money 0;", 7);
        fault("money 0 1 1", 10);
        fault("money 0 1 fine 1", 10);
        fault("money money", 6);
        end();
    }

    private void faults() {
        begin("FAULT: the first byte of the first TOKEN that can't stand there", EdgeTests::stand);
        fault(";", 0);
        fault("; ;", 0);
        fault("0", 0);
        fault("fine 5", 0);
        fault("curtain", 0);
        fault("sky 0 ;; sky 1", 7);
        fault("sky 0 ; ; sky 1", 8);
        fault("sky ;", 4);
        fault("sky sky", 4);
        fault("sky 0 sky 1", 6);
        fault("sky 0 fine ;", 11);
        fault("sky 0 fine 5 5", 13);
        fault("tea 9 Z", 0);
        fault("sky 9 Z", 4);
        end();

        begin("FAULT: how many bytes there are if it ends too early", EdgeTests::stand);
        fault("sky", 3);
        fault("sky ", 4);
        fault("sky 0 fine", 10);
        fault("sky 0 fine  ", 12);
        fault("sky 0;", 6);
        fault("sky 0; ", 7);
        fault("sky 0 fine 5 curtain;", 21);
        end();

        begin("FAULT: at the last byte of 120, and behind it", EdgeTests::stand);
        fault("sky 0" + " ".repeat(114) + "-", 119);
        fault("sky 0" + " ".repeat(114) + "x", 119);
        fault("sky 0" + " ".repeat(114) + ";", 120);
        fault(" ".repeat(117) + "sky", 120);
        fault("x".repeat(120), 0);
        fault("7".repeat(120), 0);
        fault(";".repeat(120), 0);
        end();
    }
}
