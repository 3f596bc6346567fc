/** The edges of promises 30 to 35: sheets. */
final class EdgesOfSheetsTest extends EdgeTests {
    private static final int[] BITS = {8, 16, 64};

    public static void main(String[] args) {
        new EdgesOfSheetsTest().runAndFinish();
    }

    @Override
    void runAll() {
        sheet();
        write();
        copy();
        overlaps();
        lays();
        book();
        read();
        readKindsAndFines();
    }

    private static void oneMissing(ViewTrades x) {
        stand(x);
        x.sheet(1, 0, 0);
    }

    /** SHEETS of 16 bits: 0 and 3 of five numbers, 1 of three, 2 of none. */
    private static void rows(ViewTrades x) {
        stand(x);
        x.sheet(0, 16, 5);
        x.sheet(1, 16, 3);
        x.sheet(2, 16, 0);
        x.sheet(3, 16, 5);
        for (int i = 0; i < 5; i++) {
            x.write(0, i, 100 + i);
        }
    }

    // ---- sheet

    private void sheet() {
        range("promise 30: sheet, s", EdgeTests::stand, 0, 7, 3, 7, (y, v) -> y.sheet(v, 8, 7));

        begin("promise 30: bits 0, 8, 16, 64 and no other", EdgeTests::stand);
        for (int bits : BITS) {
            due("bits " + bits, x.sheet(0, bits, 7), 7);
        }
        due("bits 0", x.sheet(0, 0, 7), 0);
        for (int bits : new int[] {-1, 1, 7, 9, 15, 17, 24, 32, 63, 65, 128, -8, -64, 256, 264, 65536, LOW, HIGH}) {
            refused("bits " + bits, BEYOND, y -> y.sheet(0, bits, 7));
        }
        end();

        begin("promise 30: SIZE: n is below 0 (also with bits 0)", EdgeTests::stand);
        for (int n : new int[] {-1, -2, -40, LOW}) {
            refused("n " + n, SIZE, y -> y.sheet(0, 8, n));
            refused("n " + n + ", bits 64", SIZE, y -> y.sheet(3, 64, n));
            refused("n " + n + ", bits 0", SIZE, y -> y.sheet(0, 0, n));
        }
        due("n 0", x.sheet(0, 8, 0), 0);
        due("n 0, bits 0", x.sheet(0, 0, 0), 0);
        end();

        begin("promise 30: BEYOND: n is above 40 (also with bits 0)", EdgeTests::stand);
        for (int n : new int[] {41, 42, 64, 256, 65536, HIGH}) {
            refused("n " + n, BEYOND, y -> y.sheet(0, 8, n));
            refused("n " + n + ", bits 64", BEYOND, y -> y.sheet(3, 64, n));
            refused("n " + n + ", bits 0", BEYOND, y -> y.sheet(0, 0, n));
        }
        due("n 40", x.sheet(0, 8, 40), 40);
        due("n 40, bits 0", x.sheet(0, 0, 40), 0);
        end();

        begin("promise 30: BEYOND is told ahead of SIZE", EdgeTests::stand);
        refused("sheet 4", BEYOND, y -> y.sheet(4, 8, -1));
        refused("sheet -1", BEYOND, y -> y.sheet(-1, 8, -1));
        refused("bits 32", BEYOND, y -> y.sheet(0, 32, -1));
        refused("bits -1", BEYOND, y -> y.sheet(0, -1, LOW));
        refused("neither", SIZE, y -> y.sheet(0, 8, -1));
        end();

        begin("promise 30: all 0, whatever was there");
        for (int bits : BITS) {
            x.sheet(0, bits, 40);
            for (int i = 0; i < 40; i++) {
                due("number " + i, x.write(0, i, -1), 0);
            }
        }
        x.sheet(0, 64, 1);
        x.sheet(0, 64, 40);
        due("the last", x.write(0, 39, 0), 0);
        end();

        begin("promise 30: a sheet of 0 numbers isn't MISSING", EdgeTests::stand);
        for (int bits : BITS) {
            due("n 0", x.sheet(0, bits, 0), 0);
            due("no number 0", x.write(0, 0, 1), BEYOND);
            due("lays", x.lays(0), 0);
            due("book", x.book(0, 0), 0);
            due("copy", x.copy(0, 0, 0, 0, 0), 0);
            due("read", x.read(0, 0, 0), 600);
        }
        end();

        begin("promise 30: bits 0: it is MISSING, whatever n is", EdgeTests::stand);
        for (int n : new int[] {0, 1, 40}) {
            due("anew", x.sheet(0, 8, 3), 3);
            due("bits 0", x.sheet(0, 0, n), 0);
            due("write", x.write(0, 0, 1), MISSING);
            due("and again", x.sheet(0, 0, n), 0);
        }
        due("the others stay", x.write(1, 0, 0), 11);
        end();
    }

    // ---- write

    private void write() {
        range("promise 31: write, s", EdgeTests::stand, 0, 10, 3, 13, (y, v) -> y.write(v, 0, 5));
        range("promise 31: write, i of 40", EdgeTests::stand, 0, 10, 39, 0, (y, v) -> y.write(0, v, 5));
        range("promise 31: write, i of 3", EdgeTests::stand, 0, 12, 2, -3, (y, v) -> y.write(2, v, 5));

        begin("promise 31: a sheet of none", y -> {
            stand(y);
            y.sheet(0, 64, 0);
        });
        for (int i : new int[] {0, -1, 1, LOW, HIGH}) {
            refused("number " + i, BEYOND, y -> y.write(0, i, 5));
        }
        end();

        begin("promise 31: numbers behind those of a smaller sheet anew", y -> {
            stand(y);
            y.sheet(0, 8, 2);
        });
        refused("number 2", BEYOND, y -> y.write(0, 2, 5));
        refused("number 39", BEYOND, y -> y.write(0, 39, 5));
        end();

        begin("promise 31: BEYOND of the sheet ahead of MISSING, MISSING ahead of BEYOND of the number",
            EdgesOfSheetsTest::oneMissing);
        refused("sheet 4, number 99", BEYOND, y -> y.write(4, 99, 5));
        refused("MISSING, number 0", MISSING, y -> y.write(1, 0, 5));
        refused("MISSING, number -1", MISSING, y -> y.write(1, -1, 5));
        refused("MISSING, number 40", MISSING, y -> y.write(1, 40, 5));
        end();

        begin("promise 31: 8 bits with their sign");
        x.sheet(0, 8, 1);
        dueWritten(0, new long[] {0, 127, 128, 255, 256, 383, 384, -1, -128, -129, -256, -257,
            Long.MAX_VALUE, Long.MIN_VALUE, HIGH, LOW, 0x7fffffff00L},
            new long[] {0, 127, -128, -1, 0, 127, -128, -1, -128, 127, 0, -1, -1, 0, -1, 0, 0});
        end();

        begin("promise 31: 16 bits with their sign");
        x.sheet(0, 16, 1);
        dueWritten(0, new long[] {0, 255, 32767, 32768, 65535, 65536, 98303, -1, -32768, -32769, -65536,
            Long.MAX_VALUE, Long.MIN_VALUE, HIGH, LOW},
            new long[] {0, 255, 32767, -32768, -1, 0, 32767, -1, -32768, 32767, 0, -1, 0, -1, 0});
        end();

        begin("promise 31: 64 bits are all");
        x.sheet(0, 64, 1);
        long[] all = {0, -1, 256, 65536, HIGH, LOW, 1L + HIGH, LOW - 1L, 0xffffffffL, 0x100000000L,
            Long.MAX_VALUE, Long.MIN_VALUE};
        dueWritten(0, all, all);
        end();

        begin("promise 31: what it was may look like a finding, and is none");
        x.sheet(3, 64, 40);
        for (int finding = SIZE; finding <= BEYOND; finding++) {
            x.write(3, 39, finding);
            due("it was", x.write(3, 39, 0), finding);
        }
        due("findings", x.status(-1), 0);
        end();
    }

    private void dueWritten(int s, long[] given, long[] kept) {
        for (int i = 0; i < given.length; i++) {
            x.write(s, 0, given[i]);
            due("of " + given[i], x.write(s, 0, 0), kept[i]);
        }
    }

    // ---- copy

    private void copy() {
        range("promise 32: copy, s", EdgesOfSheetsTest::rows, 0, 0, 3, 0, (y, v) -> y.copy(v, 0, 1, 0, 0));
        range("promise 32: copy, t", EdgesOfSheetsTest::rows, 0, 0, 3, 0, (y, v) -> y.copy(1, 0, v, 0, 0));
        range("promise 32: copy, from, one number", EdgesOfSheetsTest::rows, 0, 1, 4, 1, (y, v) -> y.copy(0, v, 1, 0, 1));
        range("promise 32: copy, from, no number", EdgesOfSheetsTest::rows, 0, 0, 5, 0, (y, v) -> y.copy(0, v, 1, 0, 0));
        range("promise 32: copy, to, one number", EdgesOfSheetsTest::rows, 0, 1, 2, 1, (y, v) -> y.copy(0, 0, 1, v, 1));
        range("promise 32: copy, to, no number", EdgesOfSheetsTest::rows, 0, 0, 3, 0, (y, v) -> y.copy(0, 0, 1, v, 0));
        range("promise 32: copy, n there", EdgesOfSheetsTest::rows, 0, 0, 3, 3, (y, v) -> y.copy(0, 0, 1, 0, v));
        range("promise 32: copy, n here", EdgesOfSheetsTest::rows, 0, 0, 3, 3, (y, v) -> y.copy(1, 0, 0, 0, v));
        range("promise 32: copy, n from 2 on", EdgesOfSheetsTest::rows, 0, 0, 3, 3, (y, v) -> y.copy(0, 2, 3, 0, v));
        range("promise 32: copy, n to 2 on", EdgesOfSheetsTest::rows, 0, 0, 3, 3, (y, v) -> y.copy(0, 0, 3, 2, v));

        begin("promise 32: n of none", EdgesOfSheetsTest::rows);
        due("of none to none", x.copy(2, 0, 2, 0, 0), 0);
        due("of none to some", x.copy(2, 0, 0, 5, 0), 0);
        refused("one of none", BEYOND, y -> y.copy(2, 0, 0, 0, 1));
        refused("one to none", BEYOND, y -> y.copy(0, 0, 2, 0, 1));
        end();

        begin("promise 32: ends that would wrap around", EdgesOfSheetsTest::rows);
        refused("from and n", BEYOND, y -> y.copy(0, HIGH, 3, 0, 1));
        refused("from and n", BEYOND, y -> y.copy(0, 1, 3, 0, HIGH));
        refused("from and n", BEYOND, y -> y.copy(0, HIGH, 3, 0, HIGH));
        refused("to and n", BEYOND, y -> y.copy(0, 0, 3, HIGH, 1));
        refused("to and n", BEYOND, y -> y.copy(0, HIGH, 3, HIGH, 2));
        refused("the least from", BEYOND, y -> y.copy(0, LOW, 3, 0, HIGH));
        refused("the least of all", BEYOND, y -> y.copy(0, LOW, 3, LOW, LOW));
        end();

        begin("promise 32: below 0, and yet within if taken together", EdgesOfSheetsTest::rows);
        refused("from", BEYOND, y -> y.copy(0, -1, 3, 0, 2));
        refused("to", BEYOND, y -> y.copy(0, 0, 3, -1, 2));
        refused("n", BEYOND, y -> y.copy(0, 3, 3, 3, -1));
        end();

        begin("promise 32: all 40", EdgeTests::stand);
        due("onto itself", x.copy(0, 0, 0, 0, 40), 40);
        x.sheet(0, 64, 40);
        x.write(0, 39, 39);
        due("all", x.copy(0, 0, 3, 0, 40), 40);
        due("the first", x.write(3, 0, 0), 0);
        due("the last", x.write(3, 39, 0), 39);
        refused("41", BEYOND, y -> y.copy(0, 0, 0, 0, 41));
        end();

        copyFindings();
    }

    private void copyFindings() {
        begin("promise 32: BEYOND of a sheet is told ahead of MISSING", EdgesOfSheetsTest::oneMissing);
        refused("to sheet 4", BEYOND, y -> y.copy(1, 0, 4, 0, 0));
        refused("from sheet 4", BEYOND, y -> y.copy(4, 0, 1, 0, 0));
        refused("from sheet -1", BEYOND, y -> y.copy(-1, 0, 1, 0, 0));
        end();

        begin("promise 32: MISSING is told ahead of KIND and of BEYOND", EdgesOfSheetsTest::oneMissing);
        refused("from", MISSING, y -> y.copy(1, 0, 0, 0, 0));
        refused("to", MISSING, y -> y.copy(0, 0, 1, 0, 0));
        refused("both", MISSING, y -> y.copy(1, 0, 1, 0, 0));
        refused("from -1", MISSING, y -> y.copy(1, -1, 0, 0, 0));
        refused("n 41", MISSING, y -> y.copy(0, 0, 1, 0, 41));
        end();

        begin("promise 32: KIND is told ahead of BEYOND", EdgeTests::stand);
        refused("8 and 16", KIND, y -> y.copy(0, 0, 1, 0, 0));
        refused("16 and 8", KIND, y -> y.copy(1, 0, 0, 0, 1));
        refused("16 and 64", KIND, y -> y.copy(1, 0, 2, 0, 0));
        refused("8 and 64, from -1", KIND, y -> y.copy(0, -1, 3, 0, 0));
        refused("8 and 64, to 41", KIND, y -> y.copy(0, 0, 3, 41, 0));
        refused("8 and 64, n -1", KIND, y -> y.copy(0, 0, 3, 0, -1));
        due("64 and 64", x.copy(2, 0, 3, 0, 3), 3);
        end();
    }

    private void overlaps() {
        begin("promise 32: as they all were, upwards", EdgesOfSheetsTest::rows);
        due("copy", x.copy(0, 0, 0, 1, 4), 4);
        dueRow(new long[] {100, 100, 101, 102, 103});
        end();

        begin("promise 32: as they all were, downwards", EdgesOfSheetsTest::rows);
        due("copy", x.copy(0, 1, 0, 0, 4), 4);
        dueRow(new long[] {101, 102, 103, 104, 104});
        end();

        begin("promise 32: another one keeps what isn't copied", EdgesOfSheetsTest::rows);
        due("copy", x.copy(0, 1, 3, 2, 2), 2);
        due("0", x.copy(3, 0, 0, 0, 5), 5);
        dueRow(new long[] {0, 0, 101, 102, 0});
        end();
    }

    private void dueRow(long[] want) {
        for (int i = 0; i < want.length; i++) {
            due("number " + i, x.write(0, i, 0), want[i]);
        }
    }

    // ---- lays

    private void lays() {
        range("promise 33: lays, s", EdgeTests::stand, 0, 5, 3, 5, (y, v) -> y.lays(v));

        begin("promise 33: MISSING", EdgesOfSheetsTest::oneMissing);
        refused("lays", MISSING, y -> y.lays(1));
        end();

        begin("promise 33: 0 and 99, -1 and 100", EdgeTests::six);
        x.sheet(0, 64, 6);
        long[] numbers = {0, 99, -1, 100, 4294967296L + 5, Long.MIN_VALUE};
        for (int i = 0; i < 6; i++) {
            x.write(0, i, numbers[i]);
        }
        due("came", x.lays(0), 2);
        int[] want = {0, 99, 10, 10, 10, 10};
        for (int v = 0; v < 6; v++) {
            due("FINE of " + v, x.of(v, 1), want[v]);
        }
        end();

        begin("promise 33: 8 bits reach from -128 to 127", EdgeTests::six);
        x.sheet(0, 8, 3);
        x.write(0, 0, 128);
        x.write(0, 1, 127);
        x.write(0, 2, 256 + 98);
        due("came", x.lays(0), 1);
        due("FINE of 0 and 1", x.of(0, 1) + x.of(1, 1), 20);
        due("FINE of 2", x.of(2, 1), 98);
        end();

        begin("promise 33: numbers that stand for none are left out", EdgeTests::nothing);
        x.sheet(0, 8, 40);
        for (int i = 0; i < 40; i++) {
            x.write(0, i, 50 + i);
        }
        due("no views", x.lays(0), 0);
        for (int f = 0; f < 8; f++) {
            x.frame(YARD, 0);
            due("views", x.lays(0), f + 1);
            due("the last", x.of(f, 1), 50 + f);
        }
        end();

        begin("promise 33: views without a number stay", y -> yards(y, 8, 0));
        x.sheet(0, 16, 7);
        due("seven", x.lays(0), 7);
        due("FINE", x.count(3), 10);
        x.sheet(1, 16, 0);
        due("none", x.lays(1), 0);
        due("FINE", x.count(3), 10);
        end();

        begin("promise 33: of views, not of what FRAMES see", EdgeTests::six);
        x.shift();
        x.sheet(0, 8, 1);
        x.write(0, 0, 77);
        due("came", x.lays(0), 1);
        due("view 0", x.of(0, 1), 77);
        due("the view out of 0", x.of(1, 1), 10);
        end();
    }

    // ---- book

    private void book() {
        range("promise 34: book, s", EdgeTests::stand, 0, 40, 3, 40, (y, v) -> y.book(v, 0));
        range("promise 34: book, owner", EdgeTests::stand, 0, 3, 3, 3, (y, v) -> y.book(2, v));

        begin("promise 34: BEYOND of the sheet, MISSING, BEYOND of the owner", EdgesOfSheetsTest::oneMissing);
        refused("sheet 4, owner 4", BEYOND, y -> y.book(4, 4));
        refused("MISSING", MISSING, y -> y.book(1, 0));
        refused("MISSING, owner 4", MISSING, y -> y.book(1, 4));
        refused("MISSING, owner -1", MISSING, y -> y.book(1, -1));
        end();

        begin("promise 34: 0, 1 and 40 numbers", EdgeTests::six);
        x.sheet(0, 64, 0);
        due("0", x.book(0, 3), 0);
        x.sheet(0, 64, 1);
        due("1", x.book(0, 3), 1);
        due("MONEY now", x.write(0, 0, 0), 100);
        x.sheet(0, 64, 40);
        due("40", x.book(0, 3), 40);
        for (int i = 0; i < 40; i++) {
            due("ON " + i, x.write(0, i, 0), 100 + 2 * i);
        }
        due("HOUR", x.now(0), 0);
        due("MONEY", x.now(3), 400);
        end();

        begin("promise 34: as ON tells it, over an hour 0", EdgeTests::six);
        x.hours(20);
        x.sheet(0, 64, 40);
        x.book(0, 2);
        for (int i = 0; i < 40; i++) {
            due("ON " + i, x.write(0, i, 0), x.on(2, i));
        }
        end();

        begin("promise 34: the lowest bits, with their sign", EdgeTests::stand);
        x.money(3, 126);
        x.book(0, 3);
        due("126", x.write(0, 0, 0), 126);
        due("128", x.write(0, 1, 0), -128);
        x.money(3, 255);
        x.book(0, 3);
        due("255", x.write(0, 0, 0), -1);
        due("257", x.write(0, 1, 0), 1);
        x.money(3, 32767);
        x.book(1, 3);
        due("32767", x.write(1, 0, 0), 32767);
        due("32769", x.write(1, 1, 0), -32767);
        x.money(3, 99999);
        x.book(0, 3);
        x.book(1, 3);
        x.book(3, 3);
        due("99999 in 8 bits", x.write(0, 39, 0), -97);
        due("99999 in 16 bits", x.write(1, 39, 0), -31073);
        due("99999 in 64 bits", x.write(3, 39, 0), 99999);
        end();

        begin("promise 34: MONEY 99999 at most", y -> y.frame(YARD, 1));
        x.money(1, 99994);
        x.sheet(0, 64, 4);
        x.book(0, 1);
        long[] want = {99994, 99997, 99999, 99999};
        for (int i = 0; i < 4; i++) {
            due("ON " + i, x.write(0, i, 0), want[i]);
        }
        end();
    }

    // ---- read

    private void read() {
        range("promise 35: read, s", EdgeTests::stand, 0, 0, 3, 0, (y, v) -> y.read(v, 0, 0));
        range("promise 35: read, owner", EdgeTests::stand, 0, 0, 3, 0, (y, v) -> y.read(0, v, 0));
        range("promise 35: read, view", EdgeTests::stand, 0, 0, 5, 0, (y, v) -> y.read(0, 0, v));

        begin("promise 35: BEYOND of the sheet, MISSING, BEYOND of owner and view", EdgesOfSheetsTest::oneMissing);
        refused("sheet 4", BEYOND, y -> y.read(4, 4, 6));
        refused("MISSING", MISSING, y -> y.read(1, 0, 0));
        refused("MISSING, owner 4", MISSING, y -> y.read(1, 4, 0));
        refused("MISSING, view 6", MISSING, y -> y.read(1, 0, 6));
        refused("owner 4", BEYOND, y -> y.read(0, 4, 0));
        refused("view 6", BEYOND, y -> y.read(0, 0, 6));
        end();

        begin("promise 35: without views", y -> y.sheet(0, 8, 0));
        refused("view 0", BEYOND, y -> y.read(0, 0, 0));
        end();

        begin("promise 35: no numbers, all 600 pairs; one number, all or none", EdgeTests::six);
        x.sheet(0, 64, 0);
        due("no numbers", x.read(0, 3, 3), 600);
        x.sheet(0, 64, 1);
        due("0 isn't 100", x.read(0, 3, 3), 0);
        x.write(0, 0, 100);
        due("100", x.read(0, 3, 3), 600);
        x.write(0, 0, 99);
        due("99", x.read(0, 3, 3), 0);
        x.money(3, 0);
        x.write(0, 0, 0);
        due("0", x.read(0, 3, 3), 600);
        end();

        begin("promise 35: numbers cut to few bits aren't MONEY", EdgeTests::six);
        x.sheet(0, 8, 1);
        x.sheet(1, 16, 1);
        x.money(3, 127);
        x.book(0, 3);
        due("127 in 8 bits", x.read(0, 3, 3), 600);
        x.money(3, 128);
        x.book(0, 3);
        due("128 in 8 bits", x.read(0, 3, 3), 0);
        x.money(3, 32767);
        x.book(1, 3);
        due("32767 in 16 bits", x.read(1, 3, 3), 600);
        x.money(3, 32768);
        x.book(1, 3);
        due("32768 in 16 bits", x.read(1, 3, 3), 0);
        end();

        begin("promise 35: 64 bits above MONEY aren't MONEY", EdgeTests::six);
        x.sheet(0, 64, 1);
        x.write(0, 0, 4294967296L + 100);
        due("wrapped", x.read(0, 3, 3), 0);
        x.write(0, 0, -100);
        due("below 0", x.read(0, 3, 3), 0);
        end();
    }

    private void readKindsAndFines() {
        begin("promise 35: FINE 99 and FINE 0 are among the pairs", y -> y.frame(GARDEN, 0));
        x.sheet(0, 64, 2);
        x.write(0, 0, 100);
        x.write(0, 1, 100 + 113);
        due("a GARDEN of 99", x.read(0, 0, 0), 1);
        x.write(0, 1, 100 + 114);
        due("none", x.read(0, 0, 0), 0);
        x.write(0, 1, 100);
        due("a SKY of 0 to 3", x.read(0, 0, 0), 4);
        x.write(0, 1, 102);
        due("YARD, SEA, STEEPLE of 0 to 9, SKY of 8 to 11", x.read(0, 0, 0), 34);
        x.write(0, 1, 100 + 24);
        due("SKY of 96 to 99, GARDEN of 18", x.read(0, 0, 0), 5);
        end();

        begin("promise 35: a view WEARS at hour 0, and not in the number of that hour", y -> y.frame(STREET, 0));
        x.hours(20);
        x.fine(0, 10);
        x.sheet(0, 64, 6);
        x.book(0, 0);
        due("6 3 6 3 6: STREET of 10 to 19, GARDEN of 1", x.read(0, 0, 0), 11);
        x.sheet(0, 64, 7);
        x.book(0, 0);
        due("6 3 6 3 6 2: STREET of 10", x.read(0, 0, 0), 1);
        x.fine(0, 11);
        x.book(0, 0);
        due("6 3 6 3 6 3: STREET of 11 to 19, GARDEN of 1", x.read(0, 0, 0), 10);
        end();

        begin("promise 35: a GARDEN WEARS at hour 0 behind SPRING", y -> y.frame(GARDEN, 0));
        EdgeTests.hours(x, 168);
        x.fine(0, 10);
        x.sheet(0, 64, 3);
        x.book(0, 0);
        due("6 2: STREET and GARDEN of 10", x.read(0, 0, 0), 2);
        end();

        begin("promise 35: most MONEY hides what comes", y -> y.frame(YARD, 0));
        x.sheet(0, 64, 40);
        x.money(0, 99999);
        x.book(0, 0);
        due("any", x.read(0, 0, 0), 600);
        x.money(0, 99998);
        x.sheet(0, 64, 2);
        x.book(0, 0);
        due("any that brings 1 or more", x.read(0, 0, 0), 596);
        end();

        begin("promise 35: a view that the OWNER doesn't see changes nothing", EdgeTests::six);
        x.sheet(0, 64, 40);
        x.book(0, 3);
        due("another's", x.read(0, 3, 0), 600);
        x.write(0, 39, 0);
        due("another's, the last number wrong", x.read(0, 3, 0), 0);
        x.book(0, 3);
        x.set(3, 1, 1);
        due("its own, a CURTAIN drawn since", x.read(0, 3, 3), 0);
        x.book(0, 3);
        due("its own behind a CURTAIN", x.read(0, 3, 3), 600);
        end();

        begin("promise 35: the view that is seen, wherever it is", EdgeTests::six);
        x.trade(3, 1);
        x.sheet(0, 64, 8);
        x.book(0, 3);
        due("OWNER 3 sees view 1: 3 an hour, then 8: SEA, STEEPLE of 10 to 19", x.read(0, 3, 1), 20);
        due("and not view 3", x.read(0, 3, 3), 600);
        due("as it stands", x.of(1, 0) * 100 + x.of(1, 1), 110);
        end();
    }
}
