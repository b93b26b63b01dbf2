/** A test for each sentence of the document's promises 1 to 46 and 50 to 52 that names a boundary case. */
public final class CallsBoundaryTest extends Checks {
    private static final int[] FAR = {Integer.MIN_VALUE, Integer.MIN_VALUE + 1, -65536, -256, -2, -1, 256, 65536,
        Integer.MAX_VALUE - 1, Integer.MAX_VALUE};

    private static void about(int promise, String sentence) {
        about("promise " + promise + ": " + sentence);
    }

    // ---- promise 1

    private static void newObject() {
        about(1, "Creates a workshop without stock and orders.");
        WireCutter x = fresh();
        due("a[] 0=0=0+0+.. b[] 0=0=0+0+.. c[] 0=0=0+0+.. d[] 0=0=0+0+.. e[] 0=0=0+0+.. f[] 0=0=0+0+.. k1l5b filled 0",
            pictureOf(x));
        due(0, x.spools());
        due(0, x.orders());
        due(0L, x.totalDelivered());
        due(true, x.isConsistent());
        due(false, x.hasSpool(0));
        due(false, x.isOpen(0));
        refused(NO_ELEMENT, () -> x.spoolByLength(0));
        refused(NO_ELEMENT, () -> x.orderAt(0));
        refused(NO_ELEMENT, () -> x.scrap('a', 0));
        refused(NO_ELEMENT, () -> x.bestLoad(0));
        refused(NO_ELEMENT, () -> x.bestLoadByRecursion(0));
        refused(NO_ELEMENT, () -> x.writeSpool(0));
        refused(ARITHMETIC, () -> x.meanRemaining());
        refused(ARITHMETIC, () -> x.lossRate());
        refused(INDEX, () -> x.charAt(0));
        refused(NO_ELEMENT, () -> x.errorPosition());
        refused(NO_ELEMENT, () -> x.failedCommand());
        refused(STATE, () -> x.undo());
        refused(STATE, () -> x.restore());
        due(0, x.fillDue(99));
        due(0, x.writeOrders());
        due(1, x.type('a'));
        WireCutter other = fresh();
        other.addSpool('a', 10);
        due(0, x.spools());
    }

    // ---- promises 2 to 4

    private static void lengthsOfSpools() {
        about(2, "the length, 10 to 999");
        for (int length = -10; length <= 1100; length++) {
            int value = length;
            due(value >= 10 && value <= 999 ? 0 : ARGUMENT.getName(), outcome(() -> fresh().addSpool('f', value)));
        }
        for (int far : FAR) {
            due(far == 256 ? 0 : ARGUMENT.getName(), outcome(() -> fresh().addSpool('a', far)));
        }
        refused(ARGUMENT, () -> fresh().addSpool('a', 65536 + 100));
        WireCutter x = fresh();
        addSpools(x, 'a', 10, 999);
        due("0a:10/0", spoolLine(x, 0));
        due("1a:999/0", spoolLine(x, 1));
        due(1009, x.wound('a'));
    }

    private static void retiredSpools() {
        about(3, "its remaining length becomes a scrap, or is thrown away if there are 40 scraps");
        WireCutter x = fresh();
        addSpools(x, 'a', 999, 10, 20);
        x.addOrder('a', 4, 1);
        x.fill(0);
        due(5, x.retire(1));
        due(20, x.retire(2));
        due(999, x.retire(0));
        due("5 20 999", scrapList(x, 'a'));
        due(0, x.spools());
        addScraps(x, 'b', 10, 36);
        due(10, x.retire(x.addSpool('c', 10)));
        due(1, x.scraps('c'));
        due(11, x.retire(x.addSpool('c', 11)));
        due("10", scrapList(x, 'c'));
        due(21, x.woundByParts('c'));
        due(21, x.wound('c'));
        due(0, x.losses('c') + x.delivered('c'));
        // What would be a scrap of another material is thrown away too.
        due(12, x.retire(x.addSpool('d', 12)));
        due(0, x.scraps('d'));
        about(3, "NoSuchElementException if there is no such spool");
        refused(NO_ELEMENT, () -> x.retire(0));
        refused(NO_ELEMENT, () -> x.retire(x.addSpool('e', 10) + 1));
        for (int far : FAR) {
            refused(NO_ELEMENT, () -> x.retire(far));
        }
    }

    private static void thrownScraps() {
        about(4, "Returns the sum of the lengths of these scraps, 0 if there are none.");
        WireCutter x = fresh();
        due(0, x.throwScraps('a'));
        addScraps(x, 'a', 999, 20);
        addScraps(x, 'b', 10, 20);
        due(0, x.throwScraps('c'));
        due(20 * 999, x.throwScraps('a'));
        due(0, x.throwScraps('a'));
        due(20, x.scraps('b'));
        due(20 * 999, x.woundByParts('a'));
        addScraps(x, 'f', 30, 20);
        addScrap(x, 'e', 30);
        due(20, x.scraps('f'));
        due(0, x.scraps('e'));
        due(200, x.throwScraps('b'));
        addScraps(x, 'e', 30, 20);
        due(600, x.throwScraps('e'));
        due(true, x.isConsistent());
    }

    // ---- promises 5 to 8

    private static void positionsOfCancelled() {
        about(6, "Returns its position in the queue before, counted from 0.");
        WireCutter x = fresh();
        due(0, x.cancel(x.addOrder('a', 1, 1)));
        for (int i = 1; i <= 12; i++) {
            x.addOrder('a', i, 13 - i);
        }
        due(11, x.cancel(1));
        due(0, x.cancel(12));
        due(5, x.cancel(6));
        due(8, x.cancel(2));
        due(8, x.orders());
        about(6, "NoSuchElementException if there is no such open order");
        for (int order : new int[] {-1, 0, 1, 2, 6, 12, 13, Integer.MIN_VALUE, Integer.MAX_VALUE}) {
            refused(NO_ELEMENT, () -> x.cancel(order));
        }
        due(8, x.orders());
    }

    private static void filledFrom() {
        about(7, "Returns the number of the spool from which the piece was cut, -1 if it was cut from a scrap.");
        WireCutter x = fresh();
        addSpools(x, 'a', 200, 200);
        addScrap(x, 'a', 50);
        addOrders(x, 'a', 51, 50, 200, 1, 200);
        due(0, x.fill(0));
        due(-1, x.fill(1));
        due(1, x.fill(2));
        due(0, x.fill(3));
        refused(UNSUPPORTED, () -> x.fill(4));
        about(7, "NoSuchElementException if there is no such open order");
        for (int order : new int[] {-1, 0, 1, 2, 3, 5, Integer.MIN_VALUE, Integer.MAX_VALUE}) {
            refused(NO_ELEMENT, () -> x.fill(order));
        }
        due("4a200@1", orderLine(x));
        due(4, x.filled());
    }

    private static void dueDays() {
        about(8, "Fills the open orders whose due day is not greater than a day");
        WireCutter x = fresh();
        x.addSpool('a', 999);
        for (int day : new int[] {1, 2, 50, 51, 98, 99}) {
            x.addOrder('a', 10, day);
        }
        due(1, x.fillDue(1));
        due(0, x.fillDue(1));
        due(1, x.fillDue(2));
        due(0, x.fillDue(49));
        due(1, x.fillDue(50));
        due("3a10@51 4a10@98 5a10@99", orderLine(x));
        due(2, x.fillDue(98));
        due("5a10@99", orderLine(x));
        due(1, x.fillDue(99));
        due(0, x.fillDue(99));
        due(6, x.filled());
        about(8, "IllegalArgumentException if the day is out of range");
        for (int day = -300; day <= 300; day++) {
            int value = day;
            due(value >= 1 && value <= 99 ? 0 : ARGUMENT.getName(), outcome(() -> fresh().fillDue(value)));
        }
        for (int far : FAR) {
            refused(ARGUMENT, () -> fresh().fillDue(far));
        }
    }

    private static void turns() {
        about(8, "one after the other in the order of the queue;"
            + " those that cannot be filled when it is their turn stay open");
        WireCutter x = fresh();
        addSpools(x, 'a', 100);
        x.addOrder('a', 60, 5);
        x.addOrder('a', 50, 3);
        x.addOrder('a', 49, 4);
        x.addOrder('a', 48, 9);
        x.addOrder('b', 1, 1);
        // 50 leaves 49, which is all that 49 needs; nothing is left for the other ones.
        due(2, x.fillDue(9));
        due("4b1@1 0a60@5 3a48@9", orderLine(x));
        due(0, x.spools() + x.scraps('a'));
        due(1, x.losses('a'));
        WireCutter y = fresh();
        addSpools(y, 'a', 55);
        // The rest of the first turn is a scrap from which the next turn is filled.
        y.addOrder('a', 4, 2);
        y.addOrder('a', 50, 1);
        y.addOrder('a', 4, 3);
        due(2, y.fillDue(99));
        due("2a4@3", orderLine(y));
        due(2, y.filled());
        due(54, y.delivered('a'));
        due(true, y.isConsistent());
    }

    private static void twelveTurns() {
        WireCutter x = fresh();
        x.setKerf(0);
        x.addSpool('a', 12);
        x.setScrapLimit(1);
        for (int i = 0; i < 12; i++) {
            x.addOrder('a', 1, 99);
        }
        due(12, x.fillDue(99));
        due(0, x.orders());
        due(0, x.spools());
        due(12, x.filled());
        WireCutter y = fresh();
        for (int i = 0; i < 12; i++) {
            y.addOrder('a', 1, 99);
        }
        due(0, y.fillDue(99));
        due(12, y.orders());
        // Each piece takes 2 with its kerf, of the spool and then of the scrap that it becomes.
        y.addSpool('a', 10);
        due(5, y.fillDue(99));
        due(7, y.orders());
    }

    // ---- promises 9 to 14

    private static void previousSettings() {
        about(9, "Returns the previous kerf.");
        WireCutter x = fresh();
        due(1, x.setKerf(0));
        due(0, x.setKerf(5));
        refused(ARGUMENT, () -> x.setKerf(6));
        refused(ARGUMENT, () -> x.setKerf(-1));
        due(5, x.kerf());
        due(5, x.setKerf(5));
        due(5, x.setKerf(4));
        about(10, "Returns the previous limit.");
        due(5, x.setScrapLimit(1));
        due(1, x.setScrapLimit(50));
        refused(ARGUMENT, () -> x.setScrapLimit(51));
        refused(ARGUMENT, () -> x.setScrapLimit(0));
        due(50, x.scrapLimit());
        due(50, x.setScrapLimit(50));
        due(50, x.setScrapLimit(49));
        about(11, "Returns the previous rule.");
        due('b', x.setRule('w'));
        due('w', x.setRule('f'));
        refused(ARGUMENT, () -> x.setRule('a'));
        due('f', x.rule());
        due('f', x.setRule('f'));
        due('f', x.setRule('b'));
        due("4 49 b", x.kerf() + " " + x.scrapLimit() + " " + x.rule());
    }

    private static void limitAboveRemaining() {
        about(10, "No spool becomes a scrap before its next cut by that.");
        WireCutter x = fresh();
        addSpools(x, 'a', 10, 60, 200);
        x.setScrapLimit(50);
        due(3, x.spools());
        due("0a:10/0", spoolLine(x, 0));
        due(0, x.scraps('a'));
        addOrders(x, 'a', 150);
        due(2, x.fill(0));
        due(3, x.spools() + x.scraps('a'));
        due("0a:10/0", spoolLine(x, 0));
        addOrders(x, 'a', 1);
        due(-1, x.fill(1));
        x.throwScraps('a');
        addOrders(x, 'a', 1);
        due(0, x.fill(2));
        due(false, x.hasSpool(0));
        due("8", scrapList(x, 'a'));
        due(60, x.remaining(1));
    }

    // ---- promises 15 to 22

    private static void isNoSpool(WireCutter x, int spool) {
        about(16, "Returns true if there is such a spool.");
        due(false, x.hasSpool(spool));
        noSpool(3, () -> x.retire(spool));
        noSpool(17, () -> x.material(spool));
        noSpool(18, () -> x.remaining(spool));
        noSpool(19, () -> x.cuts(spool));
        noSpool(23, () -> x.bestLoad(spool));
        noSpool(24, () -> x.bestLoadByRecursion(spool));
        noSpool(43, () -> x.writeSpool(spool));
    }

    private static void noSpool(int promise, Call call) {
        about(promise, "NoSuchElementException if there is no such spool");
        refused(NO_ELEMENT, call);
    }

    private static void noSuchSpool() {
        WireCutter x = fresh();
        isNoSpool(x, 0);
        addSpools(x, 'a', 30, 40, 50, 20);
        x.retire(1);
        addOrders(x, 'a', 50);
        x.fill(0);
        isNoSpool(x, -1);
        isNoSpool(x, 1);
        isNoSpool(x, 2);
        isNoSpool(x, 4);
        for (int far : FAR) {
            isNoSpool(x, far);
        }
        about(16, "Returns true if there is such a spool.");
        due(true, x.hasSpool(0) && x.hasSpool(3));
        about(15, "Returns the number of spools.");
        due(2, x.spools());
        due('a', x.material(3));
        due(20, x.remaining(3));
        due(0, x.cuts(3));
    }

    private static void countsOfCuts() {
        about(19, "Returns the number of pieces that were cut from a spool.");
        WireCutter x = fresh();
        x.setKerf(0);
        x.setScrapLimit(1);
        addSpools(x, 'a', 30, 30);
        addScrap(x, 'a', 10);
        due(0, x.cuts(0));
        for (int i = 0; i < 29; i++) {
            addOrders(x, 'a', i == 0 ? 10 : 1);
            due(i == 0 ? -1 : 0, x.fill(i));
            due(i, x.cuts(0));
        }
        due(0, x.cuts(1));
        due(2, x.remaining(0));
        x.undo();
        due(27, x.cuts(0));
    }

    private static void ranksOfSpools() {
        about(20, "sorted by their remaining lengths in descending order, then by their materials"
            + " in the order of the alphabet, then by their numbers in ascending order");
        WireCutter x = fresh();
        refused(NO_ELEMENT, () -> x.spoolByLength(0));
        x.addSpool('f', 30);
        due(0, x.spoolByLength(0));
        refused(NO_ELEMENT, () -> x.spoolByLength(1));
        x.addSpool('a', 30);
        x.addSpool('f', 31);
        x.addSpool('a', 29);
        x.addSpool('b', 30);
        x.addSpool('a', 30);
        x.addSpool('b', 30);
        x.addSpool('f', 999);
        x.addSpool('a', 10);
        x.addSpool('f', 30);
        int[] want = {7, 2, 1, 5, 4, 6, 0, 9, 3, 8};
        for (int i = 0; i < want.length; i++) {
            due(want[i], x.spoolByLength(i));
        }
        refused(NO_ELEMENT, () -> x.spoolByLength(10));
        for (int far : FAR) {
            refused(NO_ELEMENT, () -> x.spoolByLength(far));
        }
        x.retire(7);
        due(2, x.spoolByLength(0));
        due(8, x.spoolByLength(8));
        refused(NO_ELEMENT, () -> x.spoolByLength(9));
        x.throwScraps('f');
        x.addOrder('f', 25, 1);
        x.setRule('w');
        due(2, x.fill(0));
        due(1, x.spoolByLength(0));
        due(2, x.spoolByLength(8));
    }

    private static void ranksOfScraps() {
        about(22, "sorted by their lengths in ascending order, counted from 0 / if there is no such rank");
        WireCutter x = fresh();
        refused(NO_ELEMENT, () -> x.scrap('a', 0));
        for (int length : new int[] {50, 10, 999, 10, 49, 51, 50}) {
            addScrap(x, 'a', length);
        }
        addScrap(x, 'b', 11);
        due("10 10 49 50 50 51 999", scrapList(x, 'a'));
        due(7, x.scraps('a'));
        due(11, x.scrap('b', 0));
        refused(NO_ELEMENT, () -> x.scrap('a', 7));
        refused(NO_ELEMENT, () -> x.scrap('b', 1));
        refused(NO_ELEMENT, () -> x.scrap('c', 0));
        for (int far : FAR) {
            refused(NO_ELEMENT, () -> x.scrap('a', far));
            refused(ARGUMENT, () -> x.scrap('g', far));
        }
        WireCutter y = fresh();
        for (int i = 0; i < 40; i++) {
            addScrap(y, 'f', 10 + (7 * i) % 40);
        }
        due(40, y.scraps('f'));
        for (int i = 0; i < 40; i++) {
            due(10 + i, y.scrap('f', i));
        }
        refused(NO_ELEMENT, () -> y.scrap('f', 40));
    }

    // ---- promises 23 and 24

    private static WireCutter withPieces(int kerf, int length, int... pieces) {
        WireCutter x = fresh();
        x.setKerf(kerf);
        x.addSpool('c', length);
        addOrders(x, 'c', pieces);
        if (pieces.length < 12) {
            x.addOrder('d', 1, 1);
        }
        return x;
    }

    private static void load(int want, int kerf, int length, int... pieces) {
        // An object for each way, so that none can lean on what the other one did.
        about(23, want == 0 ? "0 if no order fits" : "by a table of lengths");
        due(want, withPieces(kerf, length, pieces).bestLoad(0));
        about(24, want == 0 ? "0 if no order fits" : "by a recursion that takes or leaves one order after the other");
        due(want, withPieces(kerf, length, pieces).bestLoadByRecursion(0));
        about(42, "both ways of computing the best load agree for all spools");
        due(true, withPieces(kerf, length, pieces).isConsistent());
    }

    private static void loads() {
        // No order, or none that fits.
        load(0, 1, 10);
        load(0, 0, 10, 11, 200);
        load(0, 5, 10, 11);
        // One piece needs no kerf.
        load(10, 0, 10, 10);
        load(10, 1, 10, 10);
        load(10, 5, 10, 10, 11);
        load(1, 5, 10, 1);
        // Two pieces need one kerf.
        load(20, 5, 25, 10, 10);
        load(10, 5, 24, 10, 10);
        load(20, 0, 20, 10, 10);
        load(10, 0, 19, 10, 10);
        load(13, 5, 13, 4, 4, 13);
        // Three pieces need two.
        load(30, 5, 40, 10, 10, 10);
        load(20, 5, 39, 10, 10, 10);
        load(24, 1, 26, 8, 8, 8);
        load(23, 1, 25, 8, 8, 8, 15);
        // The greatest piece is not always in the greatest sum.
        load(4, 5, 10, 11, 4);
        load(10, 1, 10, 3, 10);
        load(10, 0, 10, 1, 10);
        load(11, 0, 11, 5, 4, 7);
        load(18, 1, 19, 10, 9, 9);
        load(20, 1, 20, 12, 9, 9, 20);
        load(200, 5, 203, 200, 100, 99);
        load(200, 5, 205, 200, 101, 100);
        load(201, 5, 206, 200, 101, 100);
    }

    private static void loadsOfTwelve() {
        load(996, 0, 996, 83, 83, 83, 83, 83, 83, 83, 83, 83, 83, 83, 83);
        load(913, 0, 995, 83, 83, 83, 83, 83, 83, 83, 83, 83, 83, 83, 83);
        load(988, 1, 999, 83, 83, 83, 83, 83, 83, 83, 83, 83, 83, 83, 75);
        load(913, 1, 998, 83, 83, 83, 83, 83, 83, 83, 83, 83, 83, 83, 75);
        load(944, 5, 999, 79, 79, 79, 79, 79, 79, 79, 79, 79, 79, 79, 75);
        load(869, 5, 998, 79, 79, 79, 79, 79, 79, 79, 79, 79, 79, 79, 75);
        load(800, 0, 999, 200, 200, 200, 200, 200, 200, 200, 200, 200, 200, 200, 200);
        load(999, 0, 999, 200, 200, 200, 200, 199, 200, 200, 200, 200, 200, 200, 200);
        load(12, 5, 999, 1, 1, 1, 1, 1, 1, 1, 1, 1, 1, 1, 1);
        load(2, 5, 11, 1, 1, 1, 1, 1, 1, 1, 1, 1, 1, 1, 1);
    }

    private static void loadsOfOpenOrders() {
        about(23, "the greatest sum of the lengths of open orders of the material of a spool");
        WireCutter x = fresh();
        addSpools(x, 'a', 30);
        addSpools(x, 'b', 99);
        addScrap(x, 'b', 40);
        addOrders(x, 'b', 30, 29, 28, 20);
        due(0, x.bestLoad(0) + x.bestLoadByRecursion(0));
        due(87, x.bestLoad(1));
        due(87, x.bestLoadByRecursion(1));
        x.cancel(2);
        due(79, x.bestLoad(1));
        due(79, x.bestLoadByRecursion(1));
        due(-1, x.fill(0));
        due(49, x.bestLoad(1));
        due(49, x.bestLoadByRecursion(1));
        due(1, x.fill(1));
        due(20, x.bestLoad(1));
        due(20, x.bestLoadByRecursion(1));
        x.undo();
        due(49, x.bestLoad(1));
        due(49, x.bestLoadByRecursion(1));
    }

    // ---- promises 25 to 33

    private static void positionsOfQueue() {
        about(30, "the position, counted from 0 / if there is no such position");
        WireCutter x = fresh();
        refused(NO_ELEMENT, () -> x.orderAt(0));
        for (int i = 0; i < 12; i++) {
            due(i, x.orders());
            x.addOrder('a', 1, 99 - i);
            due(i, x.orderAt(0));
            due(0, x.orderAt(i));
            int behind = i + 1;
            refused(NO_ELEMENT, () -> x.orderAt(behind));
        }
        refused(NO_ELEMENT, () -> x.orderAt(-1));
        for (int far : FAR) {
            refused(NO_ELEMENT, () -> x.orderAt(far));
        }
        x.cancel(0);
        due(1, x.orderAt(10));
        refused(NO_ELEMENT, () -> x.orderAt(11));
    }

    private static void isNoOrder(WireCutter x, int order) {
        about(26, "Returns true if there is such an open order.");
        due(false, x.isOpen(order));
        noOrder(6, () -> x.cancel(order));
        noOrder(7, () -> x.fill(order));
        noOrder(27, () -> x.orderMaterial(order));
        noOrder(28, () -> x.orderLength(order));
        noOrder(29, () -> x.due(order));
        noOrder(31, () -> x.canFill(order));
        noOrder(32, () -> x.chosenScrap(order));
        noOrder(33, () -> x.chosenSpool(order));
    }

    private static void noOrder(int promise, Call call) {
        about(promise, "NoSuchElementException if there is no such open order");
        refused(NO_ELEMENT, call);
    }

    private static void numbersOfOrders() {
        WireCutter x = fresh();
        isNoOrder(x, 0);
        x.addOrder('a', 1, 1);
        x.addOrder('f', 200, 99);
        for (int far : FAR) {
            isNoOrder(x, far);
        }
        isNoOrder(x, 2);
        about(26, "Returns true if there is such an open order.");
        due(true, x.isOpen(0) && x.isOpen(1));
        due("a1@1", "" + x.orderMaterial(0) + x.orderLength(0) + "@" + x.due(0));
        due("f200@99", "" + x.orderMaterial(1) + x.orderLength(1) + "@" + x.due(1));
    }

    private static void sources() {
        about(32, "NoSuchElementException if there is no such open order, or its piece would not be cut from a scrap");
        WireCutter x = fresh();
        addScrap(x, 'a', 20);
        addSpools(x, 'a', 40);
        addOrders(x, 'a', 20, 21, 40, 41);
        due("true true true false", x.canFill(0) + " " + x.canFill(1) + " " + x.canFill(2) + " " + x.canFill(3));
        due(20, x.chosenScrap(0));
        refused(NO_ELEMENT, () -> x.chosenScrap(1));
        refused(NO_ELEMENT, () -> x.chosenScrap(3));
        refused(NO_ELEMENT, () -> x.chosenScrap(4));
        about(33, "NoSuchElementException if there is no such open order, or its piece would not be cut from a spool");
        refused(NO_ELEMENT, () -> x.chosenSpool(0));
        due(1, x.chosenSpool(1));
        due(1, x.chosenSpool(2));
        refused(NO_ELEMENT, () -> x.chosenSpool(3));
        refused(NO_ELEMENT, () -> x.chosenSpool(4));
        x.throwScraps('a');
        refused(NO_ELEMENT, () -> x.chosenScrap(0));
        due(1, x.chosenSpool(0));
        x.retire(1);
        due(40, x.chosenScrap(2));
        refused(NO_ELEMENT, () -> x.chosenSpool(2));
        due(false, x.canFill(3));
        x.throwScraps('a');
        due(false, x.canFill(0));
    }

    // ---- promises 34 to 42

    private static void accounts() {
        about(35, "the sum of the remaining lengths of spools, the lengths of scraps, and the lengths of all pieces"
            + " that were cut, of all losses of cuts, and of everything that was thrown away");
        WireCutter x = fresh();
        x.setKerf(5);
        addSpools(x, 'a', 100, 57);
        addSpools(x, 'f', 999);
        addScrap(x, 'a', 33);
        addScrap(x, 'a', 44);
        addOrders(x, 'a', 50, 31, 40);
        due(3, x.fillDue(1));
        // 57 leaves a scrap of 2; the scraps of 33 and 44 are used up, with losses less than the kerf.
        due("2", scrapList(x, 'a'));
        due(100, x.remaining(0));
        due(121, x.delivered('a'));
        due(11, x.losses('a'));
        due(234, x.wound('a'));
        due(234, x.woundByParts('a'));
        due(2, x.throwScraps('a'));
        due(234, x.woundByParts('a'));
        due(100, x.retire(0));
        due(234, x.woundByParts('a'));
        due(100, x.throwScraps('a'));
        due(234, x.woundByParts('a'));
        due(234, x.wound('a'));
        due(999, x.wound('f'));
        due(999, x.woundByParts('f'));
        due(0, x.delivered('f') + x.losses('f') + x.wound('b') + x.woundByParts('e'));
        due(true, x.isConsistent());
    }

    private static void countOfFilled() {
        about(38, "Returns the number of orders that were filled so far.");
        WireCutter x = fresh();
        due(0, x.filled());
        addSpools(x, 'a', 500);
        addScrap(x, 'b', 20);
        addOrders(x, 'a', 10, 10, 10, 10, 10);
        addOrders(x, 'b', 20, 20, 20);
        x.cancel(0);
        due(0, x.filled());
        x.fill(1);
        due(1, x.filled());
        x.fill(5);
        due(2, x.filled());
        refused(UNSUPPORTED, () -> x.fill(6));
        failsIn(x, 1, "fill 2;fill 6");
        due(2, x.filled());
        runText(x, "fill 2");
        due(3, x.filled());
        due(2, x.fillDue(99));
        due(5, x.filled());
        about(39, "Returns the sum of the lengths of all pieces of all materials that were cut so far.");
        due(60L, x.totalDelivered());
        due(40, x.delivered('a'));
        due(20, x.delivered('b'));
        x.undo();
        due(40L, x.totalDelivered());
        due(3, x.filled());
        due(0L, fresh().totalDelivered());
    }

    private static void meansOfRemaining() {
        about(40, "ArithmeticException if there are no spools");
        WireCutter x = fresh();
        refused(ARITHMETIC, () -> x.meanRemaining());
        addSpools(x, 'a', 10);
        due(10.0, x.meanRemaining());
        addSpools(x, 'f', 999);
        due(504.5, x.meanRemaining());
        addSpools(x, 'c', 10);
        due((double) 1019 / (double) 3, x.meanRemaining());
        x.retire(1);
        due(10.0, x.meanRemaining());
        x.retire(0);
        x.retire(2);
        refused(ARITHMETIC, () -> x.meanRemaining());
        x.undo();
        due(10.0, x.meanRemaining());
        WireCutter y = fresh();
        for (int i = 0; i < 10; i++) {
            y.addSpool('a', i == 0 ? 10 : 999);
        }
        due((double) 9001 / (double) 10, y.meanRemaining());
    }

    private static void rateOfLosses() {
        about(41, "ArithmeticException if no piece was cut");
        WireCutter x = fresh();
        refused(ARITHMETIC, () -> x.lossRate());
        addSpools(x, 'a', 100);
        addScrap(x, 'b', 10);
        addOrders(x, 'a', 1, 50);
        addOrders(x, 'b', 10, 10);
        x.cancel(3);
        refused(ARITHMETIC, () -> x.lossRate());
        due(-1, x.fill(2));
        due(0.0f, x.lossRate());
        x.undo();
        refused(ARITHMETIC, () -> x.lossRate());
        x.setKerf(5);
        x.fill(0);
        due(5.0f, x.lossRate());
        x.fill(1);
        due((float) 10 / (float) 51, x.lossRate());
    }

    private static void consistency() {
        about(42, "Returns true if the invariants hold.");
        WireCutter x = fresh();
        due(true, x.isConsistent());
        x.setKerf(5);
        for (int i = 0; i < 10; i++) {
            x.addSpool((char) ('a' + i % 2), i == 0 ? 10 : 999 - i);
        }
        for (int i = 0; i < 12; i++) {
            x.addOrder((char) ('a' + i % 2), 200 - 13 * i, 99 - i / 2);
        }
        due(true, x.isConsistent());
        due(12, x.fillDue(99));
        due(true, x.isConsistent());
        x.undo();
        due(true, x.isConsistent());
    }

    // ---- promises 43 to 45

    private static void spoolLines() {
        about(43, "its number, its material, \":\", its remaining length, \"/\", and the number of pieces that were cut"
            + " from it; for example \"3a:120/4\"");
        WireCutter x = fresh();
        addSpools(x, 'b', 10, 999, 10);
        addSpools(x, 'a', 128);
        addOrders(x, 'a', 1, 1, 1, 1);
        due(4, x.fillDue(1));
        due(8, x.writeSpool(3));
        due("3a:120/4", lineOf(x, 8));
        due("0b:10/0", spoolLine(x, 0));
        due("1b:999/0", spoolLine(x, 1));
        refused(NO_ELEMENT, () -> x.writeSpool(4));
        due("1b:999/0", lineOf(x, 8));
        x.retire(1);
        due("1b:999/0", lineOf(x, 8));
        refused(NO_ELEMENT, () -> x.writeSpool(1));
        for (int i = 4; i < 100; i++) {
            x.retire(x.addSpool('c', 10));
        }
        x.addSpool('f', 999);
        due("100f:999/0", spoolLine(x, 100));
        due("2b:10/0", spoolLine(x, 2));
    }

    private static void orderLines() {
        about(44, "for example \"2a30@5 0c7@12\". The line is empty if there are no open orders.");
        WireCutter x = fresh();
        due(0, x.writeOrders());
        refused(INDEX, () -> x.charAt(0));
        x.addOrder('c', 7, 12);
        due("0c7@12", orderLine(x));
        x.cancel(x.addOrder('c', 8, 12));
        x.addOrder('a', 30, 5);
        due(13, x.writeOrders());
        due("2a30@5 0c7@12", lineOf(x, 13));
        x.cancel(0);
        due("2a30@5", orderLine(x));
        x.cancel(2);
        due("2a30@5", lineOf(x, 6));
        due(0, x.writeOrders());
        refused(INDEX, () -> x.charAt(0));
        WireCutter y = fresh();
        for (int i = 0; i < 12; i++) {
            y.addOrder('f', 200, 99);
        }
        due(109, y.writeOrders());
        due("0f200@99 1f200@99 2f200@99 3f200@99 4f200@99 5f200@99 6f200@99 7f200@99 8f200@99 9f200@99"
            + " 10f200@99 11f200@99", lineOf(y, 109));
    }

    private static void indexes() {
        about(45, "Returns a character of the output line, which is initially empty."
            + " / IndexOutOfBoundsException if the index is negative or not less than the length");
        WireCutter x = fresh();
        refused(INDEX, () -> x.charAt(0));
        for (int far : FAR) {
            refused(INDEX, () -> x.charAt(far));
        }
        addSpools(x, 'a', 99);
        refused(INDEX, () -> x.charAt(0));
        due(7, x.writeSpool(0));
        due('0', x.charAt(0));
        due('0', x.charAt(6));
        refused(INDEX, () -> x.charAt(7));
        for (int far : FAR) {
            refused(INDEX, () -> x.charAt(far));
        }
        x.addOrder('b', 1, 1);
        due(5, x.writeOrders());
        due('0', x.charAt(0));
        due('1', x.charAt(4));
        // The old line was longer.
        refused(INDEX, () -> x.charAt(5));
        refused(INDEX, () -> x.charAt(6));
    }

    // ---- promises 50 to 52

    private static void latestNotUndone() {
        about(50, "Undoes the latest change that was not undone.");
        WireCutter x = fresh();
        x.setKerf(2);
        x.setKerf(3);
        x.setKerf(4);
        due(2, x.undo());
        due(3, x.kerf());
        x.setKerf(5);
        due(2, x.undo());
        due(3, x.kerf());
        due(1, x.undo());
        due(2, x.kerf());
        due(0, x.undo());
        due(1, x.kerf());
        refused(STATE, () -> x.undo());
        x.setKerf(0);
        due(0, x.undo());
        due(1, x.kerf());
        about(50, "IllegalStateException if no change can be undone");
        refused(STATE, () -> x.undo());
        due(1, x.kerf());
    }

    private static void undoneRing() {
        about(50, "Returns the number of changes that can still be undone.");
        WireCutter x = fresh();
        for (int i = 0; i < 30; i++) {
            x.setScrapLimit(i % 50 + 1);
            int depth = Math.min(i + 1, 8);
            due(depth - 1, x.undo());
            due(i == 0 ? 5 : i, x.scrapLimit());
            x.setScrapLimit(i % 50 + 1);
        }
        for (int i = 7; i >= 0; i--) {
            due(i, x.undo());
            due(22 + i, x.scrapLimit());
        }
        refused(STATE, () -> x.undo());
        for (int i = 0; i < 8; i++) {
            x.setKerf(i % 6);
        }
        due(7, x.undo());
    }

    private static void savedStates() {
        about(51, "Saves the state in place of the state that was saved before. / Returns the number of spools.");
        WireCutter x = fresh();
        due(0, x.save());
        due(0, x.restore());
        for (int i = 0; i < 10; i++) {
            x.addSpool('a', 10 + i);
        }
        due(10, x.save());
        x.setKerf(4);
        x.retire(0);
        due(10, x.restore());
        due(1, x.kerf());
        x.setKerf(3);
        x.retire(9);
        due(9, x.save());
        x.setKerf(2);
        due(9, x.restore());
        due(3, x.kerf());
        due(false, x.hasSpool(9));
    }

    private static void restoredStates() {
        about(52, "Restores the saved state, which stays saved. Afterwards no change can be undone.");
        WireCutter x = fresh();
        refused(STATE, () -> x.restore());
        x.setKerf(2);
        refused(STATE, () -> x.restore());
        addSpools(x, 'a', 100);
        x.save();
        String saved = pictureOf(x);
        for (int i = 0; i < 2; i++) {
            addSpools(x, 'b', 50);
            addOrders(x, 'a', 20, 30);
            x.fillDue(9);
            x.retire(1);
            x.setRule('w');
            due(false, saved.equals(pictureOf(x)));
            due(1, x.restore());
            due(saved, pictureOf(x));
            refused(STATE, () -> x.undo());
            due(saved, pictureOf(x));
        }
        x.setKerf(5);
        due(0, x.undo());
        due(saved, pictureOf(x));
        // What was undone or fails does not touch what is saved.
        refused(ARGUMENT, () -> x.setKerf(6));
        due(1, x.restore());
        due(saved, pictureOf(x));
        due(true, x.isConsistent());
    }

    private static void changesBeforeSave() {
        about(51, "Saves the state");
        WireCutter x = fresh();
        for (int i = 0; i < 9; i++) {
            x.setScrapLimit(20 + i);
        }
        due(0, x.save());
        due(7, x.undo());
        due(27, x.scrapLimit());
        due(0, x.restore());
        due(28, x.scrapLimit());
        refused(STATE, () -> x.undo());
    }

    public static void main(String[] args) {
        newObject();
        lengthsOfSpools();
        retiredSpools();
        thrownScraps();
        positionsOfCancelled();
        filledFrom();
        dueDays();
        turns();
        twelveTurns();
        previousSettings();
        limitAboveRemaining();
        noSuchSpool();
        countsOfCuts();
        ranksOfSpools();
        ranksOfScraps();
        loads();
        loadsOfTwelve();
        loadsOfOpenOrders();
        positionsOfQueue();
        numbersOfOrders();
        sources();
        accounts();
        countOfFilled();
        meansOfRemaining();
        rateOfLosses();
        consistency();
        spoolLines();
        orderLines();
        indexes();
        latestNotUndone();
        undoneRing();
        savedStates();
        restoredStates();
        changesBeforeSave();
        end("the boundary cases of the promises hold");
    }
}
