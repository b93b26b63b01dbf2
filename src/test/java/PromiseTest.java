/** A test for each promise of the document, under the number of the promise. */
public final class PromiseTest extends Checks {
    private static final char[] NO_MATERIALS = {'g', '`', 'A', 'F', '0', ' ', (char) 0, (char) 97 + 256, (char) 65535};

    private static WireCutter fresh(int number) {
        promise(number);
        return fresh();
    }

    private static void promise(int number) {
        about("promise " + number);
    }

    /** A piece of b is cut from a spool, and a piece of a from a scrap. */
    private static WireCutter busy(int number) {
        WireCutter x = fresh(number);
        x.addSpool('a', 100);
        x.addSpool('b', 60);
        addScrap(x, 'a', 30);
        x.addOrder('b', 20, 7);
        x.addOrder('a', 10, 3);
        x.addOrder('b', 5, 7);
        x.addOrder('f', 200, 99);
        x.fill(0);
        x.fill(1);
        return x;
    }

    private static void promise1() {
        WireCutter x = fresh(1);
        due(0, x.spools());
        due(0, x.orders());
        due(1, x.kerf());
        due(5, x.scrapLimit());
        due('b', x.rule());
        due(0, x.filled());
        due(0L, x.totalDelivered());
        due(0, x.writeOrders());
        for (char m = 'a'; m <= 'f'; m++) {
            due(0, x.scraps(m));
            due(0, x.wound(m));
            due(0, x.woundByParts(m));
            due(0, x.delivered(m));
            due(0, x.losses(m));
        }
        due(true, x.isConsistent());
        refused(STATE, () -> x.undo());
        refused(STATE, () -> x.restore());
        refused(NO_ELEMENT, () -> x.errorPosition());
        refused(NO_ELEMENT, () -> x.failedCommand());
    }

    private static void promise2() {
        WireCutter x = fresh(2);
        due(0, x.addSpool('a', 10));
        due(1, x.addSpool('f', 999));
        refused(ARGUMENT, () -> x.addSpool('a', 9));
        refused(ARGUMENT, () -> x.addSpool('a', 1000));
        refused(ARGUMENT, () -> x.addSpool('a', Integer.MIN_VALUE));
        for (char c : NO_MATERIALS) {
            refused(ARGUMENT, () -> x.addSpool(c, 10));
        }
        x.retire(1);
        due(2, x.addSpool('c', 11));
        for (int i = 3; i < 11; i++) {
            due(i, x.addSpool('a', 50));
        }
        due(10, x.spools());
        refused(STATE, () -> x.addSpool('a', 50));
        refused(ARGUMENT, () -> x.addSpool('g', 50));
        refused(ARGUMENT, () -> x.addSpool('a', 9));
        x.retire(0);
        due(11, x.addSpool('a', 50));
    }

    private static void promise3() {
        WireCutter x = fresh(3);
        x.addSpool('a', 100);
        x.addSpool('b', 50);
        due(50, x.retire(1));
        due(false, x.hasSpool(1));
        due("50", scrapList(x, 'b'));
        refused(NO_ELEMENT, () -> x.retire(1));
        refused(NO_ELEMENT, () -> x.retire(2));
        refused(NO_ELEMENT, () -> x.retire(-1));
        addScraps(x, 'c', 20, 39);
        due(100, x.retire(0));
        due(0, x.scraps('a'));
        due(39, x.scraps('c'));
        due(100, x.woundByParts('a'));
        due(0, x.losses('a'));
    }

    private static void promise4() {
        WireCutter x = fresh(4);
        addScrap(x, 'a', 30);
        addScrap(x, 'b', 40);
        addScrap(x, 'a', 30);
        due(60, x.throwScraps('a'));
        due(0, x.scraps('a'));
        due(1, x.scraps('b'));
        due(60, x.woundByParts('a'));
        due(0, x.throwScraps('a'));
        due(0, x.throwScraps('f'));
        for (char c : NO_MATERIALS) {
            refused(ARGUMENT, () -> x.throwScraps(c));
        }
        due(1, x.scraps('b'));
    }

    private static void promise5() {
        WireCutter x = fresh(5);
        due(0, x.addOrder('a', 1, 1));
        due(1, x.addOrder('f', 200, 99));
        for (char c : NO_MATERIALS) {
            refused(ARGUMENT, () -> x.addOrder(c, 1, 1));
        }
        refused(ARGUMENT, () -> x.addOrder('a', 0, 1));
        refused(ARGUMENT, () -> x.addOrder('a', 201, 1));
        refused(ARGUMENT, () -> x.addOrder('a', 1, 0));
        refused(ARGUMENT, () -> x.addOrder('a', 1, 100));
        x.cancel(1);
        for (int i = 2; i < 13; i++) {
            due(i, x.addOrder('b', 5, 9));
        }
        due(12, x.orders());
        refused(STATE, () -> x.addOrder('b', 5, 9));
        refused(ARGUMENT, () -> x.addOrder('b', 5, 100));
        refused(ARGUMENT, () -> x.addOrder('g', 5, 9));
        x.cancel(0);
        due(13, x.addOrder('b', 5, 9));
    }

    private static void promise6() {
        WireCutter x = fresh(6);
        x.addOrder('a', 10, 20);
        x.addOrder('a', 11, 10);
        x.addOrder('a', 12, 20);
        x.addOrder('a', 13, 5);
        due(2, x.cancel(0));
        due(false, x.isOpen(0));
        due(3, x.orders());
        due(0, x.cancel(3));
        refused(NO_ELEMENT, () -> x.cancel(3));
        refused(NO_ELEMENT, () -> x.cancel(4));
        refused(NO_ELEMENT, () -> x.cancel(-1));
        due("1a11@10 2a12@20", orderLine(x));
        due(0, x.filled());
    }

    private static void promise7() {
        WireCutter x = fresh(7);
        x.addSpool('a', 50);
        x.addOrder('a', 20, 1);
        x.addOrder('a', 25, 1);
        x.addOrder('b', 20, 1);
        x.addOrder('a', 30, 1);
        due(0, x.fill(0));
        due("0a:29/1", spoolLine(x, 0));
        due(1, x.losses('a'));
        refused(NO_ELEMENT, () -> x.fill(0));
        refused(NO_ELEMENT, () -> x.fill(4));
        refused(NO_ELEMENT, () -> x.fill(-1));
        refused(UNSUPPORTED, () -> x.fill(2));
        refused(UNSUPPORTED, () -> x.fill(3));
        due(true, x.isOpen(3));
        due(0, x.fill(1));
        due(false, x.hasSpool(0));
        due("3", scrapList(x, 'a'));
        due(2, x.filled());
        promise7Scraps();
        promise7Limits();
        promise7FullOfScraps();
    }

    private static void promise7Scraps() {
        WireCutter x = fresh(7);
        addScrap(x, 'a', 40);
        addScrap(x, 'a', 30);
        addScrap(x, 'a', 50);
        x.addSpool('a', 29);
        x.addOrder('a', 30, 1);
        x.addOrder('a', 30, 1);
        x.addOrder('a', 44, 1);
        x.addOrder('a', 29, 1);
        due(-1, x.fill(0));
        due("40 50", scrapList(x, 'a'));
        due(0, x.losses('a'));
        due(-1, x.fill(1));
        due("9 50", scrapList(x, 'a'));
        // What is left of a scrap stays one, even below the scrap limit.
        x.setScrapLimit(50);
        x.setKerf(5);
        due(-1, x.fill(2));
        due("1 9", scrapList(x, 'a'));
        due(6, x.losses('a'));
        due(3, x.fill(3));
        due(0, x.spools());
        due("1 9", scrapList(x, 'a'));
        due(133, x.delivered('a'));
    }

    private static void promise7Limits() {
        WireCutter x = fresh(7);
        x.addSpool('c', 30);
        x.addOrder('c', 24, 1);
        x.fill(0);
        due("0c:5/1", spoolLine(x, 0));
        x.addOrder('c', 1, 1);
        x.fill(1);
        due(0, x.spools());
        due("3", scrapList(x, 'c'));
        x.setKerf(5);
        x.addOrder('c', 1, 1);
        x.fill(2);
        due(0, x.scraps('c'));
        due(4, x.losses('c'));
        due(30, x.woundByParts('c'));
        x.setKerf(0);
        x.addSpool('c', 30);
        x.addOrder('c', 25, 1);
        x.fill(3);
        due("1c:5/1", spoolLine(x, 1));
    }

    private static void promise7FullOfScraps() {
        WireCutter x = fresh(7);
        addScraps(x, 'c', 20, 40);
        x.addSpool('a', 30);
        x.addOrder('a', 25, 1);
        due(40, x.fill(0));
        due(0, x.scraps('a'));
        due(30, x.woundByParts('a'));
        due(1, x.losses('a'));
        x.addOrder('c', 5, 1);
        due(-1, x.fill(1));
        due(40, x.scraps('c'));
        due(14, x.scrap('c', 0));
    }

    private static void promise8() {
        WireCutter x = fresh(8);
        x.addSpool('a', 50);
        x.addOrder('a', 30, 9);
        x.addOrder('a', 60, 1);
        x.addOrder('a', 25, 3);
        x.addOrder('a', 24, 9);
        x.addOrder('a', 2, 10);
        refused(ARGUMENT, () -> x.fillDue(0));
        refused(ARGUMENT, () -> x.fillDue(100));
        refused(ARGUMENT, () -> x.fillDue(-1));
        due(0, x.fillDue(2));
        due(2, x.fillDue(9));
        due("1a60@1 0a30@9 4a2@10", orderLine(x));
        due(2, x.filled());
        due(0, x.spools());
        due(49, x.delivered('a'));
        x.addSpool('a', 999);
        due(3, x.fillDue(99));
        due(0, x.orders());
        due(0, x.fillDue(1));
    }

    private static void promise9() {
        WireCutter x = fresh(9);
        due(1, x.setKerf(5));
        due(5, x.setKerf(0));
        refused(ARGUMENT, () -> x.setKerf(-1));
        refused(ARGUMENT, () -> x.setKerf(6));
        due(0, x.setKerf(0));
        x.addSpool('a', 50);
        x.addOrder('a', 20, 1);
        x.fill(0);
        due(30, x.remaining(0));
        due(0, x.losses('a'));
    }

    private static void promise10() {
        WireCutter x = fresh(10);
        x.addSpool('a', 12);
        due(5, x.setScrapLimit(50));
        due(true, x.hasSpool(0));
        due(50, x.setScrapLimit(1));
        refused(ARGUMENT, () -> x.setScrapLimit(0));
        refused(ARGUMENT, () -> x.setScrapLimit(51));
        x.addOrder('a', 10, 1);
        x.fill(0);
        due(1, x.remaining(0));
        due(1, x.setScrapLimit(2));
    }

    private static void promise11() {
        WireCutter x = fresh(11);
        x.addSpool('a', 50);
        x.addSpool('a', 80);
        x.addSpool('a', 40);
        x.addSpool('a', 80);
        x.addSpool('a', 40);
        x.addSpool('b', 10);
        x.addSpool('c', 999);
        x.addOrder('a', 40, 1);
        x.addOrder('a', 41, 1);
        due(2, x.chosenSpool(0));
        due(0, x.chosenSpool(1));
        due('b', x.setRule('w'));
        due(1, x.chosenSpool(0));
        due('w', x.setRule('f'));
        due(0, x.chosenSpool(0));
        for (char c : new char[] {'a', 'B', 'c', 'x', ' ', (char) 0, (char) ('b' + 256)}) {
            refused(ARGUMENT, () -> x.setRule(c));
        }
        due('f', x.setRule('b'));
        due('b', x.setRule('b'));
    }

    private static void promises12To14() {
        WireCutter x = fresh(12);
        x.setKerf(4);
        due(4, x.kerf());
        refused(ARGUMENT, () -> x.setKerf(9));
        due(4, x.kerf());
        promise(13);
        x.setScrapLimit(17);
        due(17, x.scrapLimit());
        refused(ARGUMENT, () -> x.setScrapLimit(-9));
        due(17, x.scrapLimit());
        promise(14);
        x.setRule('w');
        due('w', x.rule());
        refused(ARGUMENT, () -> x.setRule('d'));
        due('w', x.rule());
    }

    private static void promises15To19() {
        WireCutter x = busy(15);
        due(2, x.spools());
        x.retire(0);
        due(1, x.spools());
        promise(16);
        due(false, x.hasSpool(0));
        due(true, x.hasSpool(1));
        due(false, x.hasSpool(3));
        due(false, x.hasSpool(-1));
        due(false, x.hasSpool(Integer.MAX_VALUE));
        promise(17);
        due('b', x.material(1));
        refused(NO_ELEMENT, () -> x.material(0));
        refused(NO_ELEMENT, () -> x.material(-1));
        promise(18);
        due(39, x.remaining(1));
        refused(NO_ELEMENT, () -> x.remaining(0));
        refused(NO_ELEMENT, () -> x.remaining(3));
        promise(19);
        due(1, x.cuts(1));
        x.fill(2);
        due(2, x.cuts(1));
        refused(NO_ELEMENT, () -> x.cuts(0));
        due(0, x.cuts(x.addSpool('a', 10)));
    }

    private static void promise20() {
        WireCutter x = fresh(20);
        x.addSpool('b', 50);
        x.addSpool('a', 50);
        x.addSpool('f', 60);
        x.addSpool('a', 50);
        x.addSpool('a', 49);
        int[] want = {2, 1, 3, 0, 4};
        for (int i = 0; i < want.length; i++) {
            due(want[i], x.spoolByLength(i));
        }
        refused(NO_ELEMENT, () -> x.spoolByLength(5));
        refused(NO_ELEMENT, () -> x.spoolByLength(-1));
        x.retire(2);
        due(1, x.spoolByLength(0));
        refused(NO_ELEMENT, () -> x.spoolByLength(4));
    }

    private static void promises21To22() {
        WireCutter x = fresh(21);
        addScrap(x, 'a', 30);
        addScrap(x, 'b', 20);
        addScrap(x, 'a', 10);
        addScrap(x, 'a', 30);
        due(3, x.scraps('a'));
        due(1, x.scraps('b'));
        due(0, x.scraps('c'));
        promise(22);
        due("10 30 30", scrapList(x, 'a'));
        due(20, x.scrap('b', 0));
        refused(NO_ELEMENT, () -> x.scrap('a', 3));
        refused(NO_ELEMENT, () -> x.scrap('a', -1));
        refused(NO_ELEMENT, () -> x.scrap('f', 0));
        for (char c : NO_MATERIALS) {
            promise(21);
            refused(ARGUMENT, () -> x.scraps(c));
            promise(22);
            refused(ARGUMENT, () -> x.scrap(c, 0));
            refused(ARGUMENT, () -> x.scrap(c, -1));
        }
    }

    private static void bothLoads(WireCutter x, int want, int spool) {
        promise(23);
        due(want, x.bestLoad(spool));
        promise(24);
        due(want, x.bestLoadByRecursion(spool));
    }

    private static void promises23To24() {
        WireCutter x = fresh(23);
        x.addSpool('a', 30);
        bothLoads(x, 0, 0);
        x.addOrder('a', 31, 1);
        x.addOrder('b', 30, 1);
        bothLoads(x, 0, 0);
        x.addOrder('a', 20, 9);
        x.addOrder('a', 10, 1);
        bothLoads(x, 20, 0);
        x.addOrder('a', 9, 50);
        bothLoads(x, 29, 0);
        x.setKerf(0);
        bothLoads(x, 30, 0);
        x.setKerf(2);
        bothLoads(x, 20, 0);
        x.addOrder('a', 30, 1);
        bothLoads(x, 30, 0);
        promise(23);
        refused(NO_ELEMENT, () -> x.bestLoad(1));
        refused(NO_ELEMENT, () -> x.bestLoad(-1));
        promise(24);
        refused(NO_ELEMENT, () -> x.bestLoadByRecursion(1));
        refused(NO_ELEMENT, () -> x.bestLoadByRecursion(-1));
        promises23To24Greatest();
    }

    private static void promises23To24Greatest() {
        WireCutter x = fresh(23);
        x.setKerf(5);
        x.addSpool('d', 999);
        for (int i = 0; i < 12; i++) {
            x.addOrder('d', i == 0 ? 1 : 198, 12 - i);
        }
        x.addSpool('e', 999);
        promise(24);
        due(793, x.bestLoadByRecursion(0));
        due(0, x.bestLoadByRecursion(1));
        due(793, x.bestLoadByRecursion(0));
        // Five pieces with four kerfs are 1010; the piece of 1 with four others is 813.
        bothLoads(x, 793, 0);
        x.setKerf(2);
        bothLoads(x, 990, 0);
        x.setKerf(1);
        bothLoads(x, 991, 0);
    }

    private static void promises25To30() {
        WireCutter x = busy(25);
        due(2, x.orders());
        promise(26);
        due(false, x.isOpen(0));
        due(true, x.isOpen(2));
        due(true, x.isOpen(3));
        due(false, x.isOpen(4));
        due(false, x.isOpen(-1));
        promise(27);
        due('f', x.orderMaterial(3));
        refused(NO_ELEMENT, () -> x.orderMaterial(0));
        refused(NO_ELEMENT, () -> x.orderMaterial(4));
        promise(28);
        due(200, x.orderLength(3));
        due(5, x.orderLength(2));
        refused(NO_ELEMENT, () -> x.orderLength(1));
        refused(NO_ELEMENT, () -> x.orderLength(-1));
        promise(29);
        due(7, x.due(2));
        due(99, x.due(3));
        refused(NO_ELEMENT, () -> x.due(0));
        refused(NO_ELEMENT, () -> x.due(Integer.MIN_VALUE));
        promise(30);
        x.addOrder('a', 1, 7);
        x.addOrder('a', 1, 6);
        x.addOrder('a', 1, 99);
        int[] want = {5, 2, 4, 3, 6};
        for (int i = 0; i < want.length; i++) {
            due(want[i], x.orderAt(i));
        }
        refused(NO_ELEMENT, () -> x.orderAt(5));
        refused(NO_ELEMENT, () -> x.orderAt(-1));
        x.cancel(2);
        due(4, x.orderAt(1));
        refused(NO_ELEMENT, () -> x.orderAt(4));
    }

    private static void promises31To33() {
        WireCutter x = fresh(31);
        addScrap(x, 'a', 30);
        addScrap(x, 'a', 20);
        x.addSpool('a', 40);
        x.addSpool('b', 99);
        x.addOrder('a', 20, 1);
        x.addOrder('a', 21, 1);
        x.addOrder('a', 40, 1);
        x.addOrder('a', 41, 1);
        due(true, x.canFill(0));
        due(true, x.canFill(2));
        due(false, x.canFill(3));
        refused(NO_ELEMENT, () -> x.canFill(4));
        refused(NO_ELEMENT, () -> x.canFill(-1));
        promise(32);
        due(20, x.chosenScrap(0));
        due(30, x.chosenScrap(1));
        refused(NO_ELEMENT, () -> x.chosenScrap(2));
        refused(NO_ELEMENT, () -> x.chosenScrap(3));
        refused(NO_ELEMENT, () -> x.chosenScrap(4));
        promise(33);
        due(2, x.chosenSpool(2));
        refused(NO_ELEMENT, () -> x.chosenSpool(0));
        refused(NO_ELEMENT, () -> x.chosenSpool(1));
        refused(NO_ELEMENT, () -> x.chosenSpool(3));
        refused(NO_ELEMENT, () -> x.chosenSpool(-1));
        due(4, x.orders());
        due(0, x.filled());
    }

    private static void promises34To39() {
        WireCutter x = busy(34);
        due(130, x.wound('a'));
        due(60, x.wound('b'));
        due(0, x.wound('f'));
        promise(35);
        x.throwScraps('a');
        x.retire(1);
        due(130, x.woundByParts('a'));
        due(60, x.woundByParts('b'));
        due(0, x.woundByParts('f'));
        promise(36);
        due(10, x.delivered('a'));
        due(20, x.delivered('b'));
        due(0, x.delivered('c'));
        promise(37);
        due(1, x.losses('a'));
        due(1, x.losses('b'));
        due(0, x.losses('f'));
        for (char c : NO_MATERIALS) {
            promise(34);
            refused(ARGUMENT, () -> x.wound(c));
            promise(35);
            refused(ARGUMENT, () -> x.woundByParts(c));
            promise(36);
            refused(ARGUMENT, () -> x.delivered(c));
            promise(37);
            refused(ARGUMENT, () -> x.losses(c));
        }
        promise(38);
        due(2, x.filled());
        due(1, x.fillDue(98));
        due(3, x.filled());
        x.cancel(3);
        due(3, x.filled());
        promise(39);
        due(35L, x.totalDelivered());
    }

    private static void promises40To41() {
        WireCutter x = fresh(40);
        refused(ARITHMETIC, () -> x.meanRemaining());
        x.addSpool('a', 10);
        x.addSpool('b', 10);
        due(10.0, x.meanRemaining());
        x.addSpool('b', 11);
        due(31.0 / 3.0, x.meanRemaining());
        promise(41);
        refused(ARITHMETIC, () -> x.lossRate());
        x.setKerf(0);
        x.addOrder('a', 7, 1);
        x.fill(0);
        due(0.0f, x.lossRate());
        x.setKerf(2);
        x.addOrder('b', 6, 1);
        x.fill(1);
        due(2.0f / 13.0f, x.lossRate());
        promise(40);
        addScrap(x, 'c', 20);
        due(11.0, x.meanRemaining());
    }

    private static void promise42() {
        WireCutter x = busy(42);
        due(true, x.isConsistent());
        for (int i = 0; i < 10; i++) {
            x.addOrder((char) ('a' + i % 2), 7 * i + 3, 50 - i / 3);
        }
        due(true, x.isConsistent());
        x.setKerf(5);
        x.fillDue(45);
        due(true, x.isConsistent());
        addScraps(x, 'b', 90, 40);
        x.throwScraps('b');
        x.undo();
        due(true, x.isConsistent());
    }

    private static void promises43To45() {
        WireCutter x = fresh(45);
        refused(INDEX, () -> x.charAt(0));
        x.addSpool('a', 999);
        x.addSpool('f', 10);
        for (int i = 0; i < 11; i++) {
            x.addOrder('a', 1, 30 - i);
        }
        x.fillDue(99);
        promise(43);
        due("1f:10/0", spoolLine(x, 1));
        due("0a:977/11", spoolLine(x, 0));
        refused(NO_ELEMENT, () -> x.writeSpool(2));
        refused(NO_ELEMENT, () -> x.writeSpool(-1));
        due("0a:977/11", lineOf(x, 9));
        promise(44);
        x.addOrder('c', 7, 12);
        due("11c7@12", orderLine(x));
        x.addOrder('a', 200, 5);
        due("12a200@5 11c7@12", orderLine(x));
        promise(45);
        x.undo();
        due("12a200@5 11c7@12", lineOf(x, 16));
        due('1', x.charAt(0));
        due('2', x.charAt(15));
        refused(INDEX, () -> x.charAt(-1));
        refused(INDEX, () -> x.charAt(16));
        refused(INDEX, () -> x.charAt(Integer.MAX_VALUE));
        refused(INDEX, () -> x.charAt(Integer.MIN_VALUE));
        promise(44);
        x.cancel(11);
        due("", orderLine(x));
    }

    private static void promise46() {
        WireCutter x = fresh(46);
        due(1, x.type('x'));
        due(2, x.type((char) 0));
        due(3, x.type((char) 65535));
        for (int i = 4; i <= 60; i++) {
            due(i, x.type(' '));
        }
        refused(STATE, () -> x.type('a'));
        refused(ARGUMENT, () -> x.run());
        due(0, x.errorPosition());
        due(1, x.type('a'));
    }

    private static void promise47() {
        WireCutter x = fresh(47);
        due(4, runText(x, "spool a120;order a30@5;order b1@99;fill 0"));
        due("0a:89/1", spoolLine(x, 0));
        due("1b1@99", orderLine(x));
        due(6, runText(x, "kerf 0;limit 050;rule w;cancel 1;retire 0;clear a"));
        due(0, x.kerf());
        due(50, x.scrapLimit());
        due('w', x.rule());
        due(0, x.orders() + x.spools() + x.scraps('a'));
        due(2, runText(x, "order c9@001;due 99"));
        due(10, runText(x, "due 1;due 1;due 1;due 1;due 1;due 1;due 1;due 1;due 1;due 1"));
        refused(UNSUPPORTED, () -> runText(x, "spool a50;rule f;spool b9;kerf 2"));
        due(0, x.spools());
        due('w', x.rule());
        due(1, runText(x, "rule f"));
        due(1, runText(x, "spool d10"));
        due("1d:10/0", spoolLine(x, 1));
        promise47FailingCommands();
    }

    private static void promise47FailingCommands() {
        WireCutter x = fresh(47);
        String[] failing = {"spool a9", "order a0@1", "order a1@0", "cancel 9", "fill 9", "fill 0", "due 0", "due 100",
            "retire 9", "kerf 6", "limit 0", "limit 51"};
        x.addOrder('a', 10, 1);
        for (String text : failing) {
            refused(UNSUPPORTED, () -> runText(x, "clear a;" + text));
            due(1, x.failedCommand());
        }
        due(1, x.orders());
        due(0, x.undo());
        WireCutter full = fresh(47);
        for (int i = 0; i < 10; i++) {
            full.addSpool('a', 10);
        }
        for (int i = 0; i < 12; i++) {
            full.addOrder('a', 10, 1);
        }
        refused(UNSUPPORTED, () -> runText(full, "spool a10"));
        refused(UNSUPPORTED, () -> runText(full, "order a10@1"));
        due(2, runText(full, "retire 0;spool a10"));
        due(true, full.hasSpool(10));
    }

    private static void promise48() {
        WireCutter x = fresh(48);
        runText(x, "kerf 1");
        refused(UNSUPPORTED, () -> runText(x, "kerf 9"));
        refused(NO_ELEMENT, () -> x.errorPosition());
        failsAt(x, 0, "");
        failsAt(x, 0, " kerf 1");
        failsAt(x, 0, "Kerf 1");
        failsAt(x, 3, "spo");
        failsAt(x, 5, "spool");
        failsAt(x, 5, "spoola10");
        failsAt(x, 6, "spool ");
        failsAt(x, 6, "spool g10");
        failsAt(x, 7, "spool a");
        failsAt(x, 7, "spool a-1");
        failsAt(x, 10, "spool a1000");
        failsAt(x, 10, "order a1234");
        failsAt(x, 6, "kerf 1kerf 2");
        failsAt(x, 8, "order a5");
        failsAt(x, 8, "order a5;");
        failsAt(x, 9, "order a5@");
        failsAt(x, 12, "order a5@123@");
        promise48Words();
        promise48Ends();
        promise48EveryPrefix("spool a120;order f30@5;cancel 1;fill 0;due 9");
        promise48EveryPrefix("retire 0;clear a;kerf 0;limit 50;rule w");
    }

    private static void promise48Words() {
        WireCutter x = fresh(48);
        failsAt(x, 1, "r");
        failsAt(x, 1, "rx");
        failsAt(x, 2, "ru");
        failsAt(x, 2, "rutire 1");
        failsAt(x, 1, "c");
        failsAt(x, 2, "cl");
        failsAt(x, 2, "caear a");
        failsAt(x, 6, "clear 1");
        failsAt(x, 5, "kerf a");
        failsAt(x, 6, "kerf 12");
        failsAt(x, 5, "rule a");
        failsAt(x, 6, "rule bw");
    }

    private static void promise48Ends() {
        WireCutter x = fresh(48);
        failsAt(x, 7, "kerf 1;");
        failsAt(x, 7, "kerf 1;;");
        failsAt(x, 7, "kerf 1; kerf 1");
        failsAt(x, 6, "kerf 1 ");
        failsAt(x, 60, "due 1;due 1;due 1;due 1;due 1;due 1;due 1;due 1;due 1;due 1;");
        runText(x, "kerf 1");
        due(60, x.errorPosition());
    }

    private static void promise48EveryPrefix(String program) {
        WireCutter x = fresh(48);
        for (int i = 0; i < program.length(); i += 5) {
            failsAt(x, i, program.substring(0, i) + '#');
        }
    }

    private static void promise49() {
        WireCutter x = fresh(49);
        failsAt(x, 0, "x");
        refused(NO_ELEMENT, () -> x.failedCommand());
        refused(UNSUPPORTED, () -> runText(x, "kerf 2;kerf 3;kerf 7;kerf 8"));
        due(2, x.failedCommand());
        due(0, x.errorPosition());
        runText(x, "kerf 1");
        failsAt(x, 5, "kerf ");
        due(2, x.failedCommand());
        x.undo();
        due(2, x.failedCommand());
        refused(UNSUPPORTED, () -> runText(x, "retire 0"));
        due(0, x.failedCommand());
    }

    private static void promise50() {
        WireCutter x = fresh(50);
        for (int i = 0; i < 10; i++) {
            x.setScrapLimit(10 + i);
        }
        for (int i = 7; i >= 0; i--) {
            refused(ARGUMENT, () -> x.setScrapLimit(0));
            due(i, x.undo());
            due(11 + i, x.scrapLimit());
        }
        refused(STATE, () -> x.undo());
        due(11, x.scrapLimit());
        x.addSpool('a', 50);
        x.addOrder('a', 10, 1);
        x.addOrder('a', 10, 1);
        x.fill(0);
        due(3, x.undo());
        due(50, x.remaining(0));
        due(0, x.cuts(0));
        due(0, x.filled());
        due(0, x.losses('a'));
        due("0a10@1 1a10@1", orderLine(x));
        x.fillDue(99);
        due(3, x.undo());
        due(2, x.undo());
        due(1, x.undo());
        due(0, x.addOrder('a', 10, 1));
        promise50EveryChange();
    }

    private static void isUndone(CallOn change) {
        WireCutter x = busy(50);
        String before = pictureOf(x);
        change.on(x);
        due(false, before.equals(pictureOf(x)));
        due(7, x.undo());
        due(before, pictureOf(x));
        change.on(x);
        due(7, x.undo());
        due(before, pictureOf(x));
    }

    private static void promise50FullOfChanges() {
        WireCutter x = fresh(50);
        for (int i = 0; i < 9; i++) {
            x.setScrapLimit(10 + i);
        }
        due(7, x.undo());
        x.setScrapLimit(40);
        due(7, x.undo());
        due(17, x.scrapLimit());
    }

    private static void promise50EveryChange() {
        isUndone(x -> x.addSpool('a', 10));
        isUndone(x -> x.retire(0));
        isUndone(x -> x.throwScraps('a'));
        isUndone(x -> x.addOrder('a', 1, 1));
        isUndone(x -> x.cancel(3));
        isUndone(x -> x.fill(2));
        isUndone(x -> x.fillDue(50));
        isUndone(x -> x.setKerf(0));
        isUndone(x -> x.setScrapLimit(1));
        isUndone(x -> x.setRule('f'));
        isUndone(x -> runText(x, "clear a;kerf 3;due 9"));
        promise50FullOfChanges();
        promise50Chain();
    }

    private static void promise50Chain() {
        WireCutter x = fresh(50);
        x.retire(x.addSpool('a', 50));
        x.undo();
        due(50, x.remaining(0));
        due(0, x.scraps('a'));
        x.retire(0);
        x.throwScraps('a');
        due(2, x.undo());
        due("50", scrapList(x, 'a'));
        x.addOrder('a', 9, 9);
        x.cancel(0);
        due(3, x.undo());
        due(9, x.due(0));
        x.setKerf(3);
        due(3, x.undo());
        due(1, x.kerf());
        x.setRule('w');
        due(3, x.undo());
        due('b', x.rule());
        runText(x, "kerf 5;rule f;fill 0;spool b70");
        due(3, x.undo());
        due("50", scrapList(x, 'a'));
        due("0a9@9", orderLine(x));
        due(1, x.addSpool('b', 70));
        // Changes that alter nothing are changes too.
        x.setKerf(1);
        x.fillDue(1);
        x.throwScraps('f');
        due(6, x.undo());
    }

    private static void promise51() {
        WireCutter x = busy(51);
        due(2, x.save());
        x.retire(0);
        due(1, x.save());
        x.retire(1);
        due(1, x.restore());
        due(true, x.hasSpool(1));
        due(false, x.hasSpool(0));
        x.retire(1);
        due(0, x.save());
        // To save is not a change.
        due(0, x.undo());
        due(0, x.restore());
    }

    private static void promise52() {
        WireCutter x = busy(52);
        refused(STATE, () -> x.restore());
        x.save();
        String spool = spoolLine(x, 1);
        String orders = orderLine(x);
        x.addOrder('a', 3, 1);
        x.fillDue(99);
        x.setKerf(5);
        x.setScrapLimit(9);
        x.setRule('f');
        x.throwScraps('a');
        x.type('k');
        x.writeSpool(0);
        due(2, x.restore());
        due('0', x.charAt(0));
        due(2, x.type('e'));
        due(spool, spoolLine(x, 1));
        due(orders, orderLine(x));
        due("19", scrapList(x, 'a'));
        due(1, x.kerf());
        due(5, x.scrapLimit());
        due('b', x.rule());
        due(2, x.filled());
        refused(STATE, () -> x.undo());
        x.retire(0);
        due(2, x.restore());
        due(4, x.addOrder('a', 3, 1));
        due(3, x.addSpool('a', 30));
        due(1, x.undo());
        due(true, x.isConsistent());
    }

    public static void main(String[] args) {
        promise1();
        promise2();
        promise3();
        promise4();
        promise5();
        promise6();
        promise7();
        promise8();
        promise9();
        promise10();
        promise11();
        promises12To14();
        promises15To19();
        promise20();
        promises21To22();
        promises23To24();
        promises25To30();
        promises31To33();
        promises34To39();
        promises40To41();
        promise42();
        promises43To45();
        promise46();
        promise47();
        promise48();
        promise49();
        promise50();
        promise51();
        promise52();
        end("all promises hold");
    }
}
