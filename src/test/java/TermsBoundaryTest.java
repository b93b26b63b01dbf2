/** A test for each sentence of the document's "Terms" that names a boundary case; about() quotes the sentence. */
public final class TermsBoundaryTest extends Checks {
    private static final char[] STRANGE = {(char) 127, (char) 128, (char) 255, (char) 256, (char) (256 + 'a'),
        (char) (512 + 'f'), (char) (0xFF00 + 'b'), (char) (0x8000 + 'w'), (char) 65535};

    private interface CallWithSign {
        Object on(WireCutter x, char sign);
    }

    private static String signs() {
        StringBuilder signs = new StringBuilder();
        for (char sign = 0; sign < 127; sign++) {
            signs.append(sign);
        }
        return signs.append(STRANGE).toString();
    }

    // ---- what holds for all calls

    private static void lastCalls() {
        about("An object is used for at most 512 calls after it has been made");
        WireCutter x = fresh();
        for (int i = 0; i < 255; i++) {
            due(i, x.addOrder('a', 1, 1));
            due(0, x.cancel(i));
        }
        due(255, x.addOrder('a', 200, 99));
        due(10, x.writeOrders());
        WireCutter y = fresh();
        for (int i = 0; i < 255; i++) {
            due(i, y.addSpool('f', 999));
            due(999, y.retire(i));
        }
        due(255 * 999, y.wound('f'));
        due(255 * 999, y.woundByParts('f'));
        WireCutter z = fresh();
        for (int i = 0; i < 511; i++) {
            due(i == 0 ? 1 : (i - 1) % 6, z.setKerf(i % 6));
        }
        due(7, z.undo());
    }

    private static void firstExceptionListed() {
        about("If several conditions for an exception hold, the exception that is listed first is thrown.");
        WireCutter x = fresh();
        addSpools(x, 'a', 10, 10, 10, 10, 10, 10, 10, 10, 10, 10);
        refused(STATE, () -> x.addSpool('a', 10));
        refused(ARGUMENT, () -> x.addSpool('g', 10));
        refused(ARGUMENT, () -> x.addSpool('a', 9));
        refused(ARGUMENT, () -> x.addSpool('a', 1000));
        addOrders(x, 'a', 1, 1, 1, 1, 1, 1, 1, 1, 1, 1, 1, 1);
        refused(STATE, () -> x.addOrder('a', 1, 1));
        refused(ARGUMENT, () -> x.addOrder('g', 1, 1));
        refused(ARGUMENT, () -> x.addOrder('a', 0, 1));
        refused(ARGUMENT, () -> x.addOrder('a', 201, 1));
        refused(ARGUMENT, () -> x.addOrder('a', 1, 0));
        refused(ARGUMENT, () -> x.addOrder('a', 1, 100));
        refused(ARGUMENT, () -> x.scrap('g', 0));
        refused(ARGUMENT, () -> x.scrap('`', -1));
        failsAt(x, 10, "retire 99;#");
        failsAt(x, 9, "retire 99#");
        refused(NO_ELEMENT, () -> x.failedCommand());
    }

    // ---- stock

    private static void onMaterials(int promise, boolean mayLackElements, CallWithSign call) {
        about("promise " + promise + ": IllegalArgumentException if the character is not a material");
        for (char sign : signs().toCharArray()) {
            if (sign < 'a' || sign > 'f') {
                refused(ARGUMENT, () -> call.on(fresh(), sign));
            } else if (mayLackElements) {
                refused(NO_ELEMENT, () -> call.on(fresh(), sign));
            } else {
                due(0, outcome(() -> call.on(fresh(), sign)));
            }
        }
    }

    // "There are six materials, which are the letters from a to f."
    private static void sixMaterials() {
        onMaterials(2, false, (x, sign) -> x.addSpool(sign, 10));
        onMaterials(4, false, (x, sign) -> x.throwScraps(sign));
        onMaterials(5, false, (x, sign) -> x.addOrder(sign, 1, 1));
        onMaterials(21, false, (x, sign) -> x.scraps(sign));
        onMaterials(22, true, (x, sign) -> x.scrap(sign, 0));
        onMaterials(34, false, (x, sign) -> x.wound(sign));
        onMaterials(35, false, (x, sign) -> x.woundByParts(sign));
        onMaterials(36, false, (x, sign) -> x.delivered(sign));
        onMaterials(37, false, (x, sign) -> x.losses(sign));
    }

    private static void tenSpools() {
        about("There are at most 10 spools.");
        WireCutter x = fresh();
        for (int i = 0; i < 10; i++) {
            due(i, x.addSpool((char) ('a' + i % 6), 10 + i));
            due(i + 1, x.spools());
        }
        refused(STATE, () -> x.addSpool('f', 999));
        failsIn(x, 0, "spool f999");
        due(10, x.spools());
        x.retire(4);
        due(10, x.addSpool('a', 10));
        refused(STATE, () -> x.addSpool('a', 10));
        // A spool that is used up makes room too, and so does an undone one.
        x.addOrder('d', 19, 1);
        due(9, x.fill(0));
        due(11, x.addSpool('a', 10));
        refused(STATE, () -> x.addSpool('a', 10));
        x.undo();
        due(11, x.addSpool('a', 10));
        refused(STATE, () -> x.addSpool('a', 10));
    }

    private static void spoolNumbers() {
        about("Every spool that is added gets a number; the numbers are consecutive, begin with 0,"
            + " and are not used again.");
        WireCutter x = fresh();
        due(0, x.addSpool('a', 10));
        refused(ARGUMENT, () -> x.addSpool('a', 9));
        refused(ARGUMENT, () -> x.addSpool('g', 10));
        due(1, x.addSpool('b', 10));
        due(10, x.retire(1));
        due(2, x.addSpool('b', 10));
        x.retire(0);
        x.retire(2);
        due(3, x.addSpool('a', 20));
        x.addOrder('c', 20, 1);
        x.throwScraps('a');
        x.addOrder('a', 20, 1);
        due(3, x.fill(1));
        due(0, x.spools());
        due(4, x.addSpool('a', 20));
        due(2, runText(x, "spool a20;spool b20"));
        due(true, x.hasSpool(5) && x.hasSpool(6));
        failsIn(x, 1, "spool a20;retire 99");
        due(7, x.addSpool('f', 20));
        for (int i = 0; i < 3; i++) {
            due(false, x.hasSpool(i));
        }
    }

    /** What a cut leaves: the remaining length, the scraps and the loss. */
    private static String afterSpoolCut(int kerf, int limit, int length, int piece) {
        WireCutter x = fresh();
        x.setKerf(kerf);
        x.setScrapLimit(limit);
        x.addSpool('a', length);
        x.addOrder('a', piece, 1);
        due(0, x.fill(0));
        due(length, x.woundByParts('a'));
        due(piece, x.delivered('a'));
        return (x.hasSpool(0) ? "" + x.remaining(0) : "gone") + " [" + scrapList(x, 'a') + "] -" + x.losses('a');
    }

    private static String afterScrapCut(int kerf, int length, int piece) {
        WireCutter x = fresh();
        x.setKerf(kerf);
        x.setScrapLimit(50);
        addScrap(x, 'a', length);
        x.addOrder('a', piece, 1);
        due(-1, x.fill(0));
        due(length, x.woundByParts('a'));
        due(piece, x.delivered('a'));
        return "[" + scrapList(x, 'a') + "] -" + x.losses('a');
    }

    private static void spoolsAreLongerThanZero() {
        about("when its remaining length becomes 0, the spool does not exist any more");
        due("gone [] -0", afterSpoolCut(1, 1, 10, 10));
        due("gone [] -1", afterSpoolCut(1, 1, 10, 9));
        due("1 [] -1", afterSpoolCut(1, 1, 10, 8));
        due("gone [] -0", afterSpoolCut(0, 1, 200, 200));
        due("1 [] -0", afterSpoolCut(0, 1, 200, 199));
        WireCutter x = fresh();
        x.addSpool('a', 10);
        x.addOrder('a', 10, 1);
        x.fill(0);
        due(0, x.spools());
        due(false, x.hasSpool(0));
        refused(NO_ELEMENT, () -> x.remaining(0));
        refused(NO_ELEMENT, () -> x.cuts(0));
        refused(NO_ELEMENT, () -> x.retire(0));
        refused(NO_ELEMENT, () -> x.spoolByLength(0));
        refused(ARITHMETIC, () -> x.meanRemaining());
    }

    private static void scrapsAreLongerThanZero() {
        about("A scrap has a material and a length greater than 0");
        due("gone [] -5", afterSpoolCut(5, 50, 15, 10));
        due("gone [1] -5", afterSpoolCut(5, 50, 16, 10));
        due("[] -0", afterScrapCut(1, 10, 10));
        due("[] -1", afterScrapCut(1, 10, 9));
        due("[1] -1", afterScrapCut(1, 10, 8));
        due("[] -0", afterScrapCut(0, 10, 10));
        due("[1] -0", afterScrapCut(0, 10, 9));
    }

    private static void equalScraps() {
        about("there can be several scraps with the same material and length");
        WireCutter x = fresh();
        addScraps(x, 'a', 20, 3);
        addScrap(x, 'b', 20);
        due("20 20 20", scrapList(x, 'a'));
        due("20", scrapList(x, 'b'));
        x.addOrder('a', 20, 1);
        due(-1, x.fill(0));
        due("20 20", scrapList(x, 'a'));
        due(40, x.throwScraps('a'));
        due("20", scrapList(x, 'b'));
    }

    private static int allScraps(WireCutter x) {
        int count = 0;
        for (char m = 'a'; m <= 'f'; m++) {
            count += x.scraps(m);
        }
        return count;
    }

    private static WireCutter withScraps(int count) {
        WireCutter x = fresh();
        for (int i = 0; i < count; i++) {
            addScrap(x, (char) ('b' + i % 5), 20);
        }
        due(count, allScraps(x));
        return x;
    }

    private static void fortyScraps() {
        about("There are at most 40 scraps of all materials together;"
            + " what would become a scrap while there are 40 is thrown away instead.");
        WireCutter x = withScraps(39);
        due(30, x.retire(x.addSpool('a', 30)));
        due("30", scrapList(x, 'a'));
        due(50, x.retire(x.addSpool('a', 50)));
        due("30", scrapList(x, 'a'));
        due(40, allScraps(x));
        due(80, x.woundByParts('a'));
        due(30, x.throwScraps('a'));
        due(80, x.woundByParts('a'));
        addScrap(x, 'a', 60);
        addScrap(x, 'a', 70);
        due("60", scrapList(x, 'a'));
        due(210, x.woundByParts('a'));
        due(true, x.isConsistent());
    }

    private static void fortyScrapsAfterCuts() {
        for (int count = 38; count <= 40; count++) {
            WireCutter x = withScraps(count);
            x.addSpool('a', 30);
            x.addOrder('a', 25, 1);
            due(count, x.fill(0));
            due(count < 40 ? "4" : "", scrapList(x, 'a'));
            due(count < 40 ? count + 1 : 40, allScraps(x));
            due(false, x.hasSpool(count));
            due(1, x.losses('a'));
            due(25, x.delivered('a'));
            due(30, x.woundByParts('a'));
        }
    }

    private static void scrapsAreCutWhileFull() {
        WireCutter x = withScraps(40);
        x.addOrder('b', 10, 1);
        due(-1, x.fill(0));
        due("9 20 20 20 20 20 20 20", scrapList(x, 'b'));
        due(40, allScraps(x));
        // A scrap that is used up makes room for one.
        x.addOrder('b', 9, 1);
        due(-1, x.fill(1));
        due(39, allScraps(x));
        addScrap(x, 'a', 30);
        addScrap(x, 'a', 40);
        due("30", scrapList(x, 'a'));
        due(true, x.isConsistent());
    }

    // ---- orders

    private static void twelveOrders() {
        about("There are at most 12 open orders.");
        WireCutter x = fresh();
        for (int i = 0; i < 12; i++) {
            due(i, x.addOrder((char) ('a' + i % 6), 1, 1));
            due(i + 1, x.orders());
        }
        refused(STATE, () -> x.addOrder('a', 1, 1));
        failsIn(x, 0, "order a1@1");
        due(12, x.orders());
        x.cancel(5);
        due(12, x.addOrder('a', 200, 99));
        refused(STATE, () -> x.addOrder('a', 1, 1));
        x.addSpool('b', 10);
        x.fill(1);
        due(13, x.addOrder('a', 200, 99));
        refused(STATE, () -> x.addOrder('a', 1, 1));
        due(1, x.fillDue(1));
        due(14, x.addOrder('a', 200, 99));
        refused(STATE, () -> x.addOrder('a', 1, 1));
    }

    private static void orderNumbers() {
        about("Every order that is added gets a number; the numbers are consecutive, begin with 0,"
            + " and are not used again.");
        WireCutter x = fresh();
        due(0, x.addOrder('a', 5, 9));
        refused(ARGUMENT, () -> x.addOrder('a', 5, 100));
        refused(ARGUMENT, () -> x.addOrder('a', 0, 9));
        due(1, x.addOrder('a', 5, 8));
        x.cancel(1);
        due(2, x.addOrder('a', 5, 7));
        x.addSpool('a', 10);
        x.fill(2);
        due(3, x.addOrder('a', 5, 6));
        x.cancel(0);
        x.cancel(3);
        due(0, x.orders());
        due(4, x.addOrder('a', 5, 5));
        due(1, runText(x, "order b5@5"));
        failsIn(x, 1, "order b5@5;cancel 99");
        due(6, x.addOrder('a', 5, 5));
        due("4a5@5 5b5@5 6a5@5", orderLine(x));
    }

    private static void orderRanges() {
        about("An order asks for one piece of a material with a length from 1 to 200, and has a due day from 1 to 99.");
        for (int length = -5; length <= 210; length++) {
            int value = length;
            due(value >= 1 && value <= 200 ? 0 : ARGUMENT.getName(), outcome(() -> fresh().addOrder('a', value, 1)));
        }
        for (int day = -5; day <= 110; day++) {
            int value = day;
            due(value >= 1 && value <= 99 ? 0 : ARGUMENT.getName(), outcome(() -> fresh().addOrder('a', 1, value)));
        }
        for (int far : new int[] {Integer.MIN_VALUE, Integer.MAX_VALUE, 65536 + 50, 256 + 50, -50}) {
            refused(ARGUMENT, () -> fresh().addOrder('a', far, 1));
            refused(ARGUMENT, () -> fresh().addOrder('a', 1, far));
        }
    }

    private static void isNotOpen(WireCutter x, int order) {
        due(false, x.isOpen(order));
        refused(NO_ELEMENT, () -> x.orderMaterial(order));
        refused(NO_ELEMENT, () -> x.orderLength(order));
        refused(NO_ELEMENT, () -> x.due(order));
        refused(NO_ELEMENT, () -> x.canFill(order));
        refused(NO_ELEMENT, () -> x.chosenScrap(order));
        refused(NO_ELEMENT, () -> x.chosenSpool(order));
        refused(NO_ELEMENT, () -> x.cancel(order));
        refused(NO_ELEMENT, () -> x.fill(order));
    }

    private static void closedOrders() {
        about("An order that is filled or cancelled is not open any more.");
        WireCutter x = fresh();
        x.addSpool('a', 100);
        addScrap(x, 'b', 20);
        x.addOrder('a', 5, 1);
        x.addOrder('b', 5, 1);
        x.addOrder('a', 5, 1);
        x.addOrder('a', 5, 2);
        x.addOrder('a', 6, 3);
        x.fill(0);
        x.fill(1);
        x.cancel(2);
        x.fillDue(2);
        for (int i = 0; i < 4; i++) {
            isNotOpen(x, i);
        }
        isNotOpen(x, 5);
        isNotOpen(x, -1);
        isNotOpen(x, Integer.MIN_VALUE);
        isNotOpen(x, Integer.MAX_VALUE);
        due("4a6@3", orderLine(x));
    }

    private static void queue() {
        about("The queue of orders contains all open orders, sorted by their due days in ascending order,"
            + " then by their numbers in ascending order.");
        WireCutter x = fresh();
        int[] days = {50, 99, 1, 50, 1, 99, 2, 98, 49, 51, 1, 99};
        for (int i = 0; i < days.length; i++) {
            x.addOrder('a', 200 - i, days[i]);
        }
        int[] want = {2, 4, 10, 6, 8, 0, 3, 9, 7, 1, 5, 11};
        for (int i = 0; i < want.length; i++) {
            due(want[i], x.orderAt(i));
            due(days[want[i]], x.due(want[i]));
            due(200 - want[i], x.orderLength(want[i]));
        }
        x.cancel(2);
        x.cancel(11);
        x.cancel(0);
        due("4a196@1 10a190@1 6a194@2 8a192@49 3a197@50 9a191@51 7a193@98 1a199@99 5a195@99", orderLine(x));
        due(12, x.addOrder('f', 1, 1));
        due(13, x.addOrder('f', 1, 99));
        due(12, x.orderAt(2));
        due(13, x.orderAt(10));
        due(true, x.isConsistent());
    }

    // ---- cuts

    private static void kerfs() {
        about("the cut loses as much of the rest as the kerf, or the whole rest if it is less");
        due("20 [] -0", afterSpoolCut(0, 5, 50, 30));
        due("19 [] -1", afterSpoolCut(1, 5, 50, 30));
        due("15 [] -5", afterSpoolCut(5, 5, 50, 30));
        due("gone [] -4", afterSpoolCut(5, 5, 50, 46));
        due("gone [] -5", afterSpoolCut(5, 5, 50, 45));
        due("gone [1] -5", afterSpoolCut(5, 5, 50, 44));
        due("[] -4", afterScrapCut(5, 50, 46));
        due("[] -5", afterScrapCut(5, 50, 45));
        due("[1] -5", afterScrapCut(5, 50, 44));
        due("[49] -0", afterScrapCut(0, 50, 1));
        due("[44] -5", afterScrapCut(5, 50, 1));
        WireCutter x = fresh();
        due(1, x.kerf());
        x.addSpool('a', 50);
        x.addOrder('a', 30, 1);
        x.fill(0);
        due(19, x.remaining(0));
    }

    private static void scrapLimits() {
        about("What is left of a spool is its new remaining length, unless it is less than the scrap limit");
        due("5 [] -1", afterSpoolCut(1, 5, 36, 30));
        due("gone [4] -1", afterSpoolCut(1, 5, 35, 30));
        due("gone [49] -0", afterSpoolCut(0, 50, 79, 30));
        due("50 [] -0", afterSpoolCut(0, 50, 80, 30));
        due("gone [49] -5", afterSpoolCut(5, 50, 84, 30));
        due("50 [] -5", afterSpoolCut(5, 50, 85, 30));
        due("1 [] -0", afterSpoolCut(0, 1, 31, 30));
        WireCutter x = fresh();
        due(5, x.scrapLimit());
        addSpools(x, 'a', 36);
        addSpools(x, 'b', 35);
        addOrders(x, 'a', 30);
        addOrders(x, 'b', 30);
        x.fillDue(1);
        due(5, x.remaining(0));
        due(false, x.hasSpool(1));
    }

    private static void everyRest() {
        about("What is left of a scrap stays a scrap if it is greater than 0.");
        for (int kerf = 0; kerf <= 5; kerf++) {
            for (int rest = 0; rest <= 60; rest++) {
                int loss = Math.min(kerf, rest);
                int left = rest - loss;
                String scrap = left > 0 ? "[" + left + "] -" + loss : "[] -" + loss;
                due(scrap, afterScrapCut(kerf, 30 + rest, 30));
                for (int limit = 1; limit <= 50; limit += 7) {
                    String want = left >= limit ? left + " [] -" + loss : "gone " + scrap;
                    due(want, afterSpoolCut(kerf, limit, 30 + rest, 30));
                }
            }
        }
    }

    private static void settings() {
        about("The kerf is a number from 0 to 5, initially 1 / The scrap limit is from 1 to 50, initially 5.");
        for (int number = -300; number <= 300; number++) {
            int value = number;
            due(value >= 0 && value <= 5 ? 1 : ARGUMENT.getName(), outcome(() -> fresh().setKerf(value)));
            due(value >= 1 && value <= 50 ? 5 : ARGUMENT.getName(), outcome(() -> fresh().setScrapLimit(value)));
        }
        for (int far : new int[] {Integer.MIN_VALUE, Integer.MAX_VALUE, 65536 + 3, -65536 + 3}) {
            refused(ARGUMENT, () -> fresh().setKerf(far));
            refused(ARGUMENT, () -> fresh().setScrapLimit(far));
        }
    }

    // ---- filling

    private static void shortestScrap() {
        about("its piece is cut from the shortest scrap of its material that is at least as long as the piece");
        WireCutter x = fresh();
        addScrap(x, 'b', 30);
        addScrap(x, 'a', 32);
        addScrap(x, 'a', 29);
        addScrap(x, 'a', 31);
        x.addSpool('a', 30);
        addOrders(x, 'a', 30, 31, 32, 33, 29);
        due(31, x.chosenScrap(0));
        due(31, x.chosenScrap(1));
        due(32, x.chosenScrap(2));
        refused(NO_ELEMENT, () -> x.chosenScrap(3));
        due(29, x.chosenScrap(4));
        due(-1, x.fill(4));
        due("31 32", scrapList(x, 'a'));
        due(-1, x.fill(2));
        due("31", scrapList(x, 'a'));
        due(-1, x.fill(0));
        due("", scrapList(x, 'a'));
        due("30", scrapList(x, 'b'));
        due(30, x.remaining(4));
    }

    private static void spoolsAfterScraps() {
        about("if there is none, it is cut from a spool of its material whose remaining length is at least"
            + " the length of the piece");
        for (char rule : new char[] {'b', 'w', 'f'}) {
            WireCutter x = fresh();
            x.setRule(rule);
            addSpools(x, 'b', 200, 30);
            x.addSpool('a', 30);
            addScrap(x, 'a', 29);
            addScrap(x, 'b', 40);
            addOrders(x, 'a', 30, 31);
            due(true, x.canFill(0));
            due(2, x.chosenSpool(0));
            due(false, x.canFill(1));
            refused(NO_ELEMENT, () -> x.chosenSpool(1));
            due(2, x.fill(0));
            due("29", scrapList(x, 'a'));
            due(0, x.losses('a'));
        }
    }

    private static void unfillable() {
        about("If there is no such spool either, the order cannot be filled.");
        WireCutter x = fresh();
        x.addOrder('a', 20, 1);
        due(false, x.canFill(0));
        refused(UNSUPPORTED, () -> x.fill(0));
        x.addSpool('b', 99);
        x.addSpool('a', 19);
        addScrap(x, 'a', 19);
        due(false, x.canFill(0));
        refused(UNSUPPORTED, () -> x.fill(0));
        refused(NO_ELEMENT, () -> x.chosenScrap(0));
        refused(NO_ELEMENT, () -> x.chosenSpool(0));
        due(0, x.fillDue(99));
        failsIn(x, 0, "fill 0");
        due(true, x.isOpen(0));
        x.addSpool('a', 20);
        due(true, x.canFill(0));
        due(3, x.fill(0));
    }

    private static int chosenBy(char rule, int piece, int... lengths) {
        WireCutter x = fresh();
        x.setRule(rule);
        addSpools(x, 'a', lengths);
        addOrders(x, 'a', piece);
        int chosen = x.chosenSpool(0);
        due(chosen, x.fill(0));
        return chosen;
    }

    private static void rules() {
        about("The rule is 'b' (best) for the spool with the smallest remaining length,"
            + " 'w' (worst) for the one with the greatest remaining length,"
            + " and 'f' (first) for the one with the smallest number");
        due(2, chosenBy('b', 20, 40, 19, 20, 21, 50));
        due(4, chosenBy('w', 20, 40, 19, 20, 21, 50));
        due(0, chosenBy('f', 20, 40, 19, 20, 21, 50));
        due(1, chosenBy('f', 20, 19, 50, 20, 21, 40));
        due(0, chosenBy('w', 20, 999, 19, 998));
        due(2, chosenBy('b', 20, 999, 19, 998));
        about("of several spools with the same remaining length the one with the smallest number is chosen");
        due(1, chosenBy('b', 20, 30, 20, 40, 20, 40));
        due(2, chosenBy('w', 20, 30, 20, 40, 20, 40));
        due(0, chosenBy('f', 20, 30, 30, 30));
        due(0, chosenBy('b', 20, 30, 30, 30));
        due(0, chosenBy('w', 20, 30, 30, 30));
        about("The rule is 'b' initially.");
        WireCutter x = fresh();
        due('b', x.rule());
        addSpools(x, 'a', 30, 50, 20);
        addOrders(x, 'a', 20);
        due(2, x.chosenSpool(0));
        due('b', x.setRule('b'));
    }

    private static void ruleSigns() {
        about("Sets the rule. / IllegalArgumentException if there is no such rule");
        for (char sign : signs().toCharArray()) {
            boolean isRule = sign == 'b' || sign == 'w' || sign == 'f';
            due(isRule ? 'b' : ARGUMENT.getName(), outcome(() -> fresh().setRule(sign)));
        }
    }

    // ---- undo

    private static void eightChanges() {
        about("The 8 latest changes can be undone.");
        for (int changes = 0; changes <= 20; changes++) {
            WireCutter x = fresh();
            for (int i = 1; i <= changes; i++) {
                x.setScrapLimit(10 + i);
            }
            int undoable = Math.min(changes, 8);
            for (int i = 1; i <= undoable; i++) {
                due(undoable - i, x.undo());
                due(changes == i ? 5 : 10 + changes - i, x.scrapLimit());
            }
            int limit = x.scrapLimit();
            refused(STATE, () -> x.undo());
            due(limit, x.scrapLimit());
        }
    }

    /** Every part of the state differs from that of a new object, and nothing can be undone. */
    private static WireCutter rich() {
        WireCutter x = fresh();
        x.addSpool('a', 100);
        addScrap(x, 'a', 30);
        addOrders(x, 'a', 10, 50);
        x.addSpool('b', 90);
        addOrders(x, 'b', 20, 30);
        x.fill(2);
        x.fill(3);
        addScrap(x, 'c', 40);
        x.throwScraps('c');
        addScrap(x, 'c', 25);
        addOrders(x, 'c', 20);
        x.fill(4);
        x.setKerf(2);
        x.setScrapLimit(7);
        x.setRule('f');
        x.save();
        x.restore();
        return x;
    }

    private static final String RICH = "0a:100/0 2b:38/2 0a10@1 1a50@1 a[30] 130=130=0+0+.. b[] 90=90=50+2+.."
        + " c[4] 65=65=20+1+.. d[] 0=0=0+0+.. e[] 0=0=0+0+.. f[] 0=0=0+0+.. k2l7f filled 3";

    private static void isAChange(boolean isChange, CallOn call) {
        WireCutter x = rich();
        typeAll(x, "kerf 1");
        refused(STATE, () -> x.undo());
        due(RICH, pictureOf(x));
        outcome(() -> call.on(x));
        due(isChange ? 0 : STATE.getName(), outcome(() -> x.undo()));
        refused(STATE, () -> x.undo());
        due(RICH, pictureOf(x));
    }

    private static void isRestored(CallOn call) {
        WireCutter x = rich();
        call.on(x);
        due(false, RICH.equals(pictureOf(x)));
        due(2, x.restore());
        due(RICH, pictureOf(x));
        due(5, x.addSpool('f', 10));
        due(5, x.addOrder('f', 10, 10));
    }

    private static void restoredChanges() {
        about("The state that is undone, saved and restored consists of everything");
        isRestored(x -> x.addSpool('c', 10));
        isRestored(x -> x.addOrder('b', 1, 1));
        isRestored(x -> x.cancel(0));
        isRestored(x -> x.fill(0));
        isRestored(x -> x.fillDue(99));
        isRestored(x -> x.retire(2));
        isRestored(x -> x.throwScraps('c'));
        isRestored(x -> x.setKerf(5));
        isRestored(x -> x.setScrapLimit(50));
        isRestored(x -> x.setRule('w'));
        isRestored(x -> runText(x, "spool c50;order c45@9;kerf 1;fill 5;retire 2;clear b;due 1"));
    }

    private static void changes() {
        about("A change is a successful call of addSpool, addOrder, cancel, fill, fillDue, retire,"
            + " throwScraps, setKerf, setScrapLimit, setRule or run.");
        isAChange(true, x -> x.addSpool('b', 10));
        isAChange(true, x -> x.addOrder('b', 1, 1));
        isAChange(true, x -> x.cancel(0));
        isAChange(true, x -> x.fill(1));
        isAChange(true, x -> x.fillDue(99));
        isAChange(true, x -> x.retire(0));
        isAChange(true, x -> x.throwScraps('a'));
        isAChange(true, x -> x.setKerf(5));
        isAChange(true, x -> x.setScrapLimit(50));
        isAChange(true, x -> x.setRule('w'));
        isAChange(true, x -> x.run());
        isAChange(true, x -> runText(x, ";fill 0;fill 1;rule w;clear a"));
        // Those that alter nothing are successful calls too.
        isAChange(true, x -> x.throwScraps('f'));
        isAChange(true, x -> x.setKerf(2));
        isAChange(true, x -> x.setScrapLimit(7));
        isAChange(true, x -> x.setRule('f'));
    }

    private static void noChanges() {
        isAChange(false, x -> x.addSpool('b', 9));
        isAChange(false, x -> x.addOrder('b', 0, 1));
        isAChange(false, x -> x.cancel(2));
        isAChange(false, x -> x.fill(2));
        isAChange(false, x -> x.fillDue(0));
        isAChange(false, x -> x.retire(1));
        isAChange(false, x -> x.throwScraps('g'));
        isAChange(false, x -> x.setKerf(6));
        isAChange(false, x -> x.setScrapLimit(0));
        isAChange(false, x -> x.setRule('x'));
        isAChange(false, x -> runText(x, ";"));
        isAChange(false, x -> runText(x, ";retire 0;retire 0"));
        isAChange(false, x -> x.type('x'));
        isAChange(false, x -> x.writeOrders());
        isAChange(false, x -> x.writeSpool(0));
        isAChange(false, x -> x.save());
        isAChange(false, x -> x.restore());
        isAChange(false, x -> x.undo());
        isAChange(false, x -> x.isConsistent());
        isAChange(false, x -> x.canFill(0));
    }

    private static WireCutter withRecords() {
        WireCutter x = fresh();
        x.addSpool('a', 100);
        x.save();
        x.addOrder('a', 10, 1);
        failsAt(x, 3, "ret");
        failsIn(x, 1, "kerf 3;retire 9");
        x.writeSpool(0);
        typeAll(x, "kerf");
        return x;
    }

    private static void hasRecords(WireCutter x) {
        due(3, x.errorPosition());
        due(1, x.failedCommand());
        due("0a:100/0", lineOf(x, 8));
        due(5, x.type(' '));
        due(6, x.type('2'));
        due(1, x.run());
        due(2, x.kerf());
    }

    private static void stateThatIsUndone() {
        about("The state that is undone, saved and restored consists of everything except the program buffer,"
            + " the error position, the failed command and the output line.");
        WireCutter undone = withRecords();
        due(1, undone.undo());
        due(0, undone.orders());
        hasRecords(undone);
        WireCutter restored = withRecords();
        due(1, restored.restore());
        due(0, restored.orders());
        hasRecords(restored);
        WireCutter saved = withRecords();
        due(1, saved.save());
        due(1, saved.restore());
        due(1, saved.orders());
        hasRecords(saved);
        WireCutter x = fresh();
        x.addSpool('a', 50);
        x.addOrder('a', 5, 1);
        x.undo();
        x.undo();
        due(0, x.addOrder('b', 5, 1));
        due(0, x.addSpool('b', 50));
        x.save();
        x.retire(0);
        x.cancel(0);
        x.addSpool('c', 20);
        x.addOrder('c', 20, 2);
        x.fill(1);
        due(1, x.restore());
        due(0, x.filled());
        due(1, x.addSpool('d', 20));
        due(1, x.addOrder('d', 20, 2));
        due(0, x.wound('c') + x.delivered('c'));
    }

    public static void main(String[] args) {
        lastCalls();
        firstExceptionListed();
        sixMaterials();
        tenSpools();
        spoolNumbers();
        spoolsAreLongerThanZero();
        scrapsAreLongerThanZero();
        equalScraps();
        fortyScraps();
        fortyScrapsAfterCuts();
        scrapsAreCutWhileFull();
        twelveOrders();
        orderNumbers();
        orderRanges();
        closedOrders();
        queue();
        kerfs();
        scrapLimits();
        everyRest();
        settings();
        shortestScrap();
        spoolsAfterScraps();
        unfillable();
        rules();
        ruleSigns();
        eightChanges();
        changes();
        noChanges();
        restoredChanges();
        stateThatIsUndone();
        end("the boundary cases of the terms hold");
    }
}
