import java.util.ArrayList;
import java.util.List;

/**
 * "A method that throws an exception changes nothing, except that run() empties the program buffer and records a
 * syntax error or a failed command." Of two objects that were made alike, one has a call refused; then both are
 * looked at in the same way, and have to answer the same. For each look two new objects are made, so that what is
 * undone, restored or run by one look does not hide what the next one could see.
 */
public final class RefusalTest extends Checks {
    private interface Maker {
        WireCutter make();
    }

    private interface Look {
        String at(WireCutter x);
    }

    private static final class Refusal {
        final String name;
        final Class<?> exception;
        final CallOn call;

        Refusal(String name, Class<?> exception, CallOn call) {
            this.name = name;
            this.exception = exception;
            this.call = call;
        }
    }

    private static final List<Refusal> refusals = new ArrayList<>();
    private static int pairs = 0;

    private static void refusal(String name, Class<?> exception, CallOn call) {
        refusals.add(new Refusal(name, exception, call));
    }

    // ---- the objects

    /** Nothing can be undone, nothing is saved or recorded. */
    private static WireCutter unused() {
        return fresh();
    }

    /** Some of everything: more than 8 changes, a saved state, a line, both records, and "kerf 3" in the buffer. */
    private static WireCutter busy() {
        WireCutter x = fresh();
        addSpools(x, 'a', 100, 60);
        addSpools(x, 'b', 20);
        addScrap(x, 'a', 30);
        addOrders(x, 'a', 25, 40, 90);
        x.save();
        failsAt(x, 5, "retir");
        failsIn(x, 1, "kerf 0;kerf 9");
        x.addOrder('c', 5, 9);
        x.fill(0);
        x.fill(1);
        x.setRule('w');
        x.setScrapLimit(7);
        x.cancel(x.addOrder('b', 1, 1));
        x.writeSpool(0);
        typeAll(x, "kerf 3");
        return x;
    }

    /** Full of spools, orders and scraps, with a full buffer, and three changes that can be undone. */
    private static WireCutter full() {
        WireCutter x = fresh();
        addScraps(x, 'f', 10, 40);
        addSpools(x, 'a', 10, 20, 30, 40, 50, 60, 70, 80, 90);
        addOrders(x, 'a', 10, 20, 30, 40, 50, 60, 70, 80, 91, 91);
        x.save();
        x.restore();
        x.addSpool('b', 999);
        addOrders(x, 'b', 200);
        addOrders(x, 'c', 10);
        typeAll(x, "due 1;due 1;due 1;due 1;due 1;due 1;due 1;due 1;due 1;kerf 4");
        return x;
    }

    // ---- the looks

    private static String lineAndRecords(WireCutter x) {
        StringBuilder line = new StringBuilder();
        Object sign = outcome(() -> x.charAt(0));
        for (int i = 1; i < 20 && sign instanceof Character; i++) {
            line.append(sign);
            int index = i;
            sign = outcome(() -> x.charAt(index));
        }
        return line + "|" + outcome(() -> x.errorPosition()) + "|" + outcome(() -> x.failedCommand());
    }

    private static String buffer(WireCutter x) {
        return outcome(() -> x.run()) + "|" + x.kerf() + "|" + outcome(() -> x.errorPosition());
    }

    private static String bufferAfterOneMore(WireCutter x) {
        return outcome(() -> x.type('5')) + "|" + buffer(x);
    }

    private static String afterUndo(WireCutter x, int times) {
        Object last = "";
        for (int i = 0; i < times; i++) {
            last = outcome(() -> x.undo());
        }
        return last + "|" + pictureOf(x);
    }

    private static String afterRestore(WireCutter x) {
        Object spools = outcome(() -> x.restore());
        return spools + "|" + pictureOf(x) + outcome(() -> x.undo());
    }

    private static String nextNumbers(WireCutter x) {
        outcome(() -> x.retire(0));
        outcome(() -> x.cancel(x.orderAt(0)));
        Object spool = outcome(() -> x.addSpool('e', 50));
        Object order = outcome(() -> x.addOrder('e', 40, 50));
        return spool + "|" + order + "|" + pictureOf(x);
    }

    private static List<Look> looksAtState() {
        List<Look> looks = new ArrayList<>();
        looks.add(x -> pictureOf(x));
        for (int i = 1; i <= 9; i++) {
            int times = i;
            looks.add(x -> afterUndo(x, times));
        }
        looks.add(x -> afterRestore(x));
        looks.add(x -> nextNumbers(x));
        return looks;
    }

    private static List<Look> looksAtAll() {
        List<Look> looks = looksAtState();
        looks.add(x -> lineAndRecords(x));
        looks.add(x -> buffer(x));
        looks.add(x -> bufferAfterOneMore(x));
        return looks;
    }

    // ---- the refused calls

    private static void wrongArguments() {
        refusal("addSpool with no material", ARGUMENT, x -> x.addSpool('g', 50));
        refusal("addSpool below", ARGUMENT, x -> x.addSpool('a', 9));
        refusal("addSpool above", ARGUMENT, x -> x.addSpool('a', 1000));
        refusal("throwScraps with no material", ARGUMENT, x -> x.throwScraps('A'));
        refusal("addOrder with no material", ARGUMENT, x -> x.addOrder('`', 1, 1));
        refusal("addOrder of 0", ARGUMENT, x -> x.addOrder('a', 0, 1));
        refusal("addOrder of 201", ARGUMENT, x -> x.addOrder('a', 201, 1));
        refusal("addOrder on day 0", ARGUMENT, x -> x.addOrder('a', 1, 0));
        refusal("addOrder on day 100", ARGUMENT, x -> x.addOrder('a', 1, 100));
        refusal("fillDue on day 0", ARGUMENT, x -> x.fillDue(0));
        refusal("fillDue on day 100", ARGUMENT, x -> x.fillDue(100));
        refusal("setKerf below", ARGUMENT, x -> x.setKerf(-1));
        refusal("setKerf above", ARGUMENT, x -> x.setKerf(6));
        refusal("setScrapLimit below", ARGUMENT, x -> x.setScrapLimit(0));
        refusal("setScrapLimit above", ARGUMENT, x -> x.setScrapLimit(51));
        refusal("setRule", ARGUMENT, x -> x.setRule('x'));
        refusal("scraps", ARGUMENT, x -> x.scraps('g'));
        refusal("scrap", ARGUMENT, x -> x.scrap('g', 0));
        refusal("wound", ARGUMENT, x -> x.wound('g'));
        refusal("woundByParts", ARGUMENT, x -> x.woundByParts('g'));
        refusal("delivered", ARGUMENT, x -> x.delivered('g'));
        refusal("losses", ARGUMENT, x -> x.losses('g'));
        refusal("charAt below", INDEX, x -> x.charAt(-1));
        refusal("charAt above", INDEX, x -> x.charAt(99));
    }

    private static void missingElements() {
        for (int number : new int[] {-1, 99}) {
            refusal("retire " + number, NO_ELEMENT, x -> x.retire(number));
            refusal("cancel " + number, NO_ELEMENT, x -> x.cancel(number));
            refusal("fill " + number, NO_ELEMENT, x -> x.fill(number));
            refusal("material " + number, NO_ELEMENT, x -> x.material(number));
            refusal("remaining " + number, NO_ELEMENT, x -> x.remaining(number));
            refusal("cuts " + number, NO_ELEMENT, x -> x.cuts(number));
            refusal("spoolByLength " + number, NO_ELEMENT, x -> x.spoolByLength(number));
            refusal("scrap " + number, NO_ELEMENT, x -> x.scrap('a', number));
            refusal("bestLoad " + number, NO_ELEMENT, x -> x.bestLoad(number));
            refusal("bestLoadByRecursion " + number, NO_ELEMENT, x -> x.bestLoadByRecursion(number));
            refusal("orderMaterial " + number, NO_ELEMENT, x -> x.orderMaterial(number));
            refusal("orderLength " + number, NO_ELEMENT, x -> x.orderLength(number));
            refusal("due " + number, NO_ELEMENT, x -> x.due(number));
            refusal("orderAt " + number, NO_ELEMENT, x -> x.orderAt(number));
            refusal("canFill " + number, NO_ELEMENT, x -> x.canFill(number));
            refusal("chosenScrap " + number, NO_ELEMENT, x -> x.chosenScrap(number));
            refusal("chosenSpool " + number, NO_ELEMENT, x -> x.chosenSpool(number));
            refusal("writeSpool " + number, NO_ELEMENT, x -> x.writeSpool(number));
        }
    }

    private static void onlyWhenUnused() {
        refusal("undo", STATE, x -> x.undo());
        refusal("restore", STATE, x -> x.restore());
        refusal("meanRemaining", ARITHMETIC, x -> x.meanRemaining());
        refusal("lossRate", ARITHMETIC, x -> x.lossRate());
        refusal("errorPosition", NO_ELEMENT, x -> x.errorPosition());
        refusal("failedCommand", NO_ELEMENT, x -> x.failedCommand());
    }

    private static void onlyWhenBusy() {
        refusal("retire of a retired spool", NO_ELEMENT, x -> x.retire(3));
        refusal("writeSpool of a retired spool", NO_ELEMENT, x -> x.writeSpool(3));
        refusal("cancel of a filled order", NO_ELEMENT, x -> x.cancel(0));
        refusal("fill of a filled order", NO_ELEMENT, x -> x.fill(1));
        refusal("fill of a cancelled order", NO_ELEMENT, x -> x.fill(4));
        refusal("fill of an order that cannot be filled", UNSUPPORTED, x -> x.fill(3));
        refusal("chosenScrap of an order from a spool", NO_ELEMENT, x -> x.chosenScrap(2));
        refusal("chosenSpool of an order that cannot be filled", NO_ELEMENT, x -> x.chosenSpool(3));
    }

    private static void onlyWhenFull() {
        refusal("addSpool", STATE, x -> x.addSpool('a', 50));
        refusal("addOrder", STATE, x -> x.addOrder('a', 5, 9));
        refusal("type", STATE, x -> x.type('5'));
        refusal("type of another character", STATE, x -> x.type('#'));
        refusal("fill of an order that cannot be filled", UNSUPPORTED, x -> x.fill(9));
        refusal("lossRate", ARITHMETIC, x -> x.lossRate());
        refusal("errorPosition", NO_ELEMENT, x -> x.errorPosition());
        refusal("failedCommand", NO_ELEMENT, x -> x.failedCommand());
    }

    private static void changeNothing(String kind, Maker maker) {
        List<Look> looks = looksAtAll();
        List<String> want = new ArrayList<>();
        for (Look look : looks) {
            want.add(look.at(maker.make()));
        }
        for (Refusal refusal : refusals) {
            about("A method that throws an exception changes nothing: " + kind + ", " + refusal.name);
            for (int i = 0; i < looks.size(); i++) {
                WireCutter x = maker.make();
                refused(refusal.exception, () -> refusal.call.on(x));
                due(want.get(i), looks.get(i).at(x));
                pairs++;
            }
        }
        refusals.clear();
    }

    // ---- run

    private static final String[] SUCCEEDING = {"", "spool f99;", "order b5@5;", "cancel 2;", "fill 2;", "due 99;",
        "retire 0;", "clear a;", "kerf 5;", "limit 50;", "rule f;", "rule f;due 9;clear a;kerf 0;"};
    private static final String[] FAILING = {"spool a9", "order a0@1", "order a1@100", "cancel 99", "fill 99",
        "fill 3", "due 0", "due 100", "retire 99", "kerf 6", "limit 0", "limit 51"};

    /** The same as busy(), but its buffer is empty. */
    private static WireCutter busyWithEmptyBuffer() {
        WireCutter x = busy();
        x.run();
        x.undo();
        // What the undone change had pushed out of the latest 8 is made up for by one change more.
        x.setKerf(x.kerf());
        return x;
    }

    private static void refusedRunsChangeNoState() {
        List<Look> looks = looksAtState();
        for (Look look : looks) {
            String want = look.at(busyWithEmptyBuffer());
            for (String first : SUCCEEDING) {
                about("run changes nothing but the buffer and the records: a failed command after " + first);
                for (String failing : FAILING) {
                    WireCutter x = busyWithEmptyBuffer();
                    typeAll(x, first + failing + (first.length() < 25 ? ";kerf 2;rule b;spool a500" : ""));
                    refused(UNSUPPORTED, () -> x.run());
                    due(want, look.at(x));
                    pairs++;
                }
                about("run changes nothing but the buffer and the records: a syntax error after " + first);
                WireCutter x = busyWithEmptyBuffer();
                typeAll(x, first + "kerf 2;kerf");
                refused(ARGUMENT, () -> x.run());
                due(want, look.at(x));
            }
        }
    }

    private static void refusedRunsKeepTheOtherRecords() {
        about("run() empties the program buffer and records a syntax error or a failed command");
        WireCutter x = busyWithEmptyBuffer();
        String records = lineAndRecords(x);
        due("0a:100/0|5|1", records);
        typeAll(x, "rule f;kerf 2;kerf 8");
        refused(UNSUPPORTED, () -> x.run());
        due("0a:100/0|5|2", lineAndRecords(x));
        typeAll(x, "kerf 22");
        refused(ARGUMENT, () -> x.run());
        due("0a:100/0|6|2", lineAndRecords(x));
        due(1, x.type('k'));
        refused(ARGUMENT, () -> x.run());
        due("0a:100/0|1|2", lineAndRecords(x));
        refused(ARGUMENT, () -> x.run());
        due("0a:100/0|0|2", lineAndRecords(x));
    }

    public static void main(String[] args) {
        wrongArguments();
        missingElements();
        onlyWhenUnused();
        changeNothing("unused", () -> unused());
        wrongArguments();
        missingElements();
        onlyWhenBusy();
        changeNothing("busy", () -> busy());
        wrongArguments();
        missingElements();
        onlyWhenFull();
        changeNothing("full", () -> full());
        refusedRunsChangeNoState();
        refusedRunsKeepTheOtherRecords();
        end(pairs + " pairs of objects are alike after one has a call refused");
    }
}
