import java.util.ArrayList;
import java.util.Arrays;
import java.util.Comparator;
import java.util.HashMap;
import java.util.List;
import java.util.Map;
import java.util.NoSuchElementException;
import java.util.function.IntPredicate;
import java.util.regex.Matcher;
import java.util.regex.Pattern;

/** Plays runs of chosen calls on the program and on a plain model of the document, and compares every answer. */
public final class ModelTest {
    private static final int RUNS = 3000;
    private static final int CALLS = 512;
    private static final String MATERIALS = "abcdef";

    private interface Call {
        Object answer();
    }

    private static final class Spool {
        int number;
        char material;
        int length;
        int cuts;
    }

    private static final class Order {
        int number;
        char material;
        int length;
        int due;
    }

    /** What is undone, saved and restored. */
    private static final class State {
        List<Spool> spools = new ArrayList<>();
        List<Order> orders = new ArrayList<>();
        // A scrap is a text like "a12".
        List<String> scraps = new ArrayList<>();
        Map<String, Integer> sums = new HashMap<>();
        int nextSpool = 0;
        int nextOrder = 0;
        int filled = 0;
        int kerf = 1;
        int limit = 5;
        char rule = 'b';

        State copy() {
            State copy = new State();
            for (Spool spool : spools) {
                copy.spools.add(spool(spool.number, spool.material, spool.length, spool.cuts));
            }
            copy.orders.addAll(orders);
            copy.scraps.addAll(scraps);
            copy.sums.putAll(sums);
            copy.nextSpool = nextSpool;
            copy.nextOrder = nextOrder;
            copy.filled = filled;
            copy.kerf = kerf;
            copy.limit = limit;
            copy.rule = rule;
            return copy;
        }

        int sum(String what, char material) {
            return sums.getOrDefault(what + material, 0);
        }

        void count(String what, char material, int amount) {
            sums.merge(what + material, amount, Integer::sum);
        }
    }

    private static Spool spool(int number, char material, int length, int cuts) {
        Spool spool = new Spool();
        spool.number = number;
        spool.material = material;
        spool.length = length;
        spool.cuts = cuts;
        return spool;
    }

    private static final class Model {
        private static final String NUMBER = "[0-9][0-9]?[0-9]?";
        private static final String COMMAND = "(spool [a-f]" + NUMBER + "|order [a-f]" + NUMBER + "@" + NUMBER
            + "|cancel " + NUMBER + "|fill " + NUMBER + "|due " + NUMBER + "|retire " + NUMBER
            + "|clear [a-f]|kerf [0-9]|limit " + NUMBER + "|rule [bwf])";
        private static final Pattern PROGRAM = Pattern.compile(COMMAND + "(;" + COMMAND + ")*");

        State state = new State();
        State saved = null;
        List<State> past = new ArrayList<>();
        String buffer = "";
        String line = "";
        int error = -1;
        int failure = -1;

        private Object change(Call call) {
            State before = state.copy();
            Object answer;
            try {
                answer = call.answer();
            } catch (RuntimeException e) {
                state = before;
                throw e;
            }
            past.add(before);
            if (past.size() > 8) {
                past.remove(0);
            }
            return answer;
        }

        private void argument(boolean holds) {
            if (!holds) {
                throw new IllegalArgumentException();
            }
        }

        private void material(char material) {
            argument(MATERIALS.indexOf(material) >= 0);
        }

        private Spool findSpool(int number) {
            return state.spools.stream().filter(s -> s.number == number).findAny().get();
        }

        private Order findOrder(int number) {
            return state.orders.stream().filter(o -> o.number == number).findAny().get();
        }

        private List<Order> queue() {
            List<Order> queue = new ArrayList<>(state.orders);
            queue.sort(Comparator.comparingInt((Order o) -> o.due).thenComparingInt(o -> o.number));
            return queue;
        }

        private int[] scrapLengths(char material) {
            return state.scraps.stream().filter(s -> s.charAt(0) == material)
                .mapToInt(s -> Integer.parseInt(s.substring(1))).sorted().toArray();
        }

        private void keep(char material, int length) {
            if (state.scraps.size() < 40) {
                state.scraps.add("" + material + length);
            } else {
                state.count("thrown", material, length);
            }
        }

        int addSpool(char material, int length) {
            material(material);
            argument(length >= 10 && length <= 999);
            if (state.spools.size() == 10) {
                throw new IllegalStateException();
            }
            state.spools.add(spool(state.nextSpool, material, length, 0));
            state.count("wound", material, length);
            return state.nextSpool++;
        }

        int retire(int number) {
            Spool spool = findSpool(number);
            keep(spool.material, spool.length);
            state.spools.remove(spool);
            return spool.length;
        }

        int throwScraps(char material) {
            material(material);
            int sum = Arrays.stream(scrapLengths(material)).sum();
            state.scraps.removeIf(s -> s.charAt(0) == material);
            state.count("thrown", material, sum);
            return sum;
        }

        int addOrder(char material, int length, int due) {
            material(material);
            argument(length >= 1 && length <= 200 && due >= 1 && due <= 99);
            if (state.orders.size() == 12) {
                throw new IllegalStateException();
            }
            Order order = new Order();
            order.number = state.nextOrder;
            order.material = material;
            order.length = length;
            order.due = due;
            state.orders.add(order);
            return state.nextOrder++;
        }

        int cancel(int number) {
            Order order = findOrder(number);
            int position = queue().indexOf(order);
            state.orders.remove(order);
            return position;
        }

        private int scrapFor(Order order) {
            return Arrays.stream(scrapLengths(order.material)).filter(l -> l >= order.length).findFirst().orElse(-1);
        }

        private int spoolFor(Order order) {
            if (scrapFor(order) >= 0) {
                return -1;
            }
            int sign = state.rule == 'b' ? 1 : state.rule == 'w' ? -1 : 0;
            return state.spools.stream().filter(s -> s.material == order.material && s.length >= order.length)
                .min(Comparator.comparingInt((Spool s) -> sign * s.length).thenComparingInt(s -> s.number))
                .map(s -> s.number).orElse(-1);
        }

        boolean canFill(int number) {
            Order order = findOrder(number);
            return scrapFor(order) >= 0 || spoolFor(order) >= 0;
        }

        int chosenScrap(int number) {
            int scrap = scrapFor(findOrder(number));
            if (scrap < 0) {
                throw new NoSuchElementException();
            }
            return scrap;
        }

        int chosenSpool(int number) {
            int chosen = spoolFor(findOrder(number));
            if (chosen < 0) {
                throw new NoSuchElementException();
            }
            return chosen;
        }

        int fill(int number) {
            Order order = findOrder(number);
            if (!canFill(number)) {
                throw new UnsupportedOperationException();
            }
            int scrap = scrapFor(order);
            int chosen = spoolFor(order);
            int rest = (scrap >= 0 ? scrap : findSpool(chosen).length) - order.length;
            int loss = Math.min(rest, state.kerf);
            int left = rest - loss;
            if (scrap >= 0) {
                state.scraps.remove("" + order.material + scrap);
                if (left > 0) {
                    keep(order.material, left);
                }
            } else if (left < state.limit) {
                state.spools.remove(findSpool(chosen));
                if (left > 0) {
                    keep(order.material, left);
                }
            } else {
                findSpool(chosen).length = left;
                findSpool(chosen).cuts++;
            }
            state.orders.remove(order);
            state.filled++;
            state.count("lost", order.material, loss);
            state.count("delivered", order.material, order.length);
            return chosen;
        }

        int fillDue(int day) {
            argument(day >= 1 && day <= 99);
            int filled = 0;
            for (Order order : queue()) {
                if (order.due <= day && canFill(order.number)) {
                    fill(order.number);
                    filled++;
                }
            }
            return filled;
        }

        int setKerf(int kerf) {
            argument(kerf >= 0 && kerf <= 5);
            int previous = state.kerf;
            state.kerf = kerf;
            return previous;
        }

        int setScrapLimit(int limit) {
            argument(limit >= 1 && limit <= 50);
            int previous = state.limit;
            state.limit = limit;
            return previous;
        }

        char setRule(char rule) {
            argument("bwf".indexOf(rule) >= 0);
            char previous = state.rule;
            state.rule = rule;
            return previous;
        }

        int spoolByLength(int rank) {
            if (rank < 0 || rank >= state.spools.size()) {
                throw new NoSuchElementException();
            }
            List<Spool> sorted = new ArrayList<>(state.spools);
            sorted.sort(Comparator.comparingInt((Spool s) -> -s.length).thenComparingInt(s -> s.material)
                .thenComparingInt(s -> s.number));
            return sorted.get(rank).number;
        }

        int scraps(char material) {
            material(material);
            return scrapLengths(material).length;
        }

        int scrap(char material, int rank) {
            material(material);
            int[] lengths = scrapLengths(material);
            if (rank < 0 || rank >= lengths.length) {
                throw new NoSuchElementException();
            }
            return lengths[rank];
        }

        int bestLoad(int number) {
            Spool spool = findSpool(number);
            int[] pieces = state.orders.stream().filter(o -> o.material == spool.material)
                .mapToInt(o -> o.length).toArray();
            int best = 0;
            for (int set = 1; set < 1 << pieces.length; set++) {
                int sum = 0;
                for (int i = 0; i < pieces.length; i++) {
                    sum += (set >> i & 1) * pieces[i];
                }
                if (sum + (Integer.bitCount(set) - 1) * state.kerf <= spool.length) {
                    best = Math.max(best, sum);
                }
            }
            return best;
        }

        int orderAt(int position) {
            List<Order> queue = queue();
            if (position < 0 || position >= queue.size()) {
                throw new NoSuchElementException();
            }
            return queue.get(position).number;
        }

        int sum(String what, char material) {
            material(material);
            return state.sum(what, material);
        }

        private long total(String what) {
            long total = 0;
            for (char material : MATERIALS.toCharArray()) {
                total += state.sum(what, material);
            }
            return total;
        }

        double meanRemaining() {
            if (state.spools.isEmpty()) {
                throw new ArithmeticException();
            }
            return (double) state.spools.stream().mapToInt(s -> s.length).sum() / (double) state.spools.size();
        }

        float lossRate() {
            if (total("delivered") == 0) {
                throw new ArithmeticException();
            }
            return (float) total("lost") / (float) total("delivered");
        }

        int writeSpool(int number) {
            Spool spool = findSpool(number);
            line = "" + number + spool.material + ":" + spool.length + "/" + spool.cuts;
            return line.length();
        }

        int writeOrders() {
            List<String> texts = new ArrayList<>();
            for (Order order : queue()) {
                texts.add("" + order.number + order.material + order.length + "@" + order.due);
            }
            line = String.join(" ", texts);
            return line.length();
        }

        char charAt(int index) {
            if (index < 0 || index >= line.length()) {
                throw new IndexOutOfBoundsException();
            }
            return line.charAt(index);
        }

        int type(char character) {
            if (buffer.length() == 60) {
                throw new IllegalStateException();
            }
            buffer += character;
            return buffer.length();
        }

        int run() {
            String text = buffer;
            buffer = "";
            if (!PROGRAM.matcher(text).matches()) {
                error = errorOf(text);
                throw new IllegalArgumentException();
            }
            String[] commands = text.split(";");
            return (Integer) change(() -> {
                for (int i = 0; i < commands.length; i++) {
                    try {
                        execute(commands[i]);
                    } catch (RuntimeException e) {
                        failure = i;
                        throw new UnsupportedOperationException();
                    }
                }
                return commands.length;
            });
        }

        private static int errorOf(String text) {
            for (int i = 1; i <= text.length(); i++) {
                Matcher matcher = PROGRAM.matcher(text.substring(0, i));
                if (!matcher.matches() && !matcher.hitEnd()) {
                    return i - 1;
                }
            }
            return text.length();
        }

        private void execute(String command) {
            String word = command.split(" ")[0];
            String rest = command.split(" ")[1];
            char letter = rest.charAt(0);
            switch (word) {
                case "spool" -> addSpool(letter, Integer.parseInt(rest.substring(1)));
                case "order" -> addOrder(letter, Integer.parseInt(rest.substring(1).split("@")[0]),
                    Integer.parseInt(rest.split("@")[1]));
                case "cancel" -> cancel(Integer.parseInt(rest));
                case "fill" -> fill(Integer.parseInt(rest));
                case "due" -> fillDue(Integer.parseInt(rest));
                case "retire" -> retire(Integer.parseInt(rest));
                case "clear" -> throwScraps(letter);
                case "kerf" -> setKerf(Integer.parseInt(rest));
                case "limit" -> setScrapLimit(Integer.parseInt(rest));
                default -> setRule(letter);
            }
        }

        private int recorded(int number) {
            if (number < 0) {
                throw new NoSuchElementException();
            }
            return number;
        }

        int undo() {
            if (past.isEmpty()) {
                throw new IllegalStateException();
            }
            state = past.remove(past.size() - 1);
            return past.size();
        }

        int save() {
            saved = state.copy();
            return state.spools.size();
        }

        int restore() {
            if (saved == null) {
                throw new IllegalStateException();
            }
            state = saved.copy();
            past.clear();
            return state.spools.size();
        }
    }

    /** A sequence of numbers that is the same in every run of the test. */
    private static final class Dice {
        private long seed;

        Dice(long seed) {
            this.seed = seed * 0x9E3779B97F4A7C15L + 12345;
        }

        int below(int bound) {
            seed = seed * 6364136223846793005L + 1442695040888963407L;
            return (int) ((seed >>> 33) % bound);
        }

        int between(int least, int greatest) {
            return least + below(greatest - least + 1);
        }
    }

    private static final class Player {
        private static final char[] ODD_LETTERS = {'g', '`', 'A', ' ', '0', (char) 0, (char) 255, (char) 65535};
        private static final int[] ODD_NUMBERS = {-1, Integer.MIN_VALUE, Integer.MAX_VALUE, 1000, 13, 40, 65536};

        private final WireCutter program = new WireCutter();
        private final Model model = new Model();
        private final Dice dice;
        private final int materials;
        private final int longestSpool;
        private final int longestPiece;
        // A run that fills the place for scraps.
        private final boolean hoards;
        private final List<String> log = new ArrayList<>();
        private String pending = "";
        private int calls = 0;
        int mostScraps = 0;

        Player(int run) {
            dice = new Dice(run);
            materials = dice.between(1, 6);
            longestSpool = dice.below(2) == 0 ? 999 : 120;
            longestPiece = dice.below(2) == 0 ? 200 : 12;
            hoards = dice.below(4) == 0;
        }

        /** Returns whether all answers agree. */
        boolean play() {
            // A step makes a call, or chooses the text that is typed next.
            for (int i = 0; i < 2 * CALLS && calls < CALLS; i++) {
                if (!step()) {
                    return false;
                }
            }
            return true;
        }

        private boolean step() {
            if (!pending.isEmpty()) {
                char next = pending.charAt(0);
                pending = pending.substring(1);
                return same("type " + next, () -> program.type(next), () -> model.type(next));
            }
            if (hoards && dice.below(2) == 0) {
                return dice.below(2) == 0 ? change(0) : rareChange(0);
            }
            int choice = dice.below(100);
            if (choice < 52) {
                return change(dice.below(24));
            }
            if (choice < 56) {
                return programs();
            }
            return question(dice.below(33));
        }

        private boolean same(String name, Call real, Call due) {
            // What later calls answer is free.
            if (calls >= CALLS) {
                return true;
            }
            calls++;
            String got = answer(real);
            String want = answer(due);
            mostScraps = Math.max(mostScraps, model.state.scraps.size());
            log.add(name + " -> " + got);
            if (got.equals(want)) {
                return true;
            }
            log.add("due is " + want);
            return false;
        }

        private static String answer(Call call) {
            try {
                return String.valueOf(call.answer());
            } catch (RuntimeException e) {
                return e.getClass().getName();
            }
        }

        private boolean sameChange(String name, Call real, Call due) {
            return same(name, real, () -> model.change(due));
        }

        private char letter() {
            return dice.below(30) == 0 ? ODD_LETTERS[dice.below(ODD_LETTERS.length)]
                : MATERIALS.charAt(dice.below(materials));
        }

        private int number(int least, int greatest) {
            int choice = dice.below(60);
            if (choice < 1) {
                return ODD_NUMBERS[dice.below(ODD_NUMBERS.length)];
            }
            if (choice < 6) {
                return choice < 3 ? least - choice % 2 : greatest + choice % 2;
            }
            return dice.between(least, greatest);
        }

        private int spoolNumber() {
            int next = model.state.nextSpool;
            if (!model.state.spools.isEmpty() && dice.below(5) > 0) {
                return model.state.spools.get(dice.below(model.state.spools.size())).number;
            }
            return number(0, next);
        }

        private int orderNumber() {
            int next = model.state.nextOrder;
            if (!model.state.orders.isEmpty() && dice.below(5) > 0) {
                return model.state.orders.get(dice.below(model.state.orders.size())).number;
            }
            return number(0, next);
        }

        private boolean change(int choice) {
            char m = letter();
            if (choice < 4) {
                int l = number(10, longestSpool);
                return sameChange("addSpool " + m + l, () -> program.addSpool(m, l), () -> model.addSpool(m, l));
            }
            if (choice < 12) {
                int l = number(1, longestPiece);
                int d = number(1, 99);
                return sameChange("addOrder " + m + l + "@" + d, () -> program.addOrder(m, l, d),
                    () -> model.addOrder(m, l, d));
            }
            if (choice < 16) {
                int o = orderNumber();
                return sameChange("fill " + o, () -> program.fill(o), () -> model.fill(o));
            }
            if (choice < 18) {
                int d = number(1, 99);
                return sameChange("fillDue " + d, () -> program.fillDue(d), () -> model.fillDue(d));
            }
            return rareChange(dice.below(16));
        }

        private boolean rareChange(int choice) {
            int s = spoolNumber();
            int o = orderNumber();
            if (choice < 4) {
                return sameChange("retire " + s, () -> program.retire(s), () -> model.retire(s));
            }
            if (choice < 6) {
                return sameChange("cancel " + o, () -> program.cancel(o), () -> model.cancel(o));
            }
            if (choice == 6) {
                int k = number(0, 5);
                return sameChange("setKerf " + k, () -> program.setKerf(k), () -> model.setKerf(k));
            }
            if (choice == 7) {
                int l = number(1, 50);
                return sameChange("setScrapLimit " + l, () -> program.setScrapLimit(l), () -> model.setScrapLimit(l));
            }
            if (choice == 8) {
                char r = dice.below(8) == 0 ? letter() : "bwf".charAt(dice.below(3));
                return sameChange("setRule " + r, () -> program.setRule(r), () -> model.setRule(r));
            }
            if (choice == 9) {
                char m = letter();
                return dice.below(hoards ? 12 : 4) > 0 || sameChange("throwScraps " + m, () -> program.throwScraps(m),
                    () -> model.throwScraps(m));
            }
            if (choice < 14) {
                return same("undo", () -> program.undo(), () -> model.undo());
            }
            if (choice == 14) {
                return same("save", () -> program.save(), () -> model.save());
            }
            return dice.below(3) > 0 || same("restore", () -> program.restore(), () -> model.restore());
        }

        private boolean programs() {
            int choice = dice.below(3);
            if (choice == 0) {
                pending = programText();
                return true;
            }
            return same("run", () -> program.run(), () -> model.run());
        }

        private String programText() {
            StringBuilder text = new StringBuilder();
            int commands = dice.between(1, 5);
            for (int i = 0; i < commands; i++) {
                text.append(i == 0 ? "" : ";").append(commandText());
            }
            int choice = dice.below(5);
            int place = dice.below(text.length());
            if (choice == 0) {
                text.setLength(place);
            } else if (choice == 1) {
                text.setCharAt(place, ";@ abr01w".charAt(dice.below(9)));
            }
            return text.toString();
        }

        private String commandText() {
            String word = "spool order cancel fill due retire clear kerf limit rule".split(" ")[dice.below(10)];
            switch (word) {
                case "spool":
                    return word + " " + MATERIALS.charAt(dice.below(materials)) + dice.between(9, 120);
                case "order":
                    return word + " " + MATERIALS.charAt(dice.below(materials)) + dice.between(1, 20) + "@"
                        + dice.between(1, 100);
                case "cancel":
                case "fill":
                    return word + " " + orderNumber();
                case "retire":
                    return word + " " + spoolNumber();
                case "clear":
                    return word + " " + MATERIALS.charAt(dice.below(6));
                case "kerf":
                    return word + " " + dice.between(0, 6);
                case "rule":
                    return word + " " + "bwf".charAt(dice.below(3));
                default:
                    return word + " " + dice.between(0, 100);
            }
        }

        private boolean question(int choice) {
            if (choice < 11) {
                return stockQuestion(choice);
            }
            return choice < 21 ? orderQuestion(choice) : otherQuestion(choice);
        }

        private boolean stockQuestion(int choice) {
            State state = model.state;
            int s = spoolNumber();
            int r = number(0, 12);
            char m = letter();
            switch (choice) {
                case 0:
                    return same("spools", () -> program.spools(), () -> state.spools.size());
                case 1:
                    IntPredicate isThere = n -> state.spools.stream().anyMatch(p -> p.number == n);
                    return same("hasSpool " + s, () -> program.hasSpool(s), () -> isThere.test(s));
                case 2:
                    return same("material " + s, () -> program.material(s), () -> model.findSpool(s).material);
                case 3:
                    return same("remaining " + s, () -> program.remaining(s), () -> model.findSpool(s).length);
                case 4:
                    return same("cuts " + s, () -> program.cuts(s), () -> model.findSpool(s).cuts);
                case 5:
                    return same("spoolByLength " + r, () -> program.spoolByLength(r), () -> model.spoolByLength(r));
                case 6:
                    return same("scraps " + m, () -> program.scraps(m), () -> model.scraps(m));
                case 7:
                case 8:
                    return same("scrap " + m + r, () -> program.scrap(m, r), () -> model.scrap(m, r));
                case 9:
                    return same("bestLoad " + s, () -> program.bestLoad(s), () -> model.bestLoad(s));
                default:
                    return same("bestLoadByRecursion " + s, () -> program.bestLoadByRecursion(s),
                        () -> model.bestLoad(s));
            }
        }

        private boolean orderQuestion(int choice) {
            State state = model.state;
            int o = orderNumber();
            int p = number(0, 12);
            switch (choice) {
                case 11:
                    return same("orders", () -> program.orders(), () -> state.orders.size());
                case 12:
                    IntPredicate isThere = n -> state.orders.stream().anyMatch(q -> q.number == n);
                    return same("isOpen " + o, () -> program.isOpen(o), () -> isThere.test(o));
                case 13:
                    return same("orderMaterial " + o, () -> program.orderMaterial(o),
                        () -> model.findOrder(o).material);
                case 14:
                    return same("orderLength " + o, () -> program.orderLength(o), () -> model.findOrder(o).length);
                case 15:
                    return same("due " + o, () -> program.due(o), () -> model.findOrder(o).due);
                case 16:
                    return same("orderAt " + p, () -> program.orderAt(p), () -> model.orderAt(p));
                case 17:
                    return same("canFill " + o, () -> program.canFill(o), () -> model.canFill(o));
                case 18:
                    return same("chosenScrap " + o, () -> program.chosenScrap(o), () -> model.chosenScrap(o));
                default:
                    return same("chosenSpool " + o, () -> program.chosenSpool(o), () -> model.chosenSpool(o));
            }
        }

        private boolean otherQuestion(int choice) {
            State state = model.state;
            int s = spoolNumber();
            char m = letter();
            switch (choice) {
                case 21:
                    return same("wound " + m, () -> program.wound(m), () -> model.sum("wound", m));
                case 22:
                    return same("woundByParts " + m, () -> program.woundByParts(m), () -> model.sum("wound", m));
                case 23:
                    return same("delivered " + m, () -> program.delivered(m), () -> model.sum("delivered", m));
                case 24:
                    return same("losses " + m, () -> program.losses(m), () -> model.sum("lost", m));
                case 25:
                    return same("filled", () -> program.filled(), () -> state.filled)
                        && same("totalDelivered", () -> program.totalDelivered(), () -> model.total("delivered"));
                case 26:
                    return same("meanRemaining", () -> program.meanRemaining(), () -> model.meanRemaining());
                case 27:
                    return same("lossRate", () -> program.lossRate(), () -> model.lossRate());
                case 28:
                    return same("isConsistent", () -> program.isConsistent(), () -> true);
                case 29:
                    return same("kerf", () -> program.kerf(), () -> state.kerf)
                        && same("scrapLimit", () -> program.scrapLimit(), () -> state.limit)
                        && same("rule", () -> program.rule(), () -> state.rule);
                case 30:
                    return same("writeSpool " + s, () -> program.writeSpool(s), () -> model.writeSpool(s))
                        && sameLine();
                case 31:
                    return same("writeOrders", () -> program.writeOrders(), () -> model.writeOrders()) && sameLine();
                default:
                    return same("errorPosition", () -> program.errorPosition(), () -> model.recorded(model.error))
                        && same("failedCommand", () -> program.failedCommand(), () -> model.recorded(model.failure));
            }
        }

        private boolean sameLine() {
            for (int i = -1; i <= model.line.length(); i++) {
                int index = i;
                if (!same("charAt " + i, () -> program.charAt(index), () -> model.charAt(index))) {
                    return false;
                }
            }
            return true;
        }
    }

    public static void main(String[] args) {
        int wrong = 0;
        int full = 0;
        for (int run = 0; run < RUNS && wrong < 3; run++) {
            Player player = new Player(run);
            if (!player.play()) {
                wrong++;
                System.out.println("run " + run + ":");
                player.log.forEach(entry -> System.out.println("    " + entry));
            }
            full += player.mostScraps == 40 ? 1 : 0;
        }
        if (wrong == 0 && full == 0) {
            wrong++;
            System.out.println("no run came to 40 scraps");
        }
        if (wrong > 0) {
            System.exit(1);
        }
        System.out.println(RUNS + " runs agree with the model, " + full + " of them with 40 scraps");
    }
}
