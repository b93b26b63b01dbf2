import java.util.NoSuchElementException;

/** A workshop that cuts pieces of wire from spools. Not thread-safe. */
public final class WireCutter {
    private static final int NONE = -1;

    private static final char FIRST_MATERIAL = 'a';
    private static final char LAST_MATERIAL = 'f';
    private static final int MATERIALS = 6;

    private static final int SPOOL_LIMIT = 10;
    private static final int SHORTEST_SPOOL = 10;
    private static final int LONGEST_SPOOL = 999;
    private static final int SCRAP_COUNT_LIMIT = 40;

    private static final int ORDER_LIMIT = 12;
    private static final int LONGEST_PIECE = 200;
    private static final int LAST_DAY = 99;

    private static final int INITIAL_KERF = 1;
    private static final int GREATEST_KERF = 5;
    private static final int INITIAL_SCRAP_LIMIT = 5;
    private static final int GREATEST_SCRAP_LIMIT = 50;
    private static final char BEST = 'b';
    private static final char WORST = 'w';
    private static final char FIRST = 'f';

    private static final int TEXT_LIMIT = 60;
    // The shortest command has 5 characters, so no text has more commands.
    private static final int COMMAND_LIMIT = 12;
    private static final int NUMBER_DIGITS = 3;
    private static final Verb[] VERBS = Verb.values();

    private static final int UNDO_LIMIT = 8;

    private final Workshop workshop;
    private final Workshop saved;
    private final History history;
    private final Loads loads;
    private final Program program;
    private final StringBuilder line;
    private boolean isSaved;
    private int latestError;
    private int latestFailure;

    public WireCutter() {
        workshop = new Workshop();
        saved = new Workshop();
        history = new History();
        loads = new Loads();
        program = new Program();
        line = new StringBuilder();
        isSaved = false;
        latestError = NONE;
        latestFailure = NONE;
    }

    // ---- stock

    public int addSpool(char material, int length) throws IllegalArgumentException, IllegalStateException {
        history.prepare(workshop);
        int number = workshop.windSpool(material, length);
        history.commit();
        return number;
    }

    public int retire(int spool) throws NoSuchElementException {
        history.prepare(workshop);
        int length = workshop.retireSpool(spool);
        history.commit();
        return length;
    }

    public int throwScraps(char material) throws IllegalArgumentException {
        history.prepare(workshop);
        int sum = workshop.clearScraps(material);
        history.commit();
        return sum;
    }

    // ---- orders

    public int addOrder(char material, int length, int due) throws IllegalArgumentException, IllegalStateException {
        history.prepare(workshop);
        int number = workshop.takeOrder(material, length, due);
        history.commit();
        return number;
    }

    public int cancel(int order) throws NoSuchElementException {
        history.prepare(workshop);
        int position = workshop.cancelOrder(order);
        history.commit();
        return position;
    }

    public int fill(int order) throws NoSuchElementException, UnsupportedOperationException {
        history.prepare(workshop);
        int spool = workshop.fillOrder(order);
        history.commit();
        return spool;
    }

    public int fillDue(int day) throws IllegalArgumentException {
        history.prepare(workshop);
        int count = workshop.fillUntil(day);
        history.commit();
        return count;
    }

    // ---- settings

    public int setKerf(int kerf) throws IllegalArgumentException {
        history.prepare(workshop);
        int previous = workshop.changeKerf(kerf);
        history.commit();
        return previous;
    }

    public int setScrapLimit(int limit) throws IllegalArgumentException {
        history.prepare(workshop);
        int previous = workshop.changeScrapLimit(limit);
        history.commit();
        return previous;
    }

    public char setRule(char rule) throws IllegalArgumentException {
        history.prepare(workshop);
        char previous = workshop.changeRule(rule);
        history.commit();
        return previous;
    }

    public int kerf() {
        return workshop.kerf;
    }

    public int scrapLimit() {
        return workshop.scrapLimit;
    }

    public char rule() {
        return workshop.rule;
    }

    // ---- properties of the stock

    public int spools() {
        return workshop.spools.count();
    }

    public boolean hasSpool(int spool) {
        return workshop.spools.indexOf(spool) != NONE;
    }

    public char material(int spool) throws NoSuchElementException {
        return workshop.spools.materialAt(workshop.existingSpool(spool));
    }

    public int remaining(int spool) throws NoSuchElementException {
        return workshop.spools.lengthAt(workshop.existingSpool(spool));
    }

    public int cuts(int spool) throws NoSuchElementException {
        return workshop.spools.cutCountAt(workshop.existingSpool(spool));
    }

    public int spoolByLength(int rank) throws NoSuchElementException {
        int index = workshop.spools.indexOfRank(rank);
        if (index == NONE) {
            throw new NoSuchElementException("no such rank");
        }
        return workshop.spools.numberAt(index);
    }

    public int scraps(char material) throws IllegalArgumentException {
        requireMaterial(material);
        return workshop.scraps.countOf(material);
    }

    public int scrap(char material, int rank) throws IllegalArgumentException, NoSuchElementException {
        requireMaterial(material);
        int index = workshop.scraps.indexOfRank(material, rank);
        if (index == NONE) {
            throw new NoSuchElementException("no such rank");
        }
        return workshop.scraps.lengthAt(index);
    }

    public int bestLoad(int spool) throws NoSuchElementException {
        return loads.byTable(workshop, workshop.existingSpool(spool));
    }

    public int bestLoadByRecursion(int spool) throws NoSuchElementException {
        return loads.byRecursion(workshop, workshop.existingSpool(spool));
    }

    // ---- properties of orders

    public int orders() {
        return workshop.orders.count();
    }

    public boolean isOpen(int order) {
        return workshop.orders.positionOf(order) != NONE;
    }

    public char orderMaterial(int order) throws NoSuchElementException {
        return workshop.orders.materialAt(workshop.openOrder(order));
    }

    public int orderLength(int order) throws NoSuchElementException {
        return workshop.orders.lengthAt(workshop.openOrder(order));
    }

    public int due(int order) throws NoSuchElementException {
        return workshop.orders.dueAt(workshop.openOrder(order));
    }

    public int orderAt(int position) throws NoSuchElementException {
        if (position < 0 || position >= workshop.orders.count()) {
            throw new NoSuchElementException("no such position");
        }
        return workshop.orders.numberAt(position);
    }

    public boolean canFill(int order) throws NoSuchElementException {
        return workshop.isFillable(workshop.openOrder(order));
    }

    public int chosenScrap(int order) throws NoSuchElementException {
        int index = workshop.scrapFor(workshop.openOrder(order));
        if (index == NONE) {
            throw new NoSuchElementException("not from a scrap");
        }
        return workshop.scraps.lengthAt(index);
    }

    public int chosenSpool(int order) throws NoSuchElementException {
        int position = workshop.openOrder(order);
        int index = workshop.scrapFor(position) == NONE ? workshop.spoolFor(position) : NONE;
        if (index == NONE) {
            throw new NoSuchElementException("not from a spool");
        }
        return workshop.spools.numberAt(index);
    }

    // ---- accounts and statistics

    public int wound(char material) throws IllegalArgumentException {
        requireMaterial(material);
        return workshop.accounts.wound.get(placeOf(material));
    }

    public int woundByParts(char material) throws IllegalArgumentException {
        requireMaterial(material);
        return workshop.sumOfParts(material);
    }

    public int delivered(char material) throws IllegalArgumentException {
        requireMaterial(material);
        return workshop.accounts.delivered.get(placeOf(material));
    }

    public int losses(char material) throws IllegalArgumentException {
        requireMaterial(material);
        return workshop.accounts.lost.get(placeOf(material));
    }

    public int filled() {
        return workshop.accounts.filledCount;
    }

    public long totalDelivered() {
        return workshop.accounts.delivered.sum();
    }

    public double meanRemaining() throws ArithmeticException {
        int count = workshop.spools.count();
        if (count <= 0) {
            throw new ArithmeticException("no spools");
        }
        return (double) workshop.spools.sumOfLengths() / (double) count;
    }

    public float lossRate() throws ArithmeticException {
        long pieces = workshop.accounts.delivered.sum();
        if (pieces <= 0) {
            throw new ArithmeticException("no piece was cut");
        }
        return (float) workshop.accounts.lost.sum() / (float) pieces;
    }

    public boolean isConsistent() {
        return loadsAgree() && accountsAgree() && workshop.orders.isSorted();
    }

    // ---- output

    public int writeSpool(int spool) throws NoSuchElementException {
        int index = workshop.existingSpool(spool);
        line.setLength(0);
        line.append(spool);
        line.append(workshop.spools.materialAt(index));
        line.append(':');
        line.append(workshop.spools.lengthAt(index));
        line.append('/');
        line.append(workshop.spools.cutCountAt(index));
        return line.length();
    }

    public int writeOrders() {
        line.setLength(0);
        for (int i = 0; i < workshop.orders.count(); i++) {
            if (i > 0) {
                line.append(' ');
            }
            line.append(workshop.orders.numberAt(i));
            line.append(workshop.orders.materialAt(i));
            line.append(workshop.orders.lengthAt(i));
            line.append('@');
            line.append(workshop.orders.dueAt(i));
        }
        return line.length();
    }

    public char charAt(int index) throws IndexOutOfBoundsException {
        if (index < 0 || index >= line.length()) {
            throw new IndexOutOfBoundsException("outside of the line");
        }
        return line.charAt(index);
    }

    // ---- programs

    public int type(char character) throws IllegalStateException {
        if (program.isFull()) {
            throw new IllegalStateException("the buffer is full");
        }
        return program.append(character);
    }

    public int run() throws IllegalArgumentException, UnsupportedOperationException {
        int error = program.parse();
        if (error != NONE) {
            latestError = error;
            throw new IllegalArgumentException("not a program");
        }
        history.prepare(workshop);
        for (int i = 0; i < program.count(); i++) {
            if (!succeeds(program.commandAt(i))) {
                history.abandon(workshop);
                latestFailure = i;
                throw new UnsupportedOperationException("a command failed");
            }
        }
        history.commit();
        return program.count();
    }

    public int errorPosition() throws NoSuchElementException {
        if (latestError == NONE) {
            throw new NoSuchElementException("no syntax error");
        }
        return latestError;
    }

    public int failedCommand() throws NoSuchElementException {
        if (latestFailure == NONE) {
            throw new NoSuchElementException("no failed command");
        }
        return latestFailure;
    }

    // ---- undo and snapshots

    public int undo() throws IllegalStateException {
        if (history.count() <= 0) {
            throw new IllegalStateException("nothing to undo");
        }
        history.takeBack(workshop);
        return history.count();
    }

    public int save() {
        saved.copyFrom(workshop);
        isSaved = true;
        return workshop.spools.count();
    }

    public int restore() throws IllegalStateException {
        if (!isSaved) {
            throw new IllegalStateException("no saved state");
        }
        workshop.copyFrom(saved);
        history.forget();
        return workshop.spools.count();
    }

    // ---- helpers of the face

    private boolean loadsAgree() {
        for (int i = 0; i < workshop.spools.count(); i++) {
            if (loads.byTable(workshop, i) != loads.byRecursion(workshop, i)) {
                return false;
            }
        }
        return true;
    }

    private boolean accountsAgree() {
        for (int i = 0; i < MATERIALS; i++) {
            char material = (char) (FIRST_MATERIAL + i);
            if (workshop.accounts.wound.get(i) != workshop.sumOfParts(material)) {
                return false;
            }
        }
        return true;
    }

    private boolean succeeds(Command command) {
        if (command == null || command.verb == null) {
            return false;
        }
        try {
            workshop.execute(command);
            return true;
        } catch (IllegalArgumentException refused) {
            return false;
        } catch (IllegalStateException refused) {
            return false;
        } catch (NoSuchElementException refused) {
            return false;
        } catch (UnsupportedOperationException refused) {
            return false;
        }
    }

    private static boolean isMaterial(char character) {
        return character >= FIRST_MATERIAL && character <= LAST_MATERIAL;
    }

    private static boolean isRule(char character) {
        return character == BEST || character == WORST || character == FIRST;
    }

    private static boolean isDigit(char character) {
        return character >= '0' && character <= '9';
    }

    private static void requireMaterial(char character) {
        if (!isMaterial(character)) {
            throw new IllegalArgumentException("no such material");
        }
    }

    private static int placeOf(char material) {
        return material - FIRST_MATERIAL;
    }

    /** A list of numbers in a fixed number of places; all tests of its indexes are here. */
    private static final class Row {
        private final int[] places;
        private int size;

        Row(int capacity) {
            places = new int[capacity < 0 ? 0 : capacity];
            size = 0;
        }

        static Row ofZeros(int count) {
            Row row = new Row(count);
            row.size = row.places.length;
            return row;
        }

        int size() {
            return size;
        }

        int get(int index) {
            return index >= 0 && index < size && index < places.length ? places[index] : 0;
        }

        void increase(int index, int amount) {
            if (index >= 0 && index < size && index < places.length) {
                places[index] += amount;
            }
        }

        void set(int index, int value) {
            if (index >= 0 && index < size && index < places.length) {
                places[index] = value;
            }
        }

        void add(int value) {
            if (size >= 0 && size < places.length) {
                places[size] = value;
                size++;
            }
        }

        void insert(int index, int value) {
            if (index < 0 || index > size || size >= places.length) {
                return;
            }
            for (int i = size; i > index; i--) {
                places[i] = places[i - 1];
            }
            places[index] = value;
            size++;
        }

        void removeAt(int index) {
            if (index < 0 || index >= size || size > places.length) {
                return;
            }
            for (int i = index + 1; i < size; i++) {
                places[i - 1] = places[i];
            }
            size--;
        }

        void clear() {
            size = 0;
        }

        int indexOf(int value) {
            for (int i = 0; i < size && i < places.length; i++) {
                if (places[i] == value) {
                    return i;
                }
            }
            return NONE;
        }

        int sum() {
            int sum = 0;
            for (int i = 0; i < size && i < places.length; i++) {
                sum += places[i];
            }
            return sum;
        }

        void copyFrom(Row other) {
            int count = other.size;
            if (count > other.places.length || count > places.length) {
                return;
            }
            for (int i = 0; i < count; i++) {
                places[i] = other.places[i];
            }
            size = count;
        }
    }

    /** The spools, in the order of their numbers. */
    private static final class Spools {
        private final Row numbers = new Row(SPOOL_LIMIT);
        private final Row materials = new Row(SPOOL_LIMIT);
        private final Row lengths = new Row(SPOOL_LIMIT);
        private final Row cutCounts = new Row(SPOOL_LIMIT);
        private int nextNumber = 0;

        void copyFrom(Spools other) {
            numbers.copyFrom(other.numbers);
            materials.copyFrom(other.materials);
            lengths.copyFrom(other.lengths);
            cutCounts.copyFrom(other.cutCounts);
            nextNumber = other.nextNumber;
        }

        int count() {
            return numbers.size();
        }

        int indexOf(int number) {
            return numbers.indexOf(number);
        }

        int numberAt(int index) {
            return numbers.get(index);
        }

        char materialAt(int index) {
            return (char) materials.get(index);
        }

        int lengthAt(int index) {
            return lengths.get(index);
        }

        int cutCountAt(int index) {
            return cutCounts.get(index);
        }

        int sumOfLengths() {
            return lengths.sum();
        }

        int sumOf(char material) {
            int sum = 0;
            for (int i = 0; i < count(); i++) {
                if (materials.get(i) == material) {
                    sum += lengths.get(i);
                }
            }
            return sum;
        }

        int add(char material, int length) {
            int number = nextNumber;
            numbers.add(number);
            materials.add(material);
            lengths.add(length);
            cutCounts.add(0);
            nextNumber++;
            return number;
        }

        void shorten(int index, int length) {
            lengths.set(index, length);
            cutCounts.increase(index, 1);
        }

        void removeAt(int index) {
            numbers.removeAt(index);
            materials.removeAt(index);
            lengths.removeAt(index);
            cutCounts.removeAt(index);
        }

        int choose(char material, int piece, char rule) {
            int chosen = NONE;
            for (int i = 0; i < lengths.size(); i++) {
                boolean fits = materials.get(i) == material && lengths.get(i) >= piece;
                if (fits && (chosen == NONE || isPreferred(lengths.get(i), lengths.get(chosen), rule))) {
                    chosen = i;
                }
            }
            return chosen;
        }

        // Of equal spools none is preferred: the first one that was found has the smallest number.
        private static boolean isPreferred(int length, int other, char rule) {
            if (rule == BEST) {
                return length < other;
            }
            return rule == WORST && length > other;
        }

        int indexOfRank(int rank) {
            for (int i = 0; i < count(); i++) {
                if (rankOf(i) == rank) {
                    return i;
                }
            }
            return NONE;
        }

        private int rankOf(int index) {
            int rank = 0;
            for (int i = 0; i < count(); i++) {
                if (isBefore(i, index)) {
                    rank++;
                }
            }
            return rank;
        }

        private boolean isBefore(int index, int other) {
            if (lengths.get(index) != lengths.get(other)) {
                return lengths.get(index) > lengths.get(other);
            }
            if (materials.get(index) != materials.get(other)) {
                return materials.get(index) < materials.get(other);
            }
            return numbers.get(index) < numbers.get(other);
        }
    }

    /** The scraps, the shorter ones first, and what was thrown away for good. */
    private static final class Scraps {
        private final Row materials = new Row(SCRAP_COUNT_LIMIT);
        private final Row lengths = new Row(SCRAP_COUNT_LIMIT);
        private final Row thrown = Row.ofZeros(MATERIALS);

        void copyFrom(Scraps other) {
            materials.copyFrom(other.materials);
            lengths.copyFrom(other.lengths);
            thrown.copyFrom(other.thrown);
        }

        int lengthAt(int index) {
            return lengths.get(index);
        }

        int thrownOf(char material) {
            return thrown.get(placeOf(material));
        }

        int countOf(char material) {
            int count = 0;
            for (int i = 0; i < lengths.size(); i++) {
                if (materials.get(i) == material) {
                    count++;
                }
            }
            return count;
        }

        int sumOf(char material) {
            int sum = 0;
            for (int i = 0; i < lengths.size(); i++) {
                if (materials.get(i) == material) {
                    sum += lengths.get(i);
                }
            }
            return sum;
        }

        int indexOfRank(char material, int rank) {
            int before = 0;
            for (int i = 0; i < lengths.size(); i++) {
                if (materials.get(i) == material) {
                    if (before == rank) {
                        return i;
                    }
                    before++;
                }
            }
            return NONE;
        }

        int shortestFor(char material, int piece) {
            for (int i = 0; i < lengths.size(); i++) {
                if (materials.get(i) == material && lengths.get(i) >= piece) {
                    return i;
                }
            }
            return NONE;
        }

        void keepOrThrow(char material, int length) {
            if (lengths.size() >= SCRAP_COUNT_LIMIT) {
                thrown.increase(placeOf(material), length);
                return;
            }
            int index = 0;
            while (index < lengths.size() && lengths.get(index) < length) {
                index++;
            }
            materials.insert(index, material);
            lengths.insert(index, length);
        }

        void removeAt(int index) {
            materials.removeAt(index);
            lengths.removeAt(index);
        }

        int throwAll(char material) {
            int sum = sumOf(material);
            // From the end, because a removal moves the later ones.
            for (int i = lengths.size() - 1; i >= 0; i--) {
                if (materials.get(i) == material) {
                    removeAt(i);
                }
            }
            thrown.increase(placeOf(material), sum);
            return sum;
        }
    }

    /** The open orders, in the order of the queue. */
    private static final class Orders {
        private final Row numbers = new Row(ORDER_LIMIT);
        private final Row materials = new Row(ORDER_LIMIT);
        private final Row lengths = new Row(ORDER_LIMIT);
        private final Row dues = new Row(ORDER_LIMIT);
        private int nextNumber = 0;

        void copyFrom(Orders other) {
            numbers.copyFrom(other.numbers);
            materials.copyFrom(other.materials);
            lengths.copyFrom(other.lengths);
            dues.copyFrom(other.dues);
            nextNumber = other.nextNumber;
        }

        int count() {
            return numbers.size();
        }

        int positionOf(int number) {
            return numbers.indexOf(number);
        }

        int numberAt(int position) {
            return numbers.get(position);
        }

        char materialAt(int position) {
            return (char) materials.get(position);
        }

        int lengthAt(int position) {
            return lengths.get(position);
        }

        int dueAt(int position) {
            return dues.get(position);
        }

        int add(char material, int length, int due) {
            int position = 0;
            // A new number is greater than all others, so it stands behind those of its day.
            while (position < count() && dues.get(position) <= due) {
                position++;
            }
            int number = nextNumber;
            numbers.insert(position, number);
            materials.insert(position, material);
            lengths.insert(position, length);
            dues.insert(position, due);
            nextNumber++;
            return number;
        }

        void removeAt(int position) {
            numbers.removeAt(position);
            materials.removeAt(position);
            lengths.removeAt(position);
            dues.removeAt(position);
        }

        boolean isSorted() {
            for (int i = 1; i < count(); i++) {
                boolean isEarlier = dues.get(i - 1) < dues.get(i);
                boolean isSameDay = dues.get(i - 1) == dues.get(i);
                if (!isEarlier && !(isSameDay && numbers.get(i - 1) < numbers.get(i))) {
                    return false;
                }
            }
            return true;
        }
    }

    /** What was added, cut and lost so far, for each material. */
    private static final class Accounts {
        private final Row wound = Row.ofZeros(MATERIALS);
        private final Row delivered = Row.ofZeros(MATERIALS);
        private final Row lost = Row.ofZeros(MATERIALS);
        private int filledCount = 0;

        void copyFrom(Accounts other) {
            wound.copyFrom(other.wound);
            delivered.copyFrom(other.delivered);
            lost.copyFrom(other.lost);
            filledCount = other.filledCount;
        }
    }

    /** The state that is undone, saved and restored; a method that throws changes nothing in it. */
    private static final class Workshop {
        private final Spools spools = new Spools();
        private final Scraps scraps = new Scraps();
        private final Orders orders = new Orders();
        private final Accounts accounts = new Accounts();
        private int kerf = INITIAL_KERF;
        private int scrapLimit = INITIAL_SCRAP_LIMIT;
        private char rule = BEST;

        void copyFrom(Workshop other) {
            spools.copyFrom(other.spools);
            scraps.copyFrom(other.scraps);
            orders.copyFrom(other.orders);
            accounts.copyFrom(other.accounts);
            kerf = other.kerf;
            scrapLimit = other.scrapLimit;
            rule = other.rule;
        }

        int existingSpool(int number) {
            int index = spools.indexOf(number);
            if (index == NONE) {
                throw new NoSuchElementException("no such spool");
            }
            return index;
        }

        int openOrder(int number) {
            int position = orders.positionOf(number);
            if (position == NONE) {
                throw new NoSuchElementException("no such open order");
            }
            return position;
        }

        int windSpool(char material, int length) {
            requireMaterial(material);
            if (length < SHORTEST_SPOOL || length > LONGEST_SPOOL) {
                throw new IllegalArgumentException("length out of range");
            }
            if (spools.count() >= SPOOL_LIMIT) {
                throw new IllegalStateException("too many spools");
            }
            accounts.wound.increase(placeOf(material), length);
            return spools.add(material, length);
        }

        int retireSpool(int number) {
            int index = existingSpool(number);
            int length = spools.lengthAt(index);
            scraps.keepOrThrow(spools.materialAt(index), length);
            spools.removeAt(index);
            return length;
        }

        int clearScraps(char material) {
            requireMaterial(material);
            return scraps.throwAll(material);
        }

        int takeOrder(char material, int length, int due) {
            requireMaterial(material);
            if (length < 1 || length > LONGEST_PIECE) {
                throw new IllegalArgumentException("length out of range");
            }
            requireDay(due);
            if (orders.count() >= ORDER_LIMIT) {
                throw new IllegalStateException("too many open orders");
            }
            return orders.add(material, length, due);
        }

        int cancelOrder(int number) {
            int position = openOrder(number);
            orders.removeAt(position);
            return position;
        }

        int fillOrder(int number) {
            int position = openOrder(number);
            if (!isFillable(position)) {
                throw new UnsupportedOperationException("cannot be filled");
            }
            return fillAt(position);
        }

        int fillUntil(int day) {
            requireDay(day);
            int turns = orders.count();
            int position = 0;
            for (int turn = 0; turn < turns; turn++) {
                if (orders.dueAt(position) <= day && isFillable(position)) {
                    // The next order moves to this position.
                    fillAt(position);
                } else {
                    position++;
                }
            }
            return turns - orders.count();
        }

        int changeKerf(int newKerf) {
            if (newKerf < 0 || newKerf > GREATEST_KERF) {
                throw new IllegalArgumentException("kerf out of range");
            }
            int previous = kerf;
            kerf = newKerf;
            return previous;
        }

        int changeScrapLimit(int newLimit) {
            if (newLimit < 1 || newLimit > GREATEST_SCRAP_LIMIT) {
                throw new IllegalArgumentException("limit out of range");
            }
            int previous = scrapLimit;
            scrapLimit = newLimit;
            return previous;
        }

        char changeRule(char newRule) {
            if (!isRule(newRule)) {
                throw new IllegalArgumentException("no such rule");
            }
            char previous = rule;
            rule = newRule;
            return previous;
        }

        /** Throws what the method of the command throws. */
        void execute(Command command) {
            switch (command.verb) {
                case SPOOL:
                    windSpool(command.letter, command.firstNumber);
                    break;
                case ORDER:
                    takeOrder(command.letter, command.firstNumber, command.secondNumber);
                    break;
                case CANCEL:
                    cancelOrder(command.firstNumber);
                    break;
                case FILL:
                    fillOrder(command.firstNumber);
                    break;
                case DUE:
                    fillUntil(command.firstNumber);
                    break;
                case RETIRE:
                    retireSpool(command.firstNumber);
                    break;
                case CLEAR:
                    clearScraps(command.letter);
                    break;
                case KERF:
                    changeKerf(command.firstNumber);
                    break;
                case LIMIT:
                    changeScrapLimit(command.firstNumber);
                    break;
                case RULE:
                    changeRule(command.letter);
                    break;
            }
        }

        boolean isFillable(int position) {
            char material = orders.materialAt(position);
            int piece = orders.lengthAt(position);
            return scraps.shortestFor(material, piece) != NONE || spools.choose(material, piece, rule) != NONE;
        }

        int scrapFor(int position) {
            return scraps.shortestFor(orders.materialAt(position), orders.lengthAt(position));
        }

        int spoolFor(int position) {
            return spools.choose(orders.materialAt(position), orders.lengthAt(position), rule);
        }

        int sumOfParts(char material) {
            int place = placeOf(material);
            int stock = spools.sumOf(material) + scraps.sumOf(material);
            int gone = accounts.delivered.get(place) + accounts.lost.get(place) + scraps.thrownOf(material);
            return stock + gone;
        }

        private int fillAt(int position) {
            char material = orders.materialAt(position);
            int piece = orders.lengthAt(position);
            int scrap = scraps.shortestFor(material, piece);
            int number = NONE;
            if (scrap != NONE) {
                cutScrap(scrap, material, piece);
            } else {
                int spool = spools.choose(material, piece, rule);
                number = spools.numberAt(spool);
                cutSpool(spool, material, piece);
            }
            accounts.delivered.increase(placeOf(material), piece);
            accounts.filledCount++;
            orders.removeAt(position);
            return number;
        }

        private void cutScrap(int index, char material, int piece) {
            int left = lose(material, scraps.lengthAt(index) - piece);
            // Removed first, so that there is a place for what is left of it.
            scraps.removeAt(index);
            if (left > 0) {
                scraps.keepOrThrow(material, left);
            }
        }

        private void cutSpool(int index, char material, int piece) {
            int left = lose(material, spools.lengthAt(index) - piece);
            if (left >= scrapLimit) {
                spools.shorten(index, left);
                return;
            }
            spools.removeAt(index);
            if (left > 0) {
                scraps.keepOrThrow(material, left);
            }
        }

        private int lose(char material, int rest) {
            int loss = rest < kerf ? rest : kerf;
            accounts.lost.increase(placeOf(material), loss);
            return rest - loss;
        }

        private static void requireDay(int day) {
            if (day < 1 || day > LAST_DAY) {
                throw new IllegalArgumentException("day out of range");
            }
        }
    }

    /** The states before the latest changes, in a ring of rows that are used again. */
    private static final class History {
        // One more than can be undone: a change that fails must not cost the oldest state.
        private static final int PLACES = UNDO_LIMIT + 1;

        private final Workshop[] states = new Workshop[PLACES];
        private int next = 0;
        private int count = 0;

        History() {
            for (int i = 0; i < states.length; i++) {
                states[i] = new Workshop();
            }
        }

        int count() {
            return count;
        }

        void prepare(Workshop workshop) {
            if (next >= 0 && next < states.length && states[next] != null) {
                states[next].copyFrom(workshop);
            }
        }

        void commit() {
            next = next + 1 < PLACES ? next + 1 : 0;
            count = count < UNDO_LIMIT ? count + 1 : UNDO_LIMIT;
        }

        void abandon(Workshop workshop) {
            if (next >= 0 && next < states.length && states[next] != null) {
                workshop.copyFrom(states[next]);
            }
        }

        void takeBack(Workshop workshop) {
            next = next > 0 ? next - 1 : PLACES - 1;
            count--;
            abandon(workshop);
        }

        void forget() {
            count = 0;
        }
    }

    /** How much can be cut from a spool, in two ways that share nothing but the list of pieces. */
    private static final class Loads {
        private final int[] table = new int[LONGEST_SPOOL + GREATEST_KERF + 1];
        private final Row pieces = new Row(ORDER_LIMIT);

        int byTable(Workshop workshop, int spool) {
            gatherPieces(workshop.orders, workshop.spools.materialAt(spool));
            int room = roomOf(workshop, spool);
            if (room < 0 || room >= table.length) {
                return 0;
            }
            for (int i = 0; i <= room; i++) {
                table[i] = 0;
            }
            for (int i = 0; i < pieces.size(); i++) {
                enterPiece(pieces.get(i), workshop.kerf, room);
            }
            return table[room];
        }

        int byRecursion(Workshop workshop, int spool) {
            gatherPieces(workshop.orders, workshop.spools.materialAt(spool));
            return takeOrLeave(pieces, 0, pieces.sum(), workshop.kerf, roomOf(workshop, spool));
        }

        private void gatherPieces(Orders orders, char material) {
            pieces.clear();
            for (int i = 0; i < orders.count(); i++) {
                if (orders.materialAt(i) == material) {
                    pieces.add(orders.lengthAt(i));
                }
            }
        }

        // One piece needs no kerf: with a kerf more of room, all pieces may be counted with theirs.
        private static int roomOf(Workshop workshop, int spool) {
            return workshop.spools.lengthAt(spool) + workshop.kerf;
        }

        private void enterPiece(int piece, int kerf, int room) {
            int width = piece + kerf;
            if (width < 0 || room >= table.length) {
                return;
            }
            // Downwards, so that no sum has the same piece twice.
            for (int i = room; i >= width; i--) {
                int withPiece = table[i - width] + piece;
                if (withPiece > table[i]) {
                    table[i] = withPiece;
                }
            }
        }

        private static int takeOrLeave(Row pieces, int depth, int sumOfRest, int kerf, int room) {
            if (depth >= pieces.size() || depth >= ORDER_LIMIT) {
                return 0;
            }
            int piece = pieces.get(depth);
            int sumBehind = sumOfRest - piece;
            int taken = 0;
            if (piece + kerf <= room) {
                taken = piece + takeOrLeave(pieces, depth + 1, sumBehind, kerf, room - piece - kerf);
            }
            // To leave a piece cannot beat more than all the others together.
            if (taken >= sumBehind) {
                return taken;
            }
            int left = takeOrLeave(pieces, depth + 1, sumBehind, kerf, room);
            return taken > left ? taken : left;
        }
    }

    /** The first word of a command, and the parts after it, a sign each; see Program.parsePart. */
    private enum Verb {
        SPOOL("spool ", "mn"),
        ORDER("order ", "mn@n"),
        CANCEL("cancel ", "n"),
        FILL("fill ", "n"),
        DUE("due ", "n"),
        RETIRE("retire ", "n"),
        CLEAR("clear ", "m"),
        KERF("kerf ", "d"),
        LIMIT("limit ", "n"),
        RULE("rule ", "r");

        private final String word;
        private final String parts;

        Verb(String word, String parts) {
            this.word = word;
            this.parts = parts;
        }
    }

    private static final class Command {
        private Verb verb = null;
        private char letter = FIRST_MATERIAL;
        private int firstNumber = 0;
        private int secondNumber = 0;
        private int numberCount = 0;

        void begin(Verb newVerb) {
            verb = newVerb;
            numberCount = 0;
        }

        void putLetter(char newLetter) {
            letter = newLetter;
        }

        void putNumber(int number) {
            if (numberCount == 0) {
                firstNumber = number;
            } else {
                secondNumber = number;
            }
            numberCount++;
        }
    }

    /** The program buffer and its parser, which stops at the first character that cannot continue. */
    private static final class Program {
        private final char[] text = new char[TEXT_LIMIT];
        private final Command[] commands = new Command[COMMAND_LIMIT];
        private int length = 0;
        private int position = 0;
        private int count = 0;

        Program() {
            for (int i = 0; i < commands.length; i++) {
                commands[i] = new Command();
            }
        }

        boolean isFull() {
            return length >= text.length;
        }

        int append(char character) {
            if (length >= 0 && length < text.length) {
                text[length] = character;
                length++;
            }
            return length;
        }

        int count() {
            return count;
        }

        Command commandAt(int index) {
            return index >= 0 && index < count && index < commands.length ? commands[index] : null;
        }

        /** Empties the buffer, and returns NONE or the error position. */
        int parse() {
            position = 0;
            count = 0;
            boolean isProgram = parseCommands();
            length = 0;
            return isProgram ? NONE : position;
        }

        private boolean parseCommands() {
            for (int i = 0; i < commands.length; i++) {
                if (!parseCommand(commands[i])) {
                    return false;
                }
                count++;
                if (position >= length) {
                    return true;
                }
                if (!skip(';')) {
                    return false;
                }
            }
            return false;
        }

        private boolean parseCommand(Command command) {
            Verb verb = parseVerb();
            if (verb == null || command == null) {
                return false;
            }
            command.begin(verb);
            for (int i = 0; i < verb.parts.length(); i++) {
                if (!parsePart(verb.parts.charAt(i), command)) {
                    return false;
                }
            }
            return true;
        }

        private Verb parseVerb() {
            int farthest = 0;
            for (int i = 0; i < VERBS.length; i++) {
                int matching = matchingSigns(VERBS[i].word);
                if (matching == VERBS[i].word.length()) {
                    position += matching;
                    return VERBS[i];
                }
                farthest = matching > farthest ? matching : farthest;
            }
            position += farthest;
            return null;
        }

        private int matchingSigns(String word) {
            int matching = 0;
            while (matching < word.length() && isAt(position + matching, word.charAt(matching))) {
                matching++;
            }
            return matching;
        }

        private boolean parsePart(char part, Command command) {
            switch (part) {
                case 'm':
                    return isMaterial(current()) && takeLetter(command);
                case 'r':
                    return isRule(current()) && takeLetter(command);
                case 'd':
                    return takeNumber(1, command);
                case 'n':
                    return takeNumber(NUMBER_DIGITS, command);
                default:
                    return skip(part);
            }
        }

        private boolean takeLetter(Command command) {
            command.putLetter(current());
            position++;
            return true;
        }

        private boolean takeNumber(int digits, Command command) {
            int number = 0;
            int taken = 0;
            while (taken < digits && isDigit(current())) {
                number = 10 * number + (current() - '0');
                position++;
                taken++;
            }
            command.putNumber(number);
            return taken > 0;
        }

        private boolean skip(char character) {
            if (!isAt(position, character)) {
                return false;
            }
            position++;
            return true;
        }

        private boolean isAt(int index, char character) {
            return index >= 0 && index < length && index < text.length && text[index] == character;
        }

        // Behind the text stands a character that no part of the grammar takes.
        private char current() {
            return position >= 0 && position < length && position < text.length ? text[position] : (char) 0;
        }
    }
}
