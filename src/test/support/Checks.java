import java.util.NoSuchElementException;

/** What the tests share: they compare an answer with the one that is due, and count what is wrong. */
class Checks {
    static final Class<?> ARGUMENT = IllegalArgumentException.class;
    static final Class<?> STATE = IllegalStateException.class;
    static final Class<?> NO_ELEMENT = NoSuchElementException.class;
    static final Class<?> UNSUPPORTED = UnsupportedOperationException.class;
    static final Class<?> ARITHMETIC = ArithmeticException.class;
    static final Class<?> INDEX = IndexOutOfBoundsException.class;

    private static int wrong = 0;
    private static String subject = "";

    interface Call {
        Object answer();
    }

    interface CallOn {
        Object on(WireCutter x);
    }

    static void about(String newSubject) {
        subject = newSubject;
    }

    static void due(Object want, Object got) {
        if (!want.equals(got)) {
            wrong++;
            System.out.println(subject + ", " + place() + ": " + got + ", due is " + want);
        }
    }

    static void refused(Class<?> want, Call call) {
        due(want.getName(), outcome(call));
    }

    /** The answer, or the name of the exception. */
    static Object outcome(Call call) {
        try {
            return call.answer();
        } catch (RuntimeException e) {
            return e.getClass().getName();
        }
    }

    static void end(String success) {
        if (wrong > 0) {
            System.exit(1);
        }
        System.out.println(success);
    }

    private static String place() {
        for (StackTraceElement element : new Throwable().getStackTrace()) {
            if (!element.getClassName().startsWith("Checks")) {
                return element.getMethodName() + " line " + element.getLineNumber();
            }
        }
        return "";
    }

    static WireCutter fresh() {
        return new WireCutter();
    }

    static void typeAll(WireCutter x, String text) {
        for (char character : text.toCharArray()) {
            x.type(character);
        }
    }

    static int runText(WireCutter x, String text) {
        typeAll(x, text);
        return x.run();
    }

    static void failsAt(WireCutter x, int position, String text) {
        typeAll(x, text);
        refused(ARGUMENT, () -> x.run());
        due(position, x.errorPosition());
    }

    static void failsIn(WireCutter x, int command, String text) {
        typeAll(x, text);
        refused(UNSUPPORTED, () -> x.run());
        due(command, x.failedCommand());
    }

    static String lineOf(WireCutter x, int length) {
        StringBuilder line = new StringBuilder();
        for (int i = 0; i < length; i++) {
            line.append(x.charAt(i));
        }
        refused(INDEX, () -> x.charAt(length));
        return line.toString();
    }

    static String spoolLine(WireCutter x, int spool) {
        return lineOf(x, x.writeSpool(spool));
    }

    static String orderLine(WireCutter x) {
        return lineOf(x, x.writeOrders());
    }

    static String scrapList(WireCutter x, char material) {
        StringBuilder list = new StringBuilder();
        int count = x.scraps(material);
        for (int i = 0; i < count; i++) {
            list.append(i > 0 ? " " : "").append(x.scrap(material, i));
        }
        return list.toString();
    }

    static void addScrap(WireCutter x, char material, int length) {
        x.retire(x.addSpool(material, length));
    }

    static void addScraps(WireCutter x, char material, int length, int count) {
        for (int i = 0; i < count; i++) {
            addScrap(x, material, length);
        }
    }

    static void addSpools(WireCutter x, char material, int... lengths) {
        for (int length : lengths) {
            x.addSpool(material, length);
        }
    }

    static void addOrders(WireCutter x, char material, int... lengths) {
        for (int length : lengths) {
            x.addOrder(material, length, 1);
        }
    }

    /** All of the state that can be asked for, in some 60 calls, and 170 when all is full. */
    static String pictureOf(WireCutter x) {
        StringBuilder picture = new StringBuilder();
        int spools = x.spools();
        for (int i = 0; i < spools; i++) {
            int spool = x.spoolByLength(i);
            picture.append(spool).append(x.material(spool)).append(':').append(x.remaining(spool))
                .append('/').append(x.cuts(spool)).append(' ');
        }
        int orders = x.orders();
        for (int i = 0; i < orders; i++) {
            int order = x.orderAt(i);
            picture.append(order).append(x.orderMaterial(order)).append(x.orderLength(order))
                .append('@').append(x.due(order)).append(' ');
        }
        for (char m = 'a'; m <= 'f'; m++) {
            picture.append(m).append('[').append(scrapList(x, m)).append("] ").append(x.wound(m)).append('=')
                .append(x.woundByParts(m)).append('=').append(x.delivered(m)).append('+').append(x.losses(m))
                .append("+.. ");
        }
        picture.append('k').append(x.kerf()).append('l').append(x.scrapLimit()).append(x.rule());
        return picture.append(" filled ").append(x.filled()).toString();
    }
}
