/** A test for each boundary case of programs: the grammar, the error position, type, run and what they record. */
public final class ProgramsBoundaryTest extends Checks {
    // None of them has a beginning that is a program.
    private static final String[] SHORTEST = {"spool a1", "order f2@3", "cancel 4", "fill 5", "due 6", "retire 7",
        "clear b", "kerf 3", "limit 8", "rule w"};
    // Signs that no program contains.
    private static final char[] WRONG = {'#', 'z', 'A', (char) 0, (char) 255, (char) 256, (char) (256 + 'a'),
        (char) 65535};

    private static WireCutter stocked() {
        WireCutter x = fresh();
        x.addSpool('a', 100);
        x.addSpool('b', 100);
        addOrders(x, 'a', 10, 20);
        addScrap(x, 'c', 30);
        return x;
    }

    private static void accepted(int commands, String text) {
        WireCutter x = stocked();
        due(commands, runText(x, text));
        refused(NO_ELEMENT, () -> x.errorPosition());
        refused(NO_ELEMENT, () -> x.failedCommand());
    }

    private static void fails(int command, String text) {
        WireCutter x = stocked();
        failsIn(x, command, text);
        refused(NO_ELEMENT, () -> x.errorPosition());
    }

    private static void wrongAt(int position, String text) {
        WireCutter x = stocked();
        failsAt(x, position, text);
        refused(NO_ELEMENT, () -> x.failedCommand());
    }

    // ---- the grammar

    private static void repetitions() {
        about("program = command { \";\" command}");
        accepted(1, "due 1");
        accepted(2, "due 1;due 1");
        accepted(3, "rule w;kerf 0;clear a");
        accepted(9, "due 1;due 1;due 1;due 1;due 1;due 1;due 1;due 1;due 1");
        accepted(10, "due 1;due 1;due 1;due 1;due 1;due 1;due 1;due 1;due 1;due 01");
        accepted(10, "due 1;due 1;due 1;due 1;due 1;due 1;due 1;due 1;due 1;due 1");
        wrongAt(0, ";");
        wrongAt(0, ";due 1");
        wrongAt(6, "due 1;");
        wrongAt(6, "due 1;;due 1");
        wrongAt(5, "due 1,due 1");
        wrongAt(5, "due 1 ;due 1");
        wrongAt(6, "due 1; due 1");
        wrongAt(60, "due 1;due 1;due 1;due 1;due 1;due 1;due 1;due 1;due 1;due 1;");
        wrongAt(59, "due 1;due 1;due 1;due 1;due 1;due 1;due 1;due 1;due 1;due 1 ");
    }

    private static void everySeparator() {
        for (char sign = 0; sign < 600; sign++) {
            if (sign == ';') {
                accepted(2, "rule b" + sign + "rule b");
            } else {
                wrongAt(6, "rule b" + sign + "rule b");
            }
        }
    }

    private static void everyCommand() {
        about("command = \"spool \" material number | \"order \" material number \"@\" number | \"cancel \" number"
            + " | \"fill \" number | \"due \" number | \"retire \" number | \"clear \" material | \"kerf \" digit"
            + " | \"limit \" number | \"rule \" ( \"b\" | \"w\" | \"f\" )");
        for (int i = 0; i < SHORTEST.length; i++) {
            for (int length = 0; length < SHORTEST[i].length(); length++) {
                String begun = SHORTEST[i].substring(0, length);
                wrongAt(length, begun);
                wrongAt(7 + length, "kerf 1;" + begun);
                wrongAt(8 + length, "clear a;" + begun);
                for (char wrong : WRONG) {
                    wrongAt(length, begun + wrong);
                    wrongAt(7 + length, "rule f;" + begun + wrong + "1;due 1");
                }
            }
            wrongAt(SHORTEST[i].length(), SHORTEST[i] + '#');
            wrongAt(SHORTEST[i].length(), SHORTEST[i] + ' ');
            wrongAt(SHORTEST[i].length(), SHORTEST[i] + '@');
            wrongAt(SHORTEST[i].length() + 1, SHORTEST[i] + ';');
        }
    }

    private static void firstSigns() {
        String starts = "socfdrkl";
        for (char sign = 0; sign < 600; sign++) {
            int position = starts.indexOf(sign) >= 0 ? 1 : 0;
            wrongAt(position, "" + sign);
            wrongAt(position, sign + "#");
            wrongAt(7 + position, "kerf 1;" + sign);
        }
    }

    private static void wordsThatBeginAlike() {
        wrongAt(1, "concel 1");
        wrongAt(1, "crear a");
        wrongAt(2, "caear a");
        wrongAt(2, "clncel 1");
        wrongAt(1, "ritire 1");
        wrongAt(2, "rutire 1");
        wrongAt(2, "rele b");
        wrongAt(4, "rules b");
        wrongAt(6, "retirement 1");
        wrongAt(4, "fill5");
        wrongAt(3, "due1");
        wrongAt(4, "due  1");
        wrongAt(1, "sPOOL a10");
        wrongAt(0, "SPOOL a10");
    }

    private static void materials() {
        about("where a material is a letter from a to f");
        for (char sign = 0; sign < 600; sign++) {
            if (sign >= 'a' && sign <= 'f') {
                accepted(1, "spool " + sign + "10");
                accepted(1, "order " + sign + "10@9");
                accepted(1, "clear " + sign);
            } else {
                wrongAt(6, "spool " + sign + "10");
                wrongAt(6, "order " + sign + "10@9");
                wrongAt(6, "clear " + sign);
            }
        }
        wrongAt(7, "clear ab");
        wrongAt(7, "spool ab10");
        wrongAt(7, "order ab10@9");
    }

    private static void ruleSigns() {
        about("\"rule \" ( \"b\" | \"w\" | \"f\" )");
        for (char sign = 0; sign < 600; sign++) {
            if (sign == 'b' || sign == 'w' || sign == 'f') {
                WireCutter x = stocked();
                due(1, runText(x, "rule " + sign));
                due(sign, x.rule());
            } else {
                wrongAt(5, "rule " + sign);
            }
        }
        wrongAt(6, "rule bb");
    }

    private static void kerfSigns() {
        about("\"kerf \" digit");
        for (char sign = 0; sign < 600; sign++) {
            if (sign >= '0' && sign <= '5') {
                WireCutter x = stocked();
                due(1, runText(x, "kerf " + sign));
                due(sign - '0', x.kerf());
            } else if (sign >= '6' && sign <= '9') {
                fails(0, "kerf " + sign);
            } else {
                wrongAt(5, "kerf " + sign);
            }
        }
        wrongAt(6, "kerf 01");
        wrongAt(6, "kerf 10");
    }

    private static void numbers() {
        about("number = digit [ digit [ digit ] ]");
        String[] begun = {"cancel ", "fill ", "due ", "retire ", "limit ", "spool a", "order a", "order a1@"};
        String[] behind = {"", "", "", "", "", "", "@9", ""};
        for (int i = 0; i < begun.length; i++) {
            for (char sign = 0; sign < 600; sign++) {
                if (sign < '0' || sign > '9') {
                    wrongAt(begun[i].length(), begun[i] + sign);
                }
            }
            for (char digit = '0'; digit <= '9'; digit++) {
                isNoSyntaxError(begun[i] + digit + behind[i]);
                isNoSyntaxError(begun[i] + "0" + digit + behind[i]);
                isNoSyntaxError(begun[i] + digit + "00" + behind[i]);
                wrongAt(begun[i].length() + 3, begun[i] + "000" + digit);
            }
            wrongAt(begun[i].length() + 1, begun[i] + "1 ");
            wrongAt(begun[i].length() + 2, begun[i] + "12.");
            wrongAt(begun[i].length() + 3, begun[i] + "123a");
            wrongAt(begun[i].length(), begun[i] + "-1");
            wrongAt(begun[i].length(), begun[i] + "+1");
        }
        wrongAt(8, "order a1");
        wrongAt(9, "order a12");
        wrongAt(10, "order a123");
        wrongAt(11, "order a123@");
        wrongAt(8, "order a1;due 1");
        wrongAt(7, "order a@1");
    }

    private static void isNoSyntaxError(String text) {
        WireCutter x = stocked();
        typeAll(x, text);
        Object answer = outcome(() -> x.run());
        due(true, answer.equals(1) || answer.equals(UNSUPPORTED.getName()));
    }

    // ---- what the commands do

    private static void ranges() {
        about("The commands correspond to addSpool(material, length), addOrder(material, length, due), cancel(order),"
            + " fill(order), fillDue(day), retire(spool), throwScraps(material), setKerf(kerf), setScrapLimit(limit)"
            + " and setRule(rule).");
        for (int number = 0; number <= 999; number++) {
            due(number >= 10, succeeds("spool a" + number));
            due(number >= 1 && number <= 200, succeeds("order a" + number + "@1"));
            due(number >= 1 && number <= 99, succeeds("order a1@" + number));
            due(number <= 1, succeeds("cancel " + number));
            due(number <= 1, succeeds("fill " + number));
            due(number >= 1 && number <= 99, succeeds("due " + number));
            due(number <= 1, succeeds("retire " + number));
            due(number >= 1 && number <= 50, succeeds("limit " + number));
        }
    }

    private static boolean succeeds(String text) {
        WireCutter x = stocked();
        typeAll(x, text);
        Object answer = outcome(() -> x.run());
        due(true, answer.equals(1) || answer.equals(UNSUPPORTED.getName()));
        due(answer.equals(1) ? NO_ELEMENT.getName() : 0, outcome(() -> x.failedCommand()));
        return answer.equals(1);
    }

    private static void asByCalls(String text, CallOn call) {
        WireCutter x = stocked();
        WireCutter y = stocked();
        due(1, runText(x, text));
        call.on(y);
        due(pictureOf(y), pictureOf(x));
        due(y.undo(), x.undo());
        due(pictureOf(y), pictureOf(x));
    }

    private static void everyCommandDoesWhatItsCallDoes() {
        asByCalls("spool f999", x -> x.addSpool('f', 999));
        asByCalls("spool a010", x -> x.addSpool('a', 10));
        asByCalls("order f200@99", x -> x.addOrder('f', 200, 99));
        asByCalls("order b1@1", x -> x.addOrder('b', 1, 1));
        asByCalls("order b007@012", x -> x.addOrder('b', 7, 12));
        asByCalls("cancel 0", x -> x.cancel(0));
        asByCalls("cancel 001", x -> x.cancel(1));
        asByCalls("fill 1", x -> x.fill(1));
        asByCalls("due 1", x -> x.fillDue(1));
        asByCalls("due 99", x -> x.fillDue(99));
        asByCalls("retire 1", x -> x.retire(1));
        asByCalls("clear c", x -> x.throwScraps('c'));
        asByCalls("clear d", x -> x.throwScraps('d'));
        asByCalls("kerf 0", x -> x.setKerf(0));
        asByCalls("kerf 5", x -> x.setKerf(5));
        asByCalls("limit 1", x -> x.setScrapLimit(1));
        asByCalls("limit 050", x -> x.setScrapLimit(50));
        asByCalls("rule w", x -> x.setRule('w'));
        asByCalls("rule f", x -> x.setRule('f'));
        asByCalls("rule b", x -> x.setRule('b'));
    }

    // ---- type

    private static void sixtyCharacters() {
        about("Appends a character to the program buffer. / if the buffer contains 60 characters");
        WireCutter x = fresh();
        for (int i = 1; i <= 60; i++) {
            due(i, x.type((char) ('a' + i % 6)));
        }
        refused(STATE, () -> x.type(';'));
        refused(STATE, () -> x.type((char) 0));
        refused(ARGUMENT, () -> x.run());
        due(0, x.errorPosition());
        for (int i = 1; i <= 59; i++) {
            due(i, x.type("due 1;".charAt((i - 1) % 6)));
        }
        due(10, x.run());
        due(1, x.type('x'));
    }

    private static void fullBufferIsKept() {
        WireCutter x = fresh();
        typeAll(x, "due 1;due 1;due 1;due 1;due 1;due 1;due 1;due 1;due 1;kerf 4");
        refused(STATE, () -> x.type('4'));
        refused(STATE, () -> x.type('#'));
        due(10, x.run());
        due(4, x.kerf());
    }

    private static void anyCharacter() {
        about("any character");
        for (int code : new int[] {0, 1, 9, 10, 13, 31, 32, 127, 128, 255, 256, 0x7FFF, 0x8000, 0xD800, 0xFFFF}) {
            WireCutter x = fresh();
            due(1, x.type((char) code));
            due(2, x.type((char) code));
            refused(ARGUMENT, () -> x.run());
            due(0, x.errorPosition());
            due(1, x.type('d'));
        }
        // A character is not cut down to fewer bits.
        wrongAt(5, "kerf " + (char) (256 + '1'));
        wrongAt(5, "kerf " + (char) 0x0661);
        wrongAt(5, "kerf " + (char) 0xFF11);
        wrongAt(4, "kerf" + (char) 160 + "1");
    }

    // ---- run

    private static void allOrNone() {
        about("executes the commands in order, either all of them or, if one of them fails, none");
        String[] first = {"spool f99", "order b5@5", "cancel 0", "fill 0", "due 1", "retire 0", "clear c", "kerf 5",
            "limit 50", "rule f"};
        for (String text : first) {
            WireCutter x = stocked();
            String before = pictureOf(x);
            failsIn(x, 1, text + ";retire 9");
            due(before, pictureOf(x));
            failsIn(x, 2, text + ";kerf 4;spool a9;rule w");
            due(before, pictureOf(x));
            failsIn(x, 0, "limit 0;" + text);
            due(before, pictureOf(x));
            due(1, runText(x, text));
            due(false, before.equals(pictureOf(x)));
        }
    }

    private static void inOrder() {
        WireCutter x = fresh();
        due(5, runText(x, "spool a10;order a10@1;fill 0;order a9@1;spool a10"));
        due("1a:10/0", spoolLine(x, 1));
        due("1a9@1", orderLine(x));
        due(3, runText(x, "kerf 0;fill 1;kerf 3"));
        due(0, x.losses('a'));
        due("1", scrapList(x, 'a'));
        due(3, runText(x, "rule f;rule w;rule b"));
        due('b', x.rule());
        // One program is one change.
        due(2, x.undo());
        due(1, x.undo());
        due(0, x.undo());
        due(0, x.spools());
        refused(STATE, () -> x.undo());
    }

    private static void failures() {
        about("if a command fails, that is, if the method for it throws an exception");
        String[] failing = {"spool a0", "spool a9", "spool a009", "order a0@1", "order a201@1", "order a1@0",
            "order a1@100", "cancel 2", "cancel 999", "fill 2", "fill 999", "due 0", "due 100", "due 999", "retire 2",
            "retire 3", "kerf 6", "kerf 9", "limit 0", "limit 51", "limit 999"};
        for (String text : failing) {
            fails(0, text);
            fails(1, "rule w;" + text);
            fails(2, "rule w;rule f;" + text + ";rule b");
            // The whole text is parsed before a command is executed.
            wrongAt(text.length() + 1, text + ";");
        }
        fails(0, "retire 2;retire 2");
        fails(1, "retire 0;retire 0");
        fails(1, "fill 0;fill 0");
        fails(1, "cancel 0;fill 0");
        fails(1, "cancel 0;cancel 0");
        fails(9, "due 1;due 1;due 1;due 1;due 1;due 1;due 1;due 1;due 1;due 0");
    }

    private static void failuresOfFullObjects() {
        WireCutter x = fresh();
        for (int i = 0; i < 10; i++) {
            x.addSpool('a', 10);
        }
        for (int i = 0; i < 12; i++) {
            x.addOrder('a', 11, 1);
        }
        failsIn(x, 0, "spool a10");
        failsIn(x, 0, "order a1@1");
        failsIn(x, 0, "fill 11");
        failsIn(x, 2, "retire 9;spool a10;spool a10");
        failsIn(x, 2, "cancel 9;order a1@1;order a1@1");
        due(1, runText(x, "due 99"));
        due(2, runText(x, "retire 9;spool a999"));
        due(2, runText(x, "cancel 9;order a1@1"));
        due(10, x.spools());
        due(12, x.orders());
    }

    private static void emptyAfterwards() {
        about("The buffer is empty afterwards in every case.");
        WireCutter x = fresh();
        due(1, runText(x, "kerf 2"));
        due(1, x.type('k'));
        refused(ARGUMENT, () -> x.run());
        due(1, x.type('k'));
        due(6, typeRest(x, "erf 9"));
        refused(UNSUPPORTED, () -> x.run());
        due(1, x.type('k'));
        due(6, typeRest(x, "erf 3"));
        due(1, x.run());
        refused(ARGUMENT, () -> x.run());
        due(0, x.errorPosition());
        due(3, x.kerf());
    }

    private static void oldTextIsGone() {
        WireCutter x = fresh();
        due(1, runText(x, "limit 12"));
        due(1, runText(x, "limit 1"));
        due(1, x.scrapLimit());
        due(2, runText(x, "kerf 2;kerf 3"));
        due(1, runText(x, "kerf 2"));
        due(2, x.kerf());
        failsAt(x, 7, "kerf 2;");
        due(1, runText(x, "kerf 4"));
        failsAt(x, 5, "kerf ");
        failsAt(x, 4, "kerf");
        due(1, runText(x, "rule w"));
        failsAt(x, 5, "rule ");
        failsAt(x, 0, "");
        due(1, runText(x, "clear a"));
        failsAt(x, 6, "clear ");
        due(1, runText(x, "order a5@99"));
        failsAt(x, 9, "order a5@");
        failsAt(x, 8, "order a5");
        due(1, runText(x, "order a5@9"));
        due("1a5@9 0a5@99", orderLine(x));
        due(4, x.kerf());
        due('w', x.rule());
    }

    private static int typeRest(WireCutter x, String text) {
        int length = 0;
        for (char character : text.toCharArray()) {
            length = x.type(character);
        }
        return length;
    }

    // ---- what is recorded

    private static void errorPositions() {
        about("Returns the recorded error position of the latest text that was not a program."
            + " / if there was no such text");
        WireCutter x = stocked();
        refused(NO_ELEMENT, () -> x.errorPosition());
        due(1, runText(x, "kerf 1"));
        refused(NO_ELEMENT, () -> x.errorPosition());
        failsIn(x, 0, "kerf 9");
        refused(NO_ELEMENT, () -> x.errorPosition());
        typeAll(x, "kerf");
        refused(NO_ELEMENT, () -> x.errorPosition());
        refused(ARGUMENT, () -> x.run());
        due(4, x.errorPosition());
        failsAt(x, 0, "");
        failsAt(x, 2, "ru");
        due(1, runText(x, "kerf 1"));
        due(2, x.errorPosition());
        failsIn(x, 0, "kerf 9");
        due(2, x.errorPosition());
        x.save();
        failsAt(x, 60, "due 1;due 1;due 1;due 1;due 1;due 1;due 1;due 1;due 1;due 1;");
        x.undo();
        x.restore();
        due(60, x.errorPosition());
    }

    private static void failedCommands() {
        about("Returns the recorded number of the latest command that failed in a program."
            + " / if no command failed");
        WireCutter x = stocked();
        refused(NO_ELEMENT, () -> x.failedCommand());
        refused(UNSUPPORTED, () -> x.fill(x.addOrder('f', 1, 1)));
        refused(NO_ELEMENT, () -> x.retire(9));
        due(1, runText(x, "kerf 1"));
        failsAt(x, 1, "k");
        failsAt(x, 9, "retire 99#");
        refused(NO_ELEMENT, () -> x.failedCommand());
        failsIn(x, 0, "kerf 9");
        failsIn(x, 2, "kerf 1;kerf 2;kerf 9;kerf 8");
        due(1, runText(x, "kerf 1"));
        failsAt(x, 1, "k");
        due(2, x.failedCommand());
        x.save();
        failsIn(x, 9, "due 1;due 1;due 1;due 1;due 1;due 1;due 1;due 1;due 1;kerf 9");
        x.undo();
        x.restore();
        due(9, x.failedCommand());
        failsIn(x, 0, "kerf 9");
    }

    public static void main(String[] args) {
        repetitions();
        everySeparator();
        everyCommand();
        firstSigns();
        wordsThatBeginAlike();
        materials();
        ruleSigns();
        kerfSigns();
        numbers();
        ranges();
        everyCommandDoesWhatItsCallDoes();
        sixtyCharacters();
        fullBufferIsKept();
        anyCharacter();
        allOrNone();
        inOrder();
        failures();
        failuresOfFullObjects();
        emptyAfterwards();
        oldTextIsGone();
        errorPositions();
        failedCommands();
        end("the boundary cases of programs hold");
    }
}
