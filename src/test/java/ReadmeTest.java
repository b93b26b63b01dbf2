/** Plays the example and the commands of README.md. */
public final class ReadmeTest extends Checks {
    private static void example() {
        about("the example of README.md");
        WireCutter workshop = new WireCutter();
        int spool = workshop.addSpool('a', 120);
        due(0, spool);
        int order = workshop.addOrder('a', 30, 5);
        due(0, order);
        due(0, workshop.chosenSpool(order));
        due(0, workshop.fill(order));
        due(89, workshop.remaining(spool));
        due(2, workshop.undo());
        due(true, workshop.isOpen(order));
        for (char character : "order a20@9;due 9".toCharArray()) {
            workshop.type(character);
        }
        due(2, workshop.run());
        due(68, workshop.remaining(spool));
        due(1, workshop.save());
        due(68, workshop.retire(spool));
        due("68", scrapList(workshop, 'a'));
        due(1, workshop.restore());
        due(68, workshop.remaining(spool));
        refused(STATE, () -> workshop.undo());
        int length = workshop.writeSpool(spool);
        due(7, length);
        due("0a:68/2", lineOf(workshop, length));
    }

    private static void commands() {
        about("the commands of README.md");
        WireCutter x = fresh();
        due(3, runText(x, "spool a120;order a30@5;cancel 0"));
        due(5, runText(x, "order a30@5;fill 1;due 9;retire 0;clear a"));
        due(3, runText(x, "kerf 1;limit 5;rule b"));
    }

    public static void main(String[] args) {
        example();
        commands();
        end("the example of README.md answers as it says");
    }
}
