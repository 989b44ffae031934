/** The example of README.md, with the answers that stand there. */
final class ExampleTest {
    public static void main(String[] args) {
        WhiteclothTable table = new WhiteclothTable();
        table.setBell(50, true);
        table.setBell(52, true);
        Check.same("note", table.note(0, 50, 4, 'r'), 1);
        Check.same("note", table.note(4, 52, 4, 's'), 2);
        Check.same("addPlayer", table.addPlayer(9, 1), 0);
        Check.same("deal", table.deal(), 0);
        Check.same("ownerOf", table.ownerOf(52), 0);
        Check.same("handOf", table.handOf(1), 1);
        Check.same("slip", table.slip(0, 30), 0);
        Check.same("lateOf", table.lateOf(1), 11);
        Check.same("carries", table.carries(0), 1);
        Check.same("levelAt", table.levelAt(0), 120);
        Check.same("endPage", table.endPage(6), 1);
        Check.same("turnOf", table.turnOf(0, 0), 0);
        Check.same("perform", table.perform(), 4);
        Check.same("strokesOf", table.strokesOf(52), 3);
        String refused = "";
        try {
            table.setBell(50, false);
        } catch (UnsupportedOperationException e) {
            refused = "the bell has notes, and nothing has changed";
        }
        Check.same("setBell", refused, "the bell has notes, and nothing has changed");
        Check.same("strokesOf", table.strokesOf(50), 1);
        Check.end("ExampleTest");
    }
}
