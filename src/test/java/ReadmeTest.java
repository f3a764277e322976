/** The example of README.md answers what is written beside it. */
public final class ReadmeTest {
    public static void main(String[] args) {
        Check check = new Check();
        example(check);
        text(check);
        check.end();
    }

    private static void example(Check check) {
        CellarClub x = new CellarClub();
        int m = x.addMember(3);
        int w = x.addWine(9, 11);
        x.addBin(12);
        x.order(m, w, 9);
        check.due("allocate", x.allocate(w), 9);
        check.due("half of the price is owed", x.member(m, 1), 41);
        check.due("deliver", x.deliver(w), 9);
        check.due("the whole price is owed", x.member(m, 1), 81);
        check.due("they lie in the bin", x.bin(0, 2), 9);
        check.due("drink", x.drink(m, w, 2), 7);
        check.due("undo", x.undo(), 6);
        check.due("the drinking is taken back", x.has(m, w, 2), 9);
    }

    private static void text(Check check) {
        CellarClub x = new CellarClub();
        Check.write(x, "Cm003w0911b12o0009");
        check.due("errorPosition", x.errorPosition(), CellarClub.NONE);
        check.due("load", x.load(), 1);
        CellarClub y = new CellarClub();
        y.addMember(3);
        y.addWine(9, 11);
        y.addBin(12);
        y.order(0, 0, 9);
        check.sameState("the text and the calls", x, Check.stateOf(y));
    }
}
