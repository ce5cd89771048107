/** The examples of README.md answer what is told there. */
public final class ReadmeTest {
    public static void main(String[] args) {
        Check check = new Check("ReadmeTest");
        WayWatcher x = new WayWatcher();
        x.move(0, 1, 1, 0, 0);
        x.move(1, 2, 2, 1, 0);
        x.move(3, 0, 0, 3, 0);
        int p = x.formula(0, 0, 0);
        int q = x.formula(0, 1, 0);
        int both = x.formula(3, p, q);
        int ever = x.formula(8, both, 0);
        check.equal("states(ever)", x.states(ever), -1L);
        check.text("the way for ever", Fixtures.told(x, x.show(ever, 0)), "0 1 2 3 0 1 2 loop 3");

        x.move(0, 3, 0, 0, 0);
        int each = x.formula(12, both, 0);
        check.text("the way against each", Fixtures.told(x, x.show(each, 0)), "0 loop 0");
        x.fair(p);
        check.equal("states(each)", x.states(each), -1L);
        check.refusesState("nothing against each", () -> x.show(each, 0));
        check.end();
    }
}
