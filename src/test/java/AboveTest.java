/** Promise 4: above. */
public final class AboveTest {
    public static void main(String[] args) {
        authorizesForWhatIsBelow();
        joinsChains();
        answersWhetherItIsNew();
        refusesCircles();
        keepsStaticLimits();
        refusesWhatIsNotThere();
        Check.end();
    }

    private static void authorizesForWhatIsBelow() {
        RoleAnalyser x = Check.world(3, 2);
        x.assign(0, 0);
        x.assign(1, 1);
        Check.same("above(0, 1)", true, x.above(0, 1));
        Check.same("the one above", 3, x.roles(0, true));
        Check.same("the one below", 2, x.roles(1, true));
        Check.same("assigned stays", 1, x.roles(0, false));
    }

    private static void joinsChains() {
        RoleAnalyser x = Check.world(6, 2);
        x.assign(0, 5);
        x.assign(1, 3);
        x.above(5, 4);
        x.above(1, 0);
        x.above(3, 2);
        x.above(2, 1);
        x.above(4, 3);
        Check.same("from the top", 63, x.roles(0, true));
        Check.same("from the middle", 15, x.roles(1, true));
        Check.argument("bottom above top", () -> x.above(0, 5));
    }

    private static void answersWhetherItIsNew() {
        RoleAnalyser x = Check.world(3, 0);
        Check.same("new", true, x.above(2, 1));
        Check.same("again", false, x.above(2, 1));
        Check.same("new below", true, x.above(1, 0));
        Check.same("by way of another", false, x.above(2, 0));
    }

    private static void refusesCircles() {
        RoleAnalyser x = Check.world(3, 1);
        x.above(0, 1);
        x.above(1, 2);
        x.assign(0, 2);
        Check.argument("itself", () -> x.above(1, 1));
        Check.argument("the other way round", () -> x.above(1, 0));
        Check.argument("round a chain", () -> x.above(2, 0));
        Check.same("nothing changed", 4, x.roles(0, true));
        x.limit(false, 6, 2);
        Check.argument("argument before state", () -> x.above(2, 1));
    }

    private static void keepsStaticLimits() {
        RoleAnalyser x = Check.world(4, 2);
        x.limit(false, 6, 2);
        x.assign(1, 0);
        x.above(0, 1);
        x.above(3, 2);
        Check.state("directly", () -> x.above(0, 2));
        Check.state("by what is below", () -> x.above(0, 3));
        Check.state("by one above", () -> x.above(1, 3));
        Check.same("nothing changed", 3, x.roles(1, true));
        x.remove(1, 0);
        Check.same("with nobody there", true, x.above(0, 3));
        Check.state("assigned later", () -> x.assign(1, 0));
    }

    private static void refusesWhatIsNotThere() {
        RoleAnalyser x = Check.world(2, 0);
        Check.index("a too great", () -> x.above(2, 0));
        Check.index("b too great", () -> x.above(0, 2));
        Check.index("a below 0", () -> x.above(-1, 0));
        Check.index("b below 0", () -> x.above(0, -1));
        Check.index("index before argument", () -> x.above(2, 2));
    }
}
