/** Promise 6: limit, and that all limits are always kept. */
public final class LimitsTest {
    public static void main(String[] args) {
        refusesWrongNumbersAndSets();
        hasFourOfEachKind();
        staticOnesMustBeKept();
        dynamicOnesMustBeKept();
        countsRolesAddedLater();
        countsUpToTheNumber();
        looksAtEveryUserAndSession();
        Check.end();
    }

    private static void refusesWrongNumbersAndSets() {
        RoleAnalyser x = new RoleAnalyser();
        for (boolean dynamic : new boolean[] {false, true}) {
            Check.argument("n of 1", () -> x.limit(dynamic, 3, 1));
            Check.argument("n of 0", () -> x.limit(dynamic, 3, 0));
            Check.argument("the least n", () -> x.limit(dynamic, 3, Integer.MIN_VALUE));
            Check.argument("set of 64", () -> x.limit(dynamic, 64, 2));
            Check.argument("set of -1", () -> x.limit(dynamic, -1, 2));
            Check.passes("set of 0", () -> x.limit(dynamic, 0, 2));
            Check.passes("set of 63", () -> x.limit(dynamic, 63, 2));
            Check.passes("the greatest n", () -> x.limit(dynamic, 63, Integer.MAX_VALUE));
        }
    }

    private static void hasFourOfEachKind() {
        RoleAnalyser x = Check.world(1, 1);
        for (boolean dynamic : new boolean[] {true, false}) {
            for (int i = 0; i < 4; i++) {
                Check.passes("limit " + i, () -> x.limit(dynamic, 3, 2));
            }
            Check.state("a fifth one", () -> x.limit(dynamic, 3, 2));
            Check.argument("argument before state", () -> x.limit(dynamic, 3, 1));
        }
    }

    private static void staticOnesMustBeKept() {
        RoleAnalyser x = Check.world(3, 2);
        x.above(2, 1);
        x.assign(1, 0);
        x.assign(1, 2);
        Check.state("two of two", () -> x.limit(false, 5, 2));
        Check.state("one of them by way of another", () -> x.limit(false, 3, 2));
        Check.state("three of three", () -> x.limit(false, 7, 3));
        x.remove(1, 0);
        Check.same("a refused one does not bind", true, x.assign(1, 0));
        Check.passes("four of three", () -> x.limit(false, 7, 4));
        Check.passes("dynamic ones do not mind", () -> x.limit(true, 5, 2));
    }

    private static void dynamicOnesMustBeKept() {
        RoleAnalyser x = Check.world(3, 1);
        x.above(2, 1);
        x.assign(0, 0);
        x.assign(0, 2);
        x.open(0);
        x.open(0);
        x.activate(0, 0);
        x.activate(1, 0);
        x.activate(1, 2);
        Check.state("two of two", () -> x.limit(true, 5, 2));
        Check.passes("a role below an active one is not active", () -> x.limit(true, 6, 2));
        Check.state("the role below made active", () -> x.activate(1, 1));
        x.rest(1, 0);
        Check.same("a refused one does not bind", true, x.activate(1, 0));
        x.close(1);
        Check.passes("with that session closed", () -> x.limit(true, 5, 2));
        Check.state("binds the other", () -> x.activate(0, 2));
    }

    private static void countsRolesAddedLater() {
        RoleAnalyser x = Check.world(1, 1);
        x.limit(false, 6, 2);
        x.limit(true, 9, 2);
        x.role();
        x.role();
        x.role();
        x.assign(0, 1);
        Check.state("static", () -> x.assign(0, 2));
        x.assign(0, 0);
        x.assign(0, 3);
        x.open(0);
        x.activate(0, 3);
        Check.state("dynamic", () -> x.activate(0, 0));
    }

    private static void countsUpToTheNumber() {
        RoleAnalyser x = Check.world(6, 1);
        x.limit(false, 62, 4);
        x.limit(true, 62, 3);
        x.open(0);
        for (int role = 0; role < 4; role++) {
            Check.same("assign " + role, true, x.assign(0, role));
        }
        Check.state("a fourth of the set", () -> x.assign(0, 4));
        Check.same("nothing changed", 15, x.roles(0, false));
        x.activate(0, 0);
        x.activate(0, 1);
        x.activate(0, 2);
        Check.state("a third of the set", () -> x.activate(0, 3));
        Check.same("nothing active changed", 7, x.active(0));
    }

    private static void looksAtEveryUserAndSession() {
        RoleAnalyser x = Check.world(6, 5);
        x.assign(4, 4);
        x.assign(4, 5);
        for (int i = 0; i < 4; i++) {
            x.open(4);
        }
        x.activate(3, 4);
        x.activate(3, 5);
        Check.state("the last user", () -> x.limit(false, 48, 2));
        Check.state("the last session", () -> x.limit(true, 48, 2));
        Check.passes("kept by all users", () -> x.limit(false, 48, 3));
        Check.passes("kept by all sessions", () -> x.limit(true, 48, 3));
    }
}
