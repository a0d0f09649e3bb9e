/** Promises 9 and 10: assign, remove. */
public final class AssignmentTest {
    public static void main(String[] args) {
        assigns();
        keepsStaticLimits();
        removes();
        removalEndsActivity();
        refusesWhatIsNotThere();
        Check.end();
    }

    private static void assigns() {
        RoleAnalyser x = Check.world(6, 5);
        Check.same("new", true, x.assign(4, 5));
        Check.same("again", false, x.assign(4, 5));
        Check.same("roles", 32, x.roles(4, false));
        Check.same("another user", 0, x.roles(0, false));
        x.above(5, 0);
        Check.same("authorized, but not assigned yet", true, x.assign(4, 0));
        Check.same("roles of both", 33, x.roles(4, false));
    }

    private static void keepsStaticLimits() {
        RoleAnalyser x = Check.world(4, 2);
        x.above(3, 1);
        x.limit(false, 3, 2);
        x.assign(0, 0);
        x.assign(1, 1);
        Check.state("directly", () -> x.assign(0, 1));
        Check.state("by what is below", () -> x.assign(0, 3));
        Check.same("nothing changed", 1, x.roles(0, false));
        Check.same("already there", false, x.assign(0, 0));
        Check.same("aside", true, x.assign(0, 2));
        Check.same("the same role twice over", true, x.assign(1, 3));
    }

    private static void removes() {
        RoleAnalyser x = Check.world(3, 2);
        x.above(0, 1);
        x.assign(0, 0);
        x.assign(1, 0);
        Check.same("not assigned", false, x.remove(0, 2));
        Check.same("only authorized", false, x.remove(0, 1));
        Check.same("still authorized", 3, x.roles(0, true));
        Check.same("assigned", true, x.remove(0, 0));
        Check.same("again", false, x.remove(0, 0));
        Check.same("gone", 0, x.roles(0, true));
        Check.same("another's stays", 3, x.roles(1, true));
    }

    private static void removalEndsActivity() {
        RoleAnalyser x = Check.world(4, 2);
        x.above(0, 1);
        x.above(0, 2);
        x.assign(0, 0);
        x.assign(0, 2);
        x.assign(0, 3);
        x.assign(1, 0);
        x.open(0);
        x.open(1);
        x.open(0);
        for (int role = 0; role < 4; role++) {
            x.activate(0, role);
        }
        x.activate(1, 0);
        x.activate(1, 1);
        x.activate(2, 1);
        x.remove(0, 0);
        Check.same("what it is still authorized for", 12, x.active(0));
        Check.same("another's session", 3, x.active(1));
        Check.same("the second session", 0, x.active(2));
        x.assign(0, 0);
        Check.same("does not come back", 12, x.active(0));
    }

    private static void refusesWhatIsNotThere() {
        RoleAnalyser x = Check.world(2, 1);
        Check.index("assign user 1", () -> x.assign(1, 0));
        Check.index("assign user -1", () -> x.assign(-1, 0));
        Check.index("assign role 2", () -> x.assign(0, 2));
        Check.index("assign role -1", () -> x.assign(0, -1));
        Check.index("remove user 1", () -> x.remove(1, 0));
        Check.index("remove user -1", () -> x.remove(-1, 0));
        Check.index("remove role 2", () -> x.remove(0, 2));
        Check.index("remove role -1", () -> x.remove(0, -1));
    }
}
