/** Promises 5 and 19: grant, may. */
public final class PermissionsTest {
    public static void main(String[] args) {
        grantsOnce();
        grantsToTheRoleItself();
        sessionsMayByActiveRoles();
        sessionsMayByRolesBelow();
        refusesWhatIsNotThere();
        Check.end();
    }

    private static void grantsOnce() {
        RoleAnalyser x = Check.world(6, 0);
        for (int permission = 0; permission <= 30; permission++) {
            Check.same("new " + permission, true, x.grant(5, permission));
            Check.same("again " + permission, false, x.grant(5, permission));
        }
        Check.same("another role", true, x.grant(4, 30));
    }

    private static void grantsToTheRoleItself() {
        RoleAnalyser x = Check.world(2, 0);
        x.above(0, 1);
        x.grant(1, 7);
        Check.same("the one above had it only from below", true, x.grant(0, 7));
        x.grant(0, 8);
        Check.same("the one below had it not", true, x.grant(1, 8));
    }

    private static void sessionsMayByActiveRoles() {
        RoleAnalyser x = Check.world(3, 1);
        x.assign(0, 0);
        x.assign(0, 2);
        x.grant(0, 0);
        x.grant(2, 30);
        x.open(0);
        Check.same("nothing active", false, x.may(0, 0));
        x.activate(0, 2);
        Check.same("by the active role", true, x.may(0, 30));
        Check.same("not by one at rest", false, x.may(0, 0));
        x.activate(0, 0);
        Check.same("by both, the first", true, x.may(0, 0));
        Check.same("by both, the second", true, x.may(0, 30));
        x.grant(0, 15);
        Check.same("granted while active", true, x.may(0, 15));
        x.rest(0, 2);
        Check.same("at rest again", false, x.may(0, 30));
        Check.same("not granted", false, x.may(0, 1));
    }

    private static void sessionsMayByRolesBelow() {
        RoleAnalyser x = Check.world(4, 1);
        x.above(3, 2);
        x.above(2, 1);
        x.assign(0, 2);
        x.grant(3, 3);
        x.grant(2, 2);
        x.grant(1, 1);
        x.grant(0, 4);
        x.open(0);
        x.activate(0, 2);
        Check.same("of the one below", true, x.may(0, 1));
        Check.same("its own", true, x.may(0, 2));
        Check.same("of the one above", false, x.may(0, 3));
        Check.same("of one aside", false, x.may(0, 4));
        x.above(1, 0);
        Check.same("of one put below", true, x.may(0, 4));
    }

    private static void refusesWhatIsNotThere() {
        RoleAnalyser x = Check.world(1, 1);
        x.open(0);
        Check.index("grant role 1", () -> x.grant(1, 0));
        Check.index("grant role -1", () -> x.grant(-1, 0));
        Check.index("grant permission 31", () -> x.grant(0, 31));
        Check.index("grant permission -1", () -> x.grant(0, -1));
        Check.index("grant permission 32", () -> x.grant(0, 32));
        Check.index("may of session 1", () -> x.may(1, 0));
        Check.index("may of session -1", () -> x.may(-1, 0));
        Check.index("may of session 4", () -> x.may(4, 0));
        Check.index("may of permission 31", () -> x.may(0, 31));
        Check.index("may of permission -1", () -> x.may(0, -1));
        x.close(0);
        Check.index("may of a closed session", () -> x.may(0, 0));
    }
}
