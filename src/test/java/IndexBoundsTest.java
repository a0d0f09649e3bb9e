/**
 * "IndexOutOfBounds: a number given for a role, user, session or permission is none that there is": for each such
 * number of each call, all that are there are taken, and those next to them, and the ends of int, are refused.
 */
public final class IndexBoundsTest {
    private static final int[] ROLES = {0, 1, 2, 3};
    private static final int[] USERS = {0, 1, 2};
    private static final int[] OPEN_SESSIONS = {0, 2};
    private static final int[] NO_ROLES = {-1, 4, 5, 6, Integer.MIN_VALUE, Integer.MAX_VALUE};
    private static final int[] NO_USERS = {-1, 3, 4, 5, Integer.MIN_VALUE, Integer.MAX_VALUE};
    private static final int[] NO_SESSIONS = {-1, 1, 3, 4, Integer.MIN_VALUE, Integer.MAX_VALUE};
    private static final int[] PERMISSIONS = {0, 1, 15, 29, 30};
    private static final int[] NO_PERMISSIONS = {-1, 31, 32, 62, Integer.MIN_VALUE, Integer.MAX_VALUE};

    /** A call with one number left open. */
    private interface Call {
        void with(RoleAnalyser x, int number);
    }

    public static void main(String[] args) {
        rolesThatThereAre();
        usersThatThereAre();
        sessionsThatAreOpen();
        permissionsThatThereAre();
        rolesAndUsersAreThereFromTheirAddingOn();
        sessionsAreThereWhileTheyAreOpen();
        Check.end();
    }

    private static void rolesThatThereAre() {
        role("above, a", (x, n) -> x.above(n, 2));
        role("above, b", (x, n) -> x.above(2, n));
        role("grant", (x, n) -> x.grant(n, 0));
        role("giveRule, a", (x, n) -> x.giveRule(n, 0, 0, 0));
        role("giveRule, r", (x, n) -> x.giveRule(0, 0, 0, n));
        role("takeRule, a", (x, n) -> x.takeRule(n, 0));
        role("takeRule, r", (x, n) -> x.takeRule(0, n));
        role("assign", (x, n) -> x.assign(0, n));
        role("remove", (x, n) -> x.remove(0, n));
        role("give", (x, n) -> x.give(0, 1, n));
        role("take", (x, n) -> x.take(0, 1, n));
        role("activate", (x, n) -> x.activate(0, n));
        role("rest", (x, n) -> x.rest(0, n));
        role("distance", (x, n) -> x.distance(0, n));
        role("plan", (x, n) -> x.plan(0, n, 0));
    }

    private static void usersThatThereAre() {
        user("assign", (x, n) -> x.assign(n, 0));
        user("remove", (x, n) -> x.remove(n, 0));
        user("give, x", (x, n) -> x.give(n, 0, 2));
        user("give, u", (x, n) -> x.give(0, n, 2));
        user("take, x", (x, n) -> x.take(n, 0, 2));
        user("take, u", (x, n) -> x.take(0, n, 2));
        user("roles, assigned", (x, n) -> x.roles(n, false));
        user("roles, authorized", (x, n) -> x.roles(n, true));
        user("open", (x, n) -> x.open(n));
        user("distance", (x, n) -> x.distance(n, 0));
        user("plan", (x, n) -> x.plan(n, 0, 0));
    }

    /** Promise 15: "IndexOutOfBounds for sessions: none such is open." */
    private static void sessionsThatAreOpen() {
        session("close", (x, n) -> x.close(n));
        session("activate", (x, n) -> x.activate(n, 0));
        session("rest", (x, n) -> x.rest(n, 0));
        session("active", (x, n) -> x.active(n));
        session("may", (x, n) -> x.may(n, 0));
    }

    /** "a permission (0 .. 30)" */
    private static void permissionsThatThereAre() {
        bounded("grant", PERMISSIONS, NO_PERMISSIONS, (x, n) -> x.grant(0, n));
        bounded("may", PERMISSIONS, NO_PERMISSIONS, (x, n) -> x.may(0, n));
        for (int permission = 0; permission <= 30; permission++) {
            RoleAnalyser x = Check.world(1, 1);
            x.assign(0, 0);
            x.open(0);
            x.activate(0, 0);
            x.grant(0, permission);
            for (int other = 0; other <= 30; other++) {
                Check.same(permission + " granted, may " + other, other == permission, x.may(0, other));
            }
        }
    }

    private static void rolesAndUsersAreThereFromTheirAddingOn() {
        RoleAnalyser x = Worlds.busy();
        Check.index("role 4, not yet", () -> x.assign(0, 4));
        x.role();
        Check.same("role 4", true, x.assign(0, 4));
        Check.index("role 5, not yet", () -> x.assign(0, 5));
        x.role();
        Check.same("role 5", true, x.assign(0, 5));
        Check.index("role 6, never", () -> x.assign(0, 6));
        Check.index("user 3, not yet", () -> x.assign(3, 0));
        x.user();
        Check.same("user 3", true, x.assign(3, 0));
        Check.index("user 4, not yet", () -> x.assign(4, 0));
        x.user();
        Check.same("user 4", true, x.assign(4, 0));
        Check.index("user 5, never", () -> x.assign(5, 0));
    }

    private static void sessionsAreThereWhileTheyAreOpen() {
        RoleAnalyser x = Check.world(1, 1);
        for (int i = 0; i < 4; i++) {
            int session = i;
            Check.index("not yet", () -> x.active(session));
            x.open(0);
            Check.same("open", 0, x.active(session));
        }
        Check.index("session 4, never", () -> x.active(4));
        for (int i = 0; i < 4; i++) {
            int session = i;
            x.close(session);
            Check.index("closed", () -> x.active(session));
            Check.index("closed twice", () -> x.close(session));
            Check.same("those still open", i < 3, isOpen(x, 3));
        }
    }

    private static boolean isOpen(RoleAnalyser x, int session) {
        try {
            x.active(session);
            return true;
        } catch (IndexOutOfBoundsException e) {
            return false;
        }
    }

    private static void role(String what, Call call) {
        bounded(what + ", role", ROLES, NO_ROLES, call);
    }

    private static void user(String what, Call call) {
        bounded(what + ", user", USERS, NO_USERS, call);
    }

    private static void session(String what, Call call) {
        bounded(what + ", session", OPEN_SESSIONS, NO_SESSIONS, call);
    }

    private static void bounded(String what, int[] there, int[] notThere, Call call) {
        for (int number : there) {
            Check.same(what + " " + number + " is there", true, isTaken(call, number));
        }
        for (int number : notThere) {
            Refused.index(what + " " + number, Worlds::busy, x -> call.with(x, number));
        }
    }

    /** A number that is there may still be refused, but by another exception. */
    private static boolean isTaken(Call call, int number) {
        try {
            call.with(Worlds.busy(), number);
        } catch (IndexOutOfBoundsException e) {
            return false;
        } catch (RuntimeException e) {
            return true;
        }
        return true;
    }
}
