/** Promises 1, 2, 3 and 13: a new object, role, user, roles. */
public final class RolesAndUsersTest {
    public static void main(String[] args) {
        nothingIsThereAtFirst();
        rolesAreNumbered();
        usersAreNumbered();
        rolesOfUsers();
        objectsAreApart();
        Check.end();
    }

    private static void nothingIsThereAtFirst() {
        RoleAnalyser x = new RoleAnalyser();
        Check.index("roles(0) of nothing", () -> x.roles(0, false));
        Check.index("grant(0, 0) of nothing", () -> x.grant(0, 0));
        Check.index("active(0) of nothing", () -> x.active(0));
        Check.index("open(0) of nothing", () -> x.open(0));
        Check.index("takeRule(0, 0) of nothing", () -> x.takeRule(0, 0));
        Check.index("distance(0, 0) of nothing", () -> x.distance(0, 0));
    }

    private static void rolesAreNumbered() {
        RoleAnalyser x = new RoleAnalyser();
        for (int i = 0; i < 6; i++) {
            int role = i;
            Check.index("grant before role " + i, () -> x.grant(role, 0));
            Check.same("role()", i, x.role());
            Check.same("grant after role " + i, true, x.grant(role, 0));
        }
        Check.state("a seventh role", x::role);
        Check.index("role 6", () -> x.grant(6, 0));
        Check.same("no user came with them", 0, x.user());
    }

    private static void usersAreNumbered() {
        RoleAnalyser x = new RoleAnalyser();
        for (int i = 0; i < 5; i++) {
            int user = i;
            Check.index("roles before user " + i, () -> x.roles(user, true));
            Check.same("user()", i, x.user());
            Check.same("assigned to nothing", 0, x.roles(user, false));
            Check.same("authorized for nothing", 0, x.roles(user, true));
        }
        Check.state("a sixth user", x::user);
        Check.index("user 5", () -> x.roles(5, true));
        Check.same("no role came with them", 0, x.role());
    }

    private static void rolesOfUsers() {
        RoleAnalyser x = Check.world(6, 5);
        x.above(5, 4);
        x.above(4, 0);
        x.assign(4, 5);
        x.assign(4, 1);
        Check.same("assigned", 34, x.roles(4, false));
        Check.same("authorized", 51, x.roles(4, true));
        Check.same("another's", 0, x.roles(3, true));
        Check.index("roles(-1)", () -> x.roles(-1, true));
        Check.index("roles(5)", () -> x.roles(5, false));
        Check.index("roles(least)", () -> x.roles(Integer.MIN_VALUE, false));
        Check.index("roles(greatest)", () -> x.roles(Integer.MAX_VALUE, false));
    }

    private static void objectsAreApart() {
        RoleAnalyser one = Check.world(2, 2);
        RoleAnalyser other = Check.world(1, 1);
        one.assign(0, 0);
        Check.same("the other's roles", 0, other.roles(0, true));
        Check.same("the other's next role", 1, other.role());
        Check.same("the one's next role", 2, one.role());
    }
}
