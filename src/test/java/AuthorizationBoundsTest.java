/** What standing above brings, and what it does not, at every place of a chain of six roles. */
public final class AuthorizationBoundsTest {
    public static void main(String[] args) {
        for (int role = 0; role < 6; role++) {
            authorizedForWhatIsBelow(role);
            activatesWhatIsBelow(role);
            mayWhatIsGrantedBelow(role);
        }
        assignedIsNotAuthorized();
        mayOnlyByActiveRoles();
        aRoleAddedLaterStandsAlone();
        Check.end();
    }

    /** "A user is AUTHORIZED for a role when it is assigned to it or to one above it." */
    private static void authorizedForWhatIsBelow(int role) {
        RoleAnalyser x = Worlds.chain(2);
        x.assign(1, role);
        Check.same("assigned", 1 << role, x.roles(1, false));
        Check.same("authorized", 63 & ~((1 << role) - 1), x.roles(1, true));
        Check.same("another user", 0, x.roles(0, true));
        Check.same("removed", true, x.remove(1, role));
        Check.same("authorized no more", 0, x.roles(1, true));
    }

    /** Promise 16: "UnsupportedOperation: its user is not authorized for it." */
    private static void activatesWhatIsBelow(int role) {
        for (int other = 0; other < 6; other++) {
            int wanted = other;
            if (other >= role) {
                Check.same(role + " lets " + other, true, inSession(role).activate(0, other));
            } else {
                String what = role + " does not let " + other;
                Refused.unsupported(what, () -> inSession(role), x -> x.activate(0, wanted));
            }
        }
    }

    private static RoleAnalyser inSession(int role) {
        RoleAnalyser x = Worlds.chain(2);
        x.assign(0, role);
        x.open(0);
        return x;
    }

    /** "granted to a role that is active in it, or to one that stands below such a role" */
    private static void mayWhatIsGrantedBelow(int role) {
        RoleAnalyser x = Worlds.chain(1);
        x.assign(0, 0);
        x.open(0);
        for (int other = 0; other < 6; other++) {
            x.grant(other, 5 * other);
        }
        x.activate(0, role);
        for (int other = 0; other < 6; other++) {
            Check.same(role + " may what " + other + " may", other >= role, x.may(0, 5 * other));
        }
        x.rest(0, role);
        for (int other = 0; other < 6; other++) {
            Check.same("at rest, may what " + other + " may", false, x.may(0, 5 * other));
        }
    }

    private static void assignedIsNotAuthorized() {
        RoleAnalyser x = Check.world(2, 1);
        Check.same("assigned to nothing", 0, x.roles(0, false));
        Check.same("authorized for nothing", 0, x.roles(0, true));
        x.assign(0, 0);
        x.above(0, 1);
        Check.same("assigned", 1, x.roles(0, false));
        Check.same("authorized", 3, x.roles(0, true));
    }

    private static void mayOnlyByActiveRoles() {
        RoleAnalyser x = Check.world(2, 1);
        x.assign(0, 0);
        x.assign(0, 1);
        x.grant(1, 9);
        x.open(0);
        x.open(0);
        Check.same("nothing is active", false, x.may(0, 9));
        x.activate(0, 0);
        Check.same("another role is active", false, x.may(0, 9));
        x.activate(1, 1);
        Check.same("active in another session", false, x.may(0, 9));
        Check.same("active in this one", true, x.may(1, 9));
        x.above(0, 1);
        Check.same("the active one stands above now", true, x.may(0, 9));
        Check.same("and is active alone", 1, x.active(0));
    }

    private static void aRoleAddedLaterStandsAlone() {
        RoleAnalyser x = Check.world(1, 1);
        x.assign(0, 0);
        x.open(0);
        x.activate(0, 0);
        x.role();
        Check.same("nobody has it", 1, x.roles(0, true));
        Check.unsupported("nor may have it active", () -> x.activate(0, 1));
        x.grant(1, 0);
        Check.same("nor may by it", false, x.may(0, 0));
    }
}
