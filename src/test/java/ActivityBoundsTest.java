/** "Whenever a user is no longer authorized for a role, its sessions have it active no more." */
public final class ActivityBoundsTest {
    public static void main(String[] args) {
        goesWithTheLastAssignment();
        goesWithTheRoleAbove();
        goesByTaking();
        staysWhileAuthorizedOtherwise();
        goesFromAllSessionsOfTheUser();
        staysInSessionsOfOthers();
        doesNotComeBack();
        leavesPermissionsBehind();
        leavesRoomInDynamicLimits();
        staysWhenACallIsRefused();
        staysWhenNothingIsRemoved();
        Check.end();
    }

    private static void goesWithTheLastAssignment() {
        RoleAnalyser x = Check.world(2, 1);
        x.assign(0, 0);
        x.assign(0, 1);
        x.open(0);
        x.activate(0, 0);
        x.activate(0, 1);
        Check.same("removed", true, x.remove(0, 0));
        Check.same("the other one stays", 2, x.active(0));
        Check.same("at rest already", false, x.rest(0, 0));
        Check.unsupported("not to be had again", () -> x.activate(0, 0));
        x.remove(0, 1);
        Check.same("the session stays open with nothing", 0, x.active(0));
    }

    private static void goesWithTheRoleAbove() {
        RoleAnalyser x = Worlds.chain(1);
        x.assign(0, 0);
        x.assign(0, 3);
        x.open(0);
        for (int role = 0; role < 6; role++) {
            x.activate(0, role);
        }
        Check.same("all are active", 63, x.active(0));
        x.remove(0, 0);
        Check.same("those from 3 on stay", 56, x.active(0));
        x.remove(0, 3);
        Check.same("all are gone", 0, x.active(0));
    }

    private static void goesByTaking() {
        RoleAnalyser x = Check.world(3, 2);
        x.above(1, 2);
        x.takeRule(0, 1);
        x.assign(0, 0);
        x.assign(1, 1);
        x.open(1);
        x.activate(0, 1);
        x.activate(0, 2);
        Check.same("taken", true, x.take(0, 1, 1));
        Check.same("both are gone", 0, x.active(0));
    }

    private static void staysWhileAuthorizedOtherwise() {
        RoleAnalyser x = Check.world(3, 1);
        x.above(0, 2);
        x.above(1, 2);
        x.takeRule(0, 2);
        x.assign(0, 0);
        x.assign(0, 1);
        x.assign(0, 2);
        x.open(0);
        x.activate(0, 2);
        Check.same("its own assignment taken", true, x.take(0, 0, 2));
        Check.same("by two above", 4, x.active(0));
        x.remove(0, 0);
        Check.same("by one above", 4, x.active(0));
        x.remove(0, 1);
        Check.same("by none", 0, x.active(0));
    }

    private static void goesFromAllSessionsOfTheUser() {
        RoleAnalyser x = Check.world(2, 1);
        x.assign(0, 0);
        x.assign(0, 1);
        for (int session = 0; session < 4; session++) {
            x.open(0);
            x.activate(session, 0);
            x.activate(session, 1);
        }
        x.remove(0, 0);
        for (int session = 0; session < 4; session++) {
            Check.same("session " + session, 2, x.active(session));
        }
    }

    private static void staysInSessionsOfOthers() {
        RoleAnalyser x = Check.world(1, 4);
        for (int user = 0; user < 4; user++) {
            x.assign(user, 0);
            x.open(user);
            x.activate(user, 0);
        }
        x.remove(1, 0);
        Check.same("user 0's", 1, x.active(0));
        Check.same("user 1's", 0, x.active(1));
        Check.same("user 2's", 1, x.active(2));
        Check.same("user 3's", 1, x.active(3));
    }

    private static void doesNotComeBack() {
        RoleAnalyser x = Check.world(2, 1);
        x.giveRule(1, 0, 0, 0);
        x.assign(0, 0);
        x.assign(0, 1);
        x.open(0);
        x.activate(0, 0);
        x.remove(0, 0);
        x.assign(0, 0);
        Check.same("assigned again", 0, x.active(0));
        x.activate(0, 0);
        x.remove(0, 0);
        x.give(0, 0, 0);
        Check.same("given again", 0, x.active(0));
        Check.same("until it is activated", true, x.activate(0, 0));
    }

    private static void leavesPermissionsBehind() {
        RoleAnalyser x = Check.world(3, 1);
        x.above(0, 1);
        x.grant(0, 0);
        x.grant(1, 1);
        x.grant(2, 2);
        x.assign(0, 0);
        x.assign(0, 2);
        x.open(0);
        x.activate(0, 0);
        x.activate(0, 2);
        x.remove(0, 0);
        Check.same("its own", false, x.may(0, 0));
        Check.same("of the one below", false, x.may(0, 1));
        Check.same("of another one", true, x.may(0, 2));
    }

    private static void leavesRoomInDynamicLimits() {
        RoleAnalyser x = Check.world(2, 1);
        x.limit(true, 3, 2);
        x.assign(0, 0);
        x.assign(0, 1);
        x.open(0);
        x.activate(0, 0);
        Check.state("no room", () -> x.activate(0, 1));
        x.remove(0, 0);
        Check.same("room", true, x.activate(0, 1));
    }

    private static void staysWhenACallIsRefused() {
        RoleAnalyser x = Worlds.busy();
        Check.unsupported("no leave to take", () -> x.take(1, 0, 2));
        Check.index("no such role", () -> x.remove(0, 4));
        Check.state("a limit", () -> x.activate(0, 2));
        Check.state("a limit", () -> x.assign(0, 3));
        Check.same("session 0", 3, x.active(0));
        Check.same("session 2", 4, x.active(2));
    }

    private static void staysWhenNothingIsRemoved() {
        RoleAnalyser x = Worlds.busy();
        Check.same("authorized by another one only", false, x.remove(0, 1));
        Check.same("session 0", 3, x.active(0));
        Check.same("from one who has it not", false, x.take(0, 1, 2));
        Check.same("session 2", 4, x.active(2));
    }
}
