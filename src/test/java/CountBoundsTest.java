/** How many there can be of everything: the last that is taken, and the first that is refused. */
public final class CountBoundsTest {
    public static void main(String[] args) {
        nothingIsThereAtFirst();
        thereAreAtMostSixRoles();
        thereAreAtMostFiveUsers();
        thereAreAtMostFourLimitsOfAKind();
        fullLimitsOfOneKindLeaveTheOtherFree();
        refusedLimitsTakeNoRoom();
        thereAreAtMostEightRules();
        refusedRulesTakeNoRoom();
        atMostFourSessionsAreOpen();
        atMostTwelvePairsAreAskedOf();
        pairsGrowBeyondTwelve();
        theLastOf512CallsIsAnswered();
        Check.end();
    }

    /** Promise 1: "Nothing is there." */
    private static void nothingIsThereAtFirst() {
        Refused.index("above", RoleAnalyser::new, x -> x.above(0, 0));
        Refused.index("grant", RoleAnalyser::new, x -> x.grant(0, 0));
        Refused.index("giveRule", RoleAnalyser::new, x -> x.giveRule(0, 0, 0, 0));
        Refused.index("takeRule", RoleAnalyser::new, x -> x.takeRule(0, 0));
        Refused.index("assign", RoleAnalyser::new, x -> x.assign(0, 0));
        Refused.index("remove", RoleAnalyser::new, x -> x.remove(0, 0));
        Refused.index("give", RoleAnalyser::new, x -> x.give(0, 0, 0));
        Refused.index("take", RoleAnalyser::new, x -> x.take(0, 0, 0));
        Refused.index("roles", RoleAnalyser::new, x -> x.roles(0, true));
        Refused.index("open", RoleAnalyser::new, x -> x.open(0));
        Refused.index("close", RoleAnalyser::new, x -> x.close(0));
        Refused.index("activate", RoleAnalyser::new, x -> x.activate(0, 0));
        Refused.index("rest", RoleAnalyser::new, x -> x.rest(0, 0));
        Refused.index("active", RoleAnalyser::new, x -> x.active(0));
        Refused.index("may", RoleAnalyser::new, x -> x.may(0, 0));
        Refused.index("distance", RoleAnalyser::new, x -> x.distance(0, 0));
        Refused.index("plan", RoleAnalyser::new, x -> x.plan(0, 0, 0));
        RoleAnalyser x = new RoleAnalyser();
        Check.passes("a limit needs no role", () -> x.limit(false, 63, 2));
        Check.same("the first role", 0, x.role());
        Check.same("the first user", 0, x.user());
    }

    /** Promise 2: "A role more: its number. IllegalState: there are 6." */
    private static void thereAreAtMostSixRoles() {
        RoleAnalyser x = Check.world(0, 1);
        for (int i = 0; i < 6; i++) {
            Check.same("role " + i, i, x.role());
            Check.same("nobody has role " + i, 0, x.roles(0, true));
        }
        Check.same("the last one can be used", true, x.assign(0, 5));
        Refused.state("a seventh role", () -> Check.world(6, 2), RoleAnalyser::role);
        Refused.state("a seventh role, asked for twice", CountBoundsTest::refusedASeventhRole, RoleAnalyser::role);
    }

    private static RoleAnalyser refusedASeventhRole() {
        RoleAnalyser x = Check.world(6, 1);
        Check.state("a seventh role", x::role);
        return x;
    }

    /** Promise 3: "A user more, assigned to nothing: its number. IllegalState: there are 5." */
    private static void thereAreAtMostFiveUsers() {
        RoleAnalyser x = Check.world(1, 0);
        for (int i = 0; i < 5; i++) {
            Check.same("user " + i, i, x.user());
            Check.same("assigned to nothing", 0, x.roles(i, false));
            x.assign(i, 0);
        }
        Refused.state("a sixth user", () -> Check.world(2, 5), RoleAnalyser::user);
        Refused.state("a sixth user, asked for twice", CountBoundsTest::refusedASixthUser, RoleAnalyser::user);
    }

    private static RoleAnalyser refusedASixthUser() {
        RoleAnalyser x = Check.world(1, 5);
        Check.state("a sixth user", x::user);
        return x;
    }

    /** Promise 6: "IllegalState: there are 4 of the kind"; the fourth still binds. */
    private static void thereAreAtMostFourLimitsOfAKind() {
        for (boolean dynamic : new boolean[] {false, true}) {
            for (int i = 0; i < 4; i++) {
                RoleAnalyser x = limited(dynamic, i);
                Check.passes("limit " + i, () -> x.limit(dynamic, 3, 2));
                x.open(0);
                x.assign(0, 0);
                x.activate(0, 0);
                if (dynamic) {
                    x.assign(0, 1);
                    Check.state("dynamic limit " + i + " binds", () -> x.activate(0, 1));
                } else {
                    Check.state("static limit " + i + " binds", () -> x.assign(0, 1));
                }
            }
            Refused.state("a fifth limit", () -> limited(dynamic, 4), x -> x.limit(dynamic, 3, 2));
            Refused.state("a fifth one that binds nothing", () -> limited(dynamic, 4), x -> x.limit(dynamic, 0, 9));
        }
    }

    private static RoleAnalyser limited(boolean dynamic, int count) {
        RoleAnalyser x = Check.world(2, 2);
        for (int i = 0; i < count; i++) {
            x.limit(dynamic, 0, 2);
        }
        return x;
    }

    private static void fullLimitsOfOneKindLeaveTheOtherFree() {
        for (boolean full : new boolean[] {false, true}) {
            RoleAnalyser x = limited(full, 4);
            for (int i = 0; i < 4; i++) {
                Check.passes("limit " + i + " of the other kind", () -> x.limit(!full, 3, 2));
            }
            Check.state("a fifth one of the other kind", () -> x.limit(!full, 3, 2));
            Check.state("a fifth one of the first kind", () -> x.limit(full, 3, 2));
        }
    }

    private static void refusedLimitsTakeNoRoom() {
        RoleAnalyser x = Check.world(2, 1);
        x.assign(0, 0);
        x.assign(0, 1);
        for (int i = 0; i < 5; i++) {
            Check.state("not kept", () -> x.limit(false, 3, 2));
            Check.argument("n too small", () -> x.limit(false, 3, 1));
        }
        for (int i = 0; i < 4; i++) {
            Check.passes("limit " + i, () -> x.limit(false, 3, 3));
        }
        Check.state("a fifth limit", () -> x.limit(false, 3, 3));
    }

    /** Promises 7 and 8: "IllegalState: there are 8 rules (of both kinds together)." */
    private static void thereAreAtMostEightRules() {
        for (int gives = 0; gives <= 7; gives++) {
            int count = gives;
            Check.same("the eighth rule, to give", 7, ruled(count, 7 - count).giveRule(0, 0, 0, 1));
            Check.same("the eighth rule, to take", 7, ruled(count, 7 - count).takeRule(0, 1));
        }
        for (int gives = 0; gives <= 8; gives++) {
            int count = gives;
            Refused.state("a ninth rule, to give", () -> ruled(count, 8 - count), x -> x.giveRule(0, 0, 0, 1));
            Refused.state("a ninth rule, to take", () -> ruled(count, 8 - count), x -> x.takeRule(0, 1));
        }
        RoleAnalyser x = ruled(7, 0);
        x.giveRule(0, 0, 0, 1);
        Check.same("the eighth rule lets give", true, x.give(0, 1, 1));
        RoleAnalyser y = ruled(0, 7);
        y.takeRule(0, 1);
        Check.same("the eighth rule lets take", false, y.take(0, 1, 1));
    }

    /** Rules about role 2 only, so that a further one about role 1 is told from them. */
    private static RoleAnalyser ruled(int gives, int takes) {
        RoleAnalyser x = Check.world(3, 2);
        x.assign(0, 0);
        for (int i = 0; i < gives; i++) {
            x.giveRule(0, 0, 0, 2);
        }
        for (int i = 0; i < takes; i++) {
            x.takeRule(0, 2);
        }
        return x;
    }

    private static void refusedRulesTakeNoRoom() {
        RoleAnalyser x = Check.world(1, 1);
        for (int i = 0; i < 9; i++) {
            Check.index("no such role", () -> x.takeRule(0, 1));
            Check.argument("no such set", () -> x.giveRule(0, 64, 0, 0));
        }
        for (int i = 0; i < 8; i++) {
            Check.same("rule " + i, i, x.takeRule(0, 0));
        }
        Check.state("a ninth rule", () -> x.takeRule(0, 0));
    }

    /** Promise 14: "IllegalState: 4 are open."; sessions are counted over all users. */
    private static void atMostFourSessionsAreOpen() {
        for (int users = 1; users <= 5; users++) {
            int count = users;
            RoleAnalyser x = Check.world(1, count);
            for (int i = 0; i < 4; i++) {
                Check.same("session " + i, i, x.open(i % count));
            }
            Refused.state("a fifth session", () -> fourOpen(count), y -> y.open(0));
            Refused.state("a fifth session, of the last user", () -> fourOpen(count), y -> y.open(count - 1));
        }
        RoleAnalyser x = fourOpen(1);
        x.close(3);
        Check.same("one closed", 3, x.open(0));
        Check.state("four open again", () -> x.open(0));
    }

    private static RoleAnalyser fourOpen(int users) {
        RoleAnalyser x = Check.world(2, users);
        for (int i = 0; i < 4; i++) {
            x.open(i % users);
        }
        return x;
    }

    /** Promises 20 and 21: "UnsupportedOperation: there are more than 12 pairs." */
    private static void atMostTwelvePairsAreAskedOf() {
        for (int roles = 1; roles <= 6; roles++) {
            for (int users = 1; users <= 5; users++) {
                if (roles * users <= 12) {
                    isAskedOf(roles, users);
                } else {
                    isNotAskedOf(roles, users);
                }
            }
        }
    }

    private static void isAskedOf(int roles, int users) {
        String size = roles + " roles, " + users + " users: ";
        RoleAnalyser x = Check.world(roles, users);
        int role = roles - 1;
        int user = users - 1;
        Check.same(size + "far", RoleAnalyser.NONE, x.distance(user, role));
        Check.state(size + "no plan", () -> x.plan(user, role, 0));
        x.giveRule(0, 0, 0, role);
        x.assign(0, 0);
        boolean isThere = (x.roles(user, true) >> role & 1) == 1;
        Check.same(size + "distance", isThere ? 0 : 1, x.distance(user, role));
        Check.same(size + "plan", isThere ? -1 : 100 * user + 10 * role, x.plan(user, role, 0));
    }

    private static void isNotAskedOf(int roles, int users) {
        String size = roles + " roles, " + users + " users: ";
        Refused.unsupported(size + "distance", () -> Check.world(roles, users), x -> x.distance(0, 0));
        Refused.unsupported(size + "plan", () -> Check.world(roles, users), x -> x.plan(0, 0, 0));
        RoleAnalyser x = Check.world(roles, users);
        x.assign(0, 0);
        Check.unsupported(size + "distance of one who is there", () -> x.distance(0, 0));
        Check.unsupported(size + "plan of one who is there", () -> x.plan(0, 0, 0));
    }

    private static void pairsGrowBeyondTwelve() {
        RoleAnalyser x = Check.world(4, 3);
        x.assign(2, 3);
        Check.same("12 pairs", 0, x.distance(2, 3));
        x.role();
        Check.unsupported("15 pairs by a role more", () -> x.distance(2, 3));
        RoleAnalyser y = Check.world(4, 3);
        y.assign(2, 3);
        Check.same("12 pairs", RoleAnalyser.NONE, y.plan(2, 3, 0));
        y.user();
        Check.unsupported("16 pairs by a user more", () -> y.plan(2, 3, 0));
    }

    /** "An object is used for at most 512 calls after it has been made". */
    private static void theLastOf512CallsIsAnswered() {
        RoleAnalyser x = Check.world(4, 3);
        int calls = 7;
        x.assign(0, 0);
        x.giveRule(0, 0, 0, 1);
        x.giveRule(0, 2, 0, 2);
        x.giveRule(0, 4, 2, 3);
        x.takeRule(0, 1);
        calls += 5;
        while (calls < 511) {
            Check.same("call " + calls, 111, x.plan(1, 3, 2));
            calls++;
        }
        Check.same("call 512", 4, x.distance(2, 3));
    }
}
