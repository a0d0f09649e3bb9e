/** "LIMITS ... a set of roles and a number n": n - 1 roles of the set are taken, the nth is refused. */
public final class LimitBoundsTest {
    public static void main(String[] args) {
        for (int n = 2; n <= 6; n++) {
            addedStaticLimits(n);
            addedDynamicLimits(n);
            assigning(n);
            giving(n);
            puttingAbove(n);
            steps(n);
            activating(n);
        }
        limitsThatNeverBind();
        rolesOutsideTheSet();
        countsEachRoleOnce();
        countsForEachUserAlone();
        countsForEachSessionAlone();
        countsOnlyActiveOnes();
        aboveForNobody();
        whatIsThereAlreadyIsNotRefused();
        roomComesBack();
        Check.end();
    }

    /** A user assigned to the first roles of six, with a session in which they are active. */
    private static RoleAnalyser holding(int count) {
        RoleAnalyser x = Check.world(6, 2);
        x.open(1);
        for (int role = 0; role < count; role++) {
            x.assign(1, role);
            x.activate(0, role);
        }
        return x;
    }

    private static RoleAnalyser holdingWithLimit(int count, boolean dynamic, int n) {
        RoleAnalyser x = holding(count);
        x.limit(dynamic, 63, n);
        return x;
    }

    /** Promise 6: "IllegalState: ... it is not kept." */
    private static void addedStaticLimits(int n) {
        Check.passes("n - 1 of " + n, () -> holding(n - 1).limit(false, 63, n));
        Refused.state("n of " + n, () -> holding(n), x -> x.limit(false, 63, n));
        Refused.state("just the set, " + n, () -> holding(n), x -> x.limit(false, (1 << n) - 1, n));
        Check.passes("one of them not in the set, " + n, () -> holding(n).limit(false, 62, n));
    }

    private static void addedDynamicLimits(int n) {
        Check.passes("n - 1 active of " + n, () -> holding(n - 1).limit(true, 63, n));
        Refused.state("n active of " + n, () -> holding(n), x -> x.limit(true, 63, n));
        Refused.state("just the set active, " + n, () -> holding(n), x -> x.limit(true, (1 << n) - 1, n));
        Check.passes("one active not in the set, " + n, () -> holding(n).limit(true, 62, n));
    }

    /** Promise 9: "IllegalState: a static limit would not be kept." */
    private static void assigning(int n) {
        Check.same("assign n - 1 of " + n, true, holdingWithLimit(n - 2, false, n).assign(1, n - 2));
        Refused.state("assign n of " + n, () -> holdingWithLimit(n - 1, false, n), x -> x.assign(1, n - 1));
        Check.same("assign n of " + (n + 1), true, holdingWithLimit(n - 1, false, n + 1).assign(1, n - 1));
    }

    /** Promise 11: "IllegalState: a static limit would not be kept." */
    private static void giving(int n) {
        Check.same("give n - 1 of " + n, true, administered(n - 2, n).give(0, 1, n - 2));
        Refused.state("give n of " + n, () -> administered(n - 1, n), x -> x.give(0, 1, n - 1));
        Check.same("give n of " + (n + 1), true, administered(n - 1, n + 1).give(0, 1, n - 1));
    }

    /** As above, with user 0 who may give the next role. */
    private static RoleAnalyser administered(int count, int n) {
        RoleAnalyser x = holdingWithLimit(count, false, n);
        x.assign(0, 0);
        x.giveRule(0, 0, 0, count);
        return x;
    }

    /** Promise 4: "IllegalState: a static limit would not be kept." */
    private static void puttingAbove(int n) {
        int top = n - 2;
        Check.same("above, n of " + (n + 1), true, holdingWithLimit(n - 1, false, n + 1).above(top, n - 1));
        Refused.state("above, n of " + n, () -> holdingWithLimit(n - 1, false, n), x -> x.above(top, n - 1));
        if (n < 6) {
            Check.same("a role above, for nobody", true, holdingWithLimit(n - 1, false, n).above(n, n - 1));
            Refused.state("above, by a role between, n of " + n, () -> {
                RoleAnalyser x = holdingWithLimit(n - 1, false, n + 1);
                x.above(top, n - 1);
                return x;
            }, x -> x.above(n - 1, n));
        }
    }

    /** "A STEP is giving r to u ... so that all static limits are kept then". */
    private static void steps(int n) {
        Check.same("a step to n - 1 of " + n, 1, administered(n - 2, n).distance(1, n - 2));
        Check.same("no step to n of " + n, RoleAnalyser.NONE, administered(n - 1, n).distance(1, n - 1));
        Refused.state("no plan to n of " + n, () -> administered(n - 1, n), x -> x.plan(1, n - 1, 0));
        Check.same("a step to n of " + (n + 1), 1, administered(n - 1, n + 1).distance(1, n - 1));
    }

    /** Promise 16: "IllegalState: a dynamic limit would not be kept." */
    private static void activating(int n) {
        RoleAnalyser x = holdingWithLimit(n - 2, true, n);
        x.assign(1, n - 2);
        Check.same("activate n - 1 of " + n, true, x.activate(0, n - 2));
        Refused.state("activate n of " + n, () -> {
            RoleAnalyser y = holdingWithLimit(n - 1, true, n);
            y.assign(1, n - 1);
            return y;
        }, y -> y.activate(0, n - 1));
    }

    private static void limitsThatNeverBind() {
        int[][] limits = {{0, 2}, {1, 2}, {32, 2}, {3, 3}, {63, 7}, {63, Integer.MAX_VALUE}};
        for (int[] limit : limits) {
            String what = "set " + limit[0] + ", n of " + limit[1];
            Check.passes(what + ", added last", () -> holding(6).limit(false, limit[0], limit[1]));
            Check.passes(what + ", added last, dynamic", () -> holding(6).limit(true, limit[0], limit[1]));
            RoleAnalyser x = Check.world(6, 1);
            x.limit(false, limit[0], limit[1]);
            x.limit(true, limit[0], limit[1]);
            x.open(0);
            for (int role = 0; role < 6; role++) {
                Check.same(what + ", assign", true, x.assign(0, role));
                Check.same(what + ", activate", true, x.activate(0, role));
            }
        }
    }

    private static void rolesOutsideTheSet() {
        RoleAnalyser x = Check.world(6, 1);
        x.limit(false, 33, 2);
        x.limit(true, 33, 2);
        x.open(0);
        for (int role = 0; role < 5; role++) {
            Check.same("assign " + role, true, x.assign(0, role));
            Check.same("activate " + role, true, x.activate(0, role));
        }
        Check.state("the second of the set", () -> x.assign(0, 5));
    }

    private static void countsEachRoleOnce() {
        RoleAnalyser x = Check.world(3, 1);
        x.limit(false, 6, 2);
        x.above(0, 1);
        x.assign(0, 0);
        Check.same("assigned, and authorized by another one", true, x.assign(0, 1));
        Check.state("a second role of the set", () -> x.assign(0, 2));
    }

    private static void countsForEachUserAlone() {
        RoleAnalyser x = Check.world(2, 2);
        x.limit(false, 3, 2);
        Check.same("the first user", true, x.assign(0, 0));
        Check.same("the second user", true, x.assign(1, 1));
        Check.state("both of the first one", () -> x.assign(0, 1));
        Check.state("both of the second one", () -> x.assign(1, 0));
    }

    private static void countsForEachSessionAlone() {
        RoleAnalyser x = Check.world(2, 1);
        x.limit(true, 3, 2);
        x.assign(0, 0);
        x.assign(0, 1);
        x.open(0);
        x.open(0);
        Check.same("the first session", true, x.activate(0, 0));
        Check.same("the second session of the same user", true, x.activate(1, 1));
        Check.state("both in the first one", () -> x.activate(0, 1));
        Check.passes("once more, with both kept", () -> x.limit(true, 3, 2));
    }

    private static void countsOnlyActiveOnes() {
        RoleAnalyser x = Check.world(3, 1);
        x.limit(true, 7, 2);
        x.above(0, 1);
        x.above(0, 2);
        x.assign(0, 0);
        x.open(0);
        Check.same("the roles below are not active", true, x.activate(0, 0));
        Check.same("though it is authorized for them", 7, x.roles(0, true));
        Check.state("one below counts when it would be", () -> x.activate(0, 1));
        Check.passes("nor are they for a further limit", () -> x.limit(true, 3, 2));
    }

    private static void aboveForNobody() {
        RoleAnalyser x = Check.world(3, 1);
        x.limit(false, 7, 2);
        Check.same("nobody has them", true, x.above(0, 1));
        Check.state("then nobody can have the upper one", () -> x.assign(0, 0));
        Check.same("but the lower one", true, x.assign(0, 1));
        Check.same("a role that nobody has is put above", true, x.above(2, 1));
        Refused.state("one that somebody has", () -> {
            RoleAnalyser y = Check.world(3, 1);
            y.limit(false, 7, 2);
            y.assign(0, 1);
            return y;
        }, y -> y.above(1, 2));
    }

    private static void whatIsThereAlreadyIsNotRefused() {
        RoleAnalyser x = holding(3);
        x.limit(false, 63, 4);
        x.limit(true, 63, 4);
        x.giveRule(0, 0, 0, 2);
        Check.same("assigned already", false, x.assign(1, 2));
        Check.same("given already", false, x.give(1, 1, 2));
        Check.same("active already", false, x.activate(0, 2));
        Check.state("a fourth one", () -> x.assign(1, 3));
    }

    private static void roomComesBack() {
        RoleAnalyser x = holding(2);
        x.limit(false, 63, 3);
        x.limit(true, 63, 3);
        Check.state("full", () -> x.assign(1, 2));
        x.remove(1, 0);
        Check.same("one less", true, x.assign(1, 2));
        Check.same("one less active, too", true, x.activate(0, 2));
        Check.state("full again", () -> x.assign(1, 0));
        x.limit(true, 6, 3);
        x.rest(0, 1);
        Check.passes("at rest it does not count", () -> x.limit(true, 6, 2));
        Check.state("and may not come back", () -> x.activate(0, 1));
    }
}
