/** Promises 20 and 21: distance, plan. */
public final class DistanceAndPlanTest {
    public static void main(String[] args) {
        nothingToDo();
        noStepsLeadThere();
        comesByOneAbove();
        takesWhatIsUnwanted();
        takesWhatALimitForbids();
        firstMakesAnAdministrator();
        mindsWhatStandsBelow();
        hasTheLeastCodes();
        goesALongWay();
        asksOfTwelvePairs();
        changesNothing();
        refusesWhatIsNotThere();
        Check.end();
    }

    private static void isPlan(String what, RoleAnalyser x, int user, int role, int... codes) {
        Check.same(what + ": distance", codes.length, x.distance(user, role));
        for (int k = 0; k < codes.length; k++) {
            Check.same(what + ": step " + k, codes[k], x.plan(user, role, k));
        }
        for (int k : new int[] {-1, codes.length, codes.length + 1, Integer.MIN_VALUE, Integer.MAX_VALUE}) {
            Check.same(what + ": step " + k, RoleAnalyser.NONE, x.plan(user, role, k));
        }
    }

    private static void isFar(String what, RoleAnalyser x, int user, int role) {
        Check.same(what + ": distance", RoleAnalyser.NONE, x.distance(user, role));
        for (int k : new int[] {-1, 0, 1}) {
            Check.state(what + ": step " + k, () -> x.plan(user, role, k));
        }
    }

    private static void nothingToDo() {
        RoleAnalyser x = Check.world(2, 1);
        x.above(0, 1);
        x.assign(0, 0);
        isPlan("assigned", x, 0, 0);
        isPlan("authorized", x, 0, 1);
    }

    private static void noStepsLeadThere() {
        RoleAnalyser x = Check.world(2, 2);
        x.assign(0, 0);
        isFar("without a rule", x, 1, 1);
        x.takeRule(0, 1);
        isFar("with a rule to take", x, 1, 1);
        x.giveRule(1, 0, 0, 1);
        isFar("without an administrator", x, 1, 1);
        x.giveRule(0, 4, 0, 1);
        isFar("with a needed role that is not there", x, 1, 1);
        x.giveRule(0, 0, 0, 1);
        isPlan("with a rule", x, 1, 1, 110);
        x.limit(false, 3, 2);
        isFar("against a limit", x, 0, 1);
    }

    private static void comesByOneAbove() {
        RoleAnalyser x = Check.world(3, 2);
        x.above(1, 2);
        x.assign(0, 0);
        x.giveRule(0, 0, 0, 1);
        isPlan("by the role above", x, 1, 2, 110);
        x.giveRule(0, 0, 0, 2);
        isPlan("the role above has the lesser code", x, 1, 2, 110);
        RoleAnalyser y = Check.world(3, 2);
        y.above(2, 1);
        y.assign(0, 0);
        y.giveRule(0, 0, 0, 2);
        y.giveRule(0, 0, 0, 1);
        isPlan("the role itself has the lesser code", y, 1, 1, 110);
    }

    private static void takesWhatIsUnwanted() {
        RoleAnalyser x = Check.world(3, 2);
        x.assign(0, 0);
        x.assign(1, 1);
        x.giveRule(0, 0, 2, 2);
        isFar("cannot be taken", x, 1, 2);
        x.takeRule(0, 1);
        isPlan("taken first", x, 1, 2, 111, 120);
        x.giveRule(0, 2, 0, 2);
        isPlan("another rule needs it", x, 1, 2, 120);
    }

    private static void takesWhatALimitForbids() {
        RoleAnalyser x = Check.world(4, 2);
        x.above(3, 2);
        x.limit(false, 6, 2);
        x.assign(0, 0);
        x.assign(1, 1);
        x.giveRule(0, 0, 0, 3);
        isFar("cannot be taken", x, 1, 2);
        x.takeRule(0, 1);
        isPlan("taken first", x, 1, 2, 111, 130);
    }

    private static void firstMakesAnAdministrator() {
        RoleAnalyser x = Check.world(3, 3);
        x.assign(2, 0);
        x.giveRule(0, 0, 0, 1);
        x.giveRule(1, 0, 2, 2);
        isPlan("somebody else becomes one", x, 1, 2, 10, 120);
        isPlan("the user itself may not", x, 0, 2, 110, 20);
        x.takeRule(0, 0);
        isPlan("the first one may go", x, 1, 2, 10, 120);
        RoleAnalyser y = Check.world(2, 1);
        y.assign(0, 0);
        y.giveRule(0, 0, 1, 1);
        y.takeRule(0, 0);
        isFar("nobody is left to give", y, 0, 1);
    }

    private static void mindsWhatStandsBelow() {
        RoleAnalyser x = Check.world(4, 2);
        x.above(2, 1);
        x.assign(0, 0);
        x.assign(1, 2);
        x.giveRule(0, 2, 0, 3);
        isPlan("needed by authorization", x, 1, 3, 130);
        RoleAnalyser y = Check.world(4, 2);
        y.above(2, 1);
        y.assign(0, 0);
        y.assign(1, 2);
        y.giveRule(0, 0, 2, 3);
        isFar("unwanted by authorization", y, 1, 3);
        y.takeRule(0, 2);
        isPlan("unwanted until taken", y, 1, 3, 121, 130);
        RoleAnalyser z = Check.world(3, 2);
        z.above(2, 1);
        z.assign(1, 2);
        z.giveRule(1, 0, 0, 0);
        isPlan("an administrator by authorization, and the least code", z, 0, 0, 0);
    }

    private static void hasTheLeastCodes() {
        RoleAnalyser x = Check.world(4, 2);
        x.assign(0, 0);
        x.giveRule(0, 0, 0, 1);
        x.giveRule(0, 0, 0, 2);
        x.giveRule(0, 6, 0, 3);
        isPlan("the lesser role first", x, 1, 3, 110, 120, 130);
        x.assign(1, 2);
        isPlan("what is there is not given", x, 1, 3, 110, 130);
        RoleAnalyser y = Check.world(4, 2);
        y.assign(0, 0);
        y.giveRule(0, 0, 0, 2);
        y.giveRule(0, 0, 0, 1);
        y.giveRule(0, 4, 0, 3);
        y.giveRule(0, 2, 0, 3);
        isPlan("the lesser of two ways", y, 1, 3, 110, 130);
        RoleAnalyser z = Check.world(4, 2);
        z.assign(0, 0);
        z.assign(1, 1);
        z.takeRule(0, 1);
        z.giveRule(0, 0, 0, 2);
        z.giveRule(0, 4, 2, 3);
        isPlan("taking 1 comes before giving 2", z, 1, 3, 111, 120, 130);
    }

    private static void goesALongWay() {
        RoleAnalyser x = Check.world(6, 2);
        x.assign(0, 0);
        x.giveRule(0, 0, 62, 1);
        x.giveRule(0, 2, 60, 2);
        x.giveRule(0, 4, 58, 3);
        x.giveRule(0, 8, 48, 4);
        x.giveRule(0, 20, 40, 5);
        x.takeRule(0, 1);
        x.takeRule(0, 2);
        x.takeRule(0, 3);
        isPlan("what was needed for a step goes after it", x, 1, 5, 110, 120, 111, 130, 140, 131, 150);
        RoleAnalyser y = Check.world(6, 2);
        y.assign(0, 0);
        y.giveRule(0, 0, 60, 1);
        y.giveRule(0, 2, 0, 2);
        y.giveRule(0, 4, 2, 3);
        y.giveRule(0, 8, 4, 4);
        y.giveRule(0, 16, 8, 5);
        y.takeRule(0, 1);
        y.takeRule(0, 2);
        y.takeRule(0, 3);
        isPlan("one role leads to the next", y, 1, 5, 110, 120, 111, 130, 121, 140, 131, 150);
        isPlan("for the administrator, too", y, 0, 5, 10, 20, 11, 30, 21, 40, 31, 50);
    }

    private static void asksOfTwelvePairs() {
        int[][] few = {{6, 2}, {4, 3}, {3, 4}, {2, 5}, {6, 1}};
        for (int[] size : few) {
            RoleAnalyser x = Check.world(size[0], size[1]);
            int lastRole = size[0] - 1;
            int lastUser = size[1] - 1;
            x.assign(lastUser, 0);
            x.giveRule(0, 0, 0, lastRole);
            isPlan(size[0] + " roles", x, lastUser, lastRole, 100 * lastUser + 10 * lastRole);
        }
        int[][] many = {{6, 3}, {5, 3}, {4, 4}, {3, 5}, {6, 5}};
        for (int[] size : many) {
            RoleAnalyser x = Check.world(size[0], size[1]);
            x.assign(0, 0);
            Check.unsupported(size[0] + " roles: distance", () -> x.distance(0, 0));
            Check.unsupported(size[0] + " roles: plan", () -> x.plan(0, 0, 0));
            Check.unsupported("pairs before steps", () -> x.plan(0, 1, 0));
            Check.index("index before pairs: distance", () -> x.distance(0, size[0]));
            Check.index("index before pairs: plan", () -> x.plan(size[1], 0, 0));
        }
    }

    private static void changesNothing() {
        RoleAnalyser x = Check.world(3, 2);
        x.assign(0, 0);
        x.assign(1, 1);
        x.giveRule(0, 0, 2, 2);
        x.takeRule(0, 1);
        x.open(1);
        x.activate(0, 1);
        isPlan("once", x, 1, 2, 111, 120);
        isPlan("twice", x, 1, 2, 111, 120);
        Check.same("roles", 2, x.roles(1, true));
        Check.same("active", 2, x.active(0));
        Check.same("the first step", true, x.take(0, 1, 1));
        isPlan("after the first step", x, 1, 2, 120);
        x.user();
        x.role();
        isPlan("with more pairs", x, 1, 2, 120);
        x.remove(0, 0);
        isFar("asked anew without the administrator", x, 1, 2);
    }

    private static void refusesWhatIsNotThere() {
        RoleAnalyser x = Check.world(2, 1);
        for (int wrong : new int[] {-1, 2, Integer.MIN_VALUE, Integer.MAX_VALUE}) {
            Check.index("distance of user", () -> x.distance(wrong, 0));
            Check.index("distance to role", () -> x.distance(0, wrong));
            Check.index("plan of user", () -> x.plan(wrong, 0, 0));
            Check.index("plan to role", () -> x.plan(0, wrong, 0));
        }
        Check.index("distance of user 1", () -> x.distance(1, 0));
    }
}
