/** Promises 20 and 21 at their edges: no steps, none to take, the first, the last and none behind it. */
public final class PlanBoundsTest {
    private static final int NONE = RoleAnalyser.NONE;

    public static void main(String[] args) {
        stepsOfAPlanOfEachLength();
        noStepsToTake();
        noStepsLeadThere();
        theLeastAndGreatestCodes();
        givesWhatOneIsAuthorizedFor();
        takesOnlyWhatOneIsAssignedTo();
        administratorsAsThingsAreThen();
        limitsAsThingsAreThen();
        theFirstStepIsComparedFirst();
        shorterOnesComeBeforeLesserCodes();
        comingBackAfterTheLeastCode();
        theWidestSearch();
        takingThePlan();
        questionsChangeNothing();
        Check.end();
    }

    /** A ladder: who has 0 gives 1, then 2 to who has 1, and so on; two users. */
    private static RoleAnalyser ladder() {
        RoleAnalyser x = Check.world(6, 2);
        x.assign(0, 0);
        for (int role = 1; role < 6; role++) {
            x.giveRule(0, role == 1 ? 0 : 1 << role - 1, 0, role);
        }
        return x;
    }

    /** Promise 21: "The code of step k, from 0 ...; NONE when it has no such step." */
    private static void stepsOfAPlanOfEachLength() {
        for (int role = 1; role < 6; role++) {
            RoleAnalyser x = ladder();
            Check.same("distance to " + role, role, x.distance(1, role));
            for (int k = 0; k < role; k++) {
                Check.same("step " + k + " to " + role, 100 + 10 * (k + 1), x.plan(1, role, k));
            }
            for (int k : new int[] {-1, role, role + 1, Integer.MIN_VALUE, Integer.MAX_VALUE}) {
                Check.same("step " + k + " to " + role, NONE, x.plan(1, role, k));
            }
        }
    }

    private static void noStepsToTake() {
        RoleAnalyser x = Check.world(3, 1);
        x.above(0, 1);
        x.assign(0, 0);
        for (int role = 0; role < 2; role++) {
            Check.same("there already", 0, x.distance(0, role));
            for (int k : new int[] {-1, 0, 1, Integer.MIN_VALUE, Integer.MAX_VALUE}) {
                Check.same("step " + k + " of none", NONE, x.plan(0, role, k));
            }
        }
        Check.same("not there", NONE, x.distance(0, 2));
    }

    /** Promise 20: "NONE when no steps lead there"; promise 21: "IllegalState: no steps lead there." */
    private static void noStepsLeadThere() {
        Check.same("role 0 is not given", NONE, ladder().distance(1, 0));
        for (int k : new int[] {-1, 0, 1, Integer.MIN_VALUE, Integer.MAX_VALUE}) {
            Refused.state("step " + k, PlanBoundsTest::ladder, x -> x.plan(1, 0, k));
        }
        RoleAnalyser x = ladder();
        Check.same("five steps", 5, x.distance(1, 5));
        x.remove(0, 0);
        Check.same("without an administrator", NONE, x.distance(1, 5));
        Check.state("and no plan", () -> x.plan(1, 5, 0));
        x.assign(0, 5);
        Check.same("there without any", 0, x.distance(0, 5));
    }

    /** "Its CODE is 100 * u + 10 * r, and 1 more for taking." */
    private static void theLeastAndGreatestCodes() {
        RoleAnalyser x = Check.world(2, 2);
        x.assign(1, 1);
        x.giveRule(1, 0, 0, 0);
        Check.same("giving 0 to 0", 0, x.plan(0, 0, 0));
        Check.same("one step", 1, x.distance(0, 0));
        RoleAnalyser y = Check.world(2, 2);
        y.assign(0, 0);
        y.assign(1, 0);
        y.takeRule(0, 0);
        y.giveRule(0, 0, 1, 1);
        Check.same("taking 0 from 0", 1, y.plan(0, 1, 0));
        Check.same("giving 1 to 0", 10, y.plan(0, 1, 1));
        RoleAnalyser z = Check.world(6, 2);
        z.assign(0, 0);
        z.assign(1, 5);
        z.takeRule(0, 5);
        z.giveRule(0, 0, 32, 4);
        Check.same("taking 5 from 1", 151, z.plan(1, 4, 0));
        Check.same("giving 4 to 1", 140, z.plan(1, 4, 1));
        RoleAnalyser w = Check.world(2, 5);
        w.assign(0, 0);
        w.assign(4, 1);
        w.takeRule(0, 1);
        w.giveRule(0, 0, 2, 0);
        Check.same("taking 1 from 4", 411, w.plan(4, 0, 0));
        Check.same("giving 0 to 4", 400, w.plan(4, 0, 1));
    }

    /** "A STEP is giving r to u, who is not assigned to it": though authorized for it by another role. */
    private static void givesWhatOneIsAuthorizedFor() {
        RoleAnalyser x = Check.world(4, 2);
        x.above(1, 2);
        x.assign(0, 0);
        x.assign(1, 1);
        x.giveRule(0, 0, 0, 2);
        x.takeRule(0, 1);
        x.giveRule(0, 4, 2, 3);
        Check.same("three steps", 3, x.distance(1, 3));
        Check.same("taking 1 first, as its code is the least", 111, x.plan(1, 3, 0));
        Check.same("giving 2", 120, x.plan(1, 3, 1));
        Check.same("giving 3", 130, x.plan(1, 3, 2));
        RoleAnalyser y = Check.world(4, 2);
        y.above(2, 1);
        y.assign(0, 0);
        y.assign(1, 2);
        y.giveRule(0, 4, 0, 1);
        y.takeRule(0, 2);
        y.giveRule(0, 2, 4, 3);
        Check.same("giving 1 though authorized", 110, y.plan(1, 3, 0));
        Check.same("taking 2", 121, y.plan(1, 3, 1));
        Check.same("giving 3", 130, y.plan(1, 3, 2));
        Check.same("no fourth", NONE, y.plan(1, 3, 3));
    }

    /** "or taking r from u, who is assigned to it": not when authorized by another role only. */
    private static void takesOnlyWhatOneIsAssignedTo() {
        RoleAnalyser x = Check.world(4, 2);
        x.above(1, 2);
        x.assign(0, 0);
        x.assign(1, 1);
        x.takeRule(0, 2);
        x.giveRule(0, 0, 4, 3);
        Check.same("2 cannot be taken", NONE, x.distance(1, 3));
        x.takeRule(0, 1);
        Check.same("1 can", 2, x.distance(1, 3));
        x.assign(1, 2);
        Check.same("both must go", 3, x.distance(1, 3));
        Check.same("first 1", 111, x.plan(1, 3, 0));
        Check.same("then 2", 121, x.plan(1, 3, 1));
    }

    /** "one after the other, each as things are then" */
    private static void administratorsAsThingsAreThen() {
        RoleAnalyser x = Check.world(3, 3);
        x.assign(0, 0);
        x.giveRule(0, 0, 0, 1);
        x.giveRule(1, 0, 0, 2);
        Check.same("one must become the administrator", 2, x.distance(2, 2));
        Check.same("the first user does", 10, x.plan(2, 2, 0));
        Check.same("then the role is given", 220, x.plan(2, 2, 1));
        RoleAnalyser y = Check.world(2, 1);
        y.assign(0, 0);
        y.takeRule(0, 0);
        y.giveRule(0, 0, 1, 1);
        Check.same("the only administrator must not be one", NONE, y.distance(0, 1));
        y.user();
        Check.same("a new user has nothing to give", NONE, y.distance(0, 1));
        y.assign(1, 0);
        Check.same("a second administrator", 2, y.distance(0, 1));
    }

    private static void limitsAsThingsAreThen() {
        RoleAnalyser x = Check.world(4, 2);
        x.limit(false, 14, 3);
        x.assign(0, 0);
        x.assign(1, 1);
        x.giveRule(0, 0, 0, 2);
        x.giveRule(0, 4, 0, 3);
        Check.same("two of the set at most", NONE, x.distance(1, 3));
        x.takeRule(0, 1);
        Check.same("one must go", 3, x.distance(1, 3));
        Check.same("taking 1", 111, x.plan(1, 3, 0));
        Check.same("giving 2", 120, x.plan(1, 3, 1));
        Check.same("giving 3", 130, x.plan(1, 3, 2));
        x.limit(true, 12, 2);
        Check.same("dynamic limits do not bind steps", 3, x.distance(1, 3));
    }

    /** "that of such rows of N steps that has the least codes, the first step compared first" */
    private static void theFirstStepIsComparedFirst() {
        RoleAnalyser x = Check.world(6, 2);
        x.assign(0, 0);
        x.giveRule(0, 0, 0, 1);
        x.giveRule(0, 0, 0, 2);
        x.giveRule(0, 2, 0, 5);
        x.giveRule(0, 4, 0, 3);
        x.above(5, 4);
        x.above(3, 4);
        Check.same("two steps", 2, x.distance(1, 4));
        Check.same("the lesser first step", 110, x.plan(1, 4, 0));
        Check.same("though the second is greater", 150, x.plan(1, 4, 1));
    }

    private static void shorterOnesComeBeforeLesserCodes() {
        RoleAnalyser x = Check.world(4, 2);
        x.assign(0, 0);
        x.giveRule(0, 0, 0, 1);
        x.giveRule(0, 2, 0, 2);
        x.giveRule(0, 0, 0, 3);
        x.above(3, 2);
        Check.same("one step", 1, x.distance(1, 2));
        Check.same("of a greater code", 130, x.plan(1, 2, 0));
    }

    /** A step of code 0 is a step like others: coming back to where it led does not undo it. */
    private static void comingBackAfterTheLeastCode() {
        RoleAnalyser x = Check.world(4, 2);
        x.assign(1, 1);
        x.giveRule(1, 0, 0, 0);
        x.giveRule(1, 1, 0, 2);
        x.takeRule(1, 2);
        x.giveRule(1, 4, 0, 3);
        Check.same("three steps", 3, x.distance(0, 3));
        Check.same("giving 0 to 0", 0, x.plan(0, 3, 0));
        Check.same("giving 2 to 0", 20, x.plan(0, 3, 1));
        Check.same("giving 3 to 0", 30, x.plan(0, 3, 2));
    }

    /** All that three users can come to with three of four roles, and nobody ever to the fourth one. */
    private static void theWidestSearch() {
        RoleAnalyser x = Check.world(4, 3);
        x.assign(0, 0);
        for (int role = 0; role < 3; role++) {
            x.giveRule(0, 0, 0, role);
            x.takeRule(0, role);
        }
        Check.same("never", NONE, x.distance(2, 3));
        x.giveRule(1, 7, 0, 3);
        Check.same("by all three", 4, x.distance(2, 3));
        Check.same("first", 200, x.plan(2, 3, 0));
        Check.same("second", 210, x.plan(2, 3, 1));
        Check.same("third", 220, x.plan(2, 3, 2));
        Check.same("fourth", 230, x.plan(2, 3, 3));
    }

    /** Each step of a plan, taken, leaves one step less, and the rest of the plan. */
    private static void takingThePlan() {
        RoleAnalyser x = ladder();
        for (int left = 5; left > 0; left--) {
            Check.same("steps left", left, x.distance(1, 5));
            int code = x.plan(1, 5, 0);
            Check.same("the next step", 100 + 10 * (6 - left), code);
            Check.same("the last step", 150, x.plan(1, 5, left - 1));
            Check.same("taken", true, x.give(0, code / 100, code / 10 % 10));
        }
        Check.same("there", 0, x.distance(1, 5));
        Check.same("no step left", NONE, x.plan(1, 5, 0));
    }

    private static void questionsChangeNothing() {
        Refused.unchanged("distance", PlanBoundsTest::ladder, x -> x.distance(1, 5));
        Refused.unchanged("distance to nowhere", PlanBoundsTest::ladder, x -> x.distance(1, 0));
        Refused.unchanged("plan", PlanBoundsTest::ladder, x -> x.plan(1, 5, 4));
        Refused.unchanged("plan without such a step", PlanBoundsTest::ladder, x -> x.plan(1, 5, 5));
    }
}
