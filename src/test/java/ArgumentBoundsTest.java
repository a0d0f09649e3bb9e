/** The numbers and sets that calls take: sets 0 .. 63, a limit's number from 2 on, and no role above itself. */
public final class ArgumentBoundsTest {
    private static final int[] NO_SETS = {-1, 64, 65, 127, 128, Integer.MIN_VALUE, Integer.MAX_VALUE};

    public static void main(String[] args) {
        setsOfLimits();
        setsOfRules();
        numbersOfLimits();
        rolesAboveThemselves();
        rolesAboveThoseAboveThem();
        Check.end();
    }

    /** Promise 6: "IllegalArgument: ... set is not 0 .. 63." */
    private static void setsOfLimits() {
        for (boolean dynamic : new boolean[] {false, true}) {
            for (int i = 0; i <= 63; i++) {
                int set = i;
                Check.passes("set " + set, () -> Check.world(1, 1).limit(dynamic, set, 2));
            }
            for (int set : NO_SETS) {
                Refused.argument("set " + set, Worlds::busy, x -> x.limit(dynamic, set, 2));
                Refused.argument("set " + set, RoleAnalyser::new, x -> x.limit(dynamic, set, 2));
            }
        }
    }

    /** Promise 7: "IllegalArgument: a set is not 0 .. 63." */
    private static void setsOfRules() {
        for (int i = 0; i <= 63; i++) {
            Check.same("needed " + i, 0, Check.world(1, 1).giveRule(0, i, 0, 0));
            Check.same("unwanted " + i, 0, Check.world(1, 1).giveRule(0, 0, i, 0));
            Check.same("both " + i, 0, Check.world(1, 1).giveRule(0, i, i, 0));
        }
        for (int set : NO_SETS) {
            Refused.argument("needed " + set, Worlds::busy, x -> x.giveRule(0, set, 0, 1));
            Refused.argument("unwanted " + set, Worlds::busy, x -> x.giveRule(0, 0, set, 1));
            Refused.argument("both " + set, Worlds::busy, x -> x.giveRule(0, set, set, 1));
        }
    }

    /** Promise 6: "IllegalArgument: n is below 2"; no number is too great. */
    private static void numbersOfLimits() {
        for (boolean dynamic : new boolean[] {false, true}) {
            for (int n : new int[] {2, 3, 6, 7, 64, Integer.MAX_VALUE}) {
                Check.passes("n of " + n, () -> Check.world(1, 1).limit(dynamic, 63, n));
            }
            for (int n : new int[] {1, 0, -1, -2, Integer.MIN_VALUE}) {
                Refused.argument("n of " + n, Worlds::busy, x -> x.limit(dynamic, 2, n));
                Refused.argument("n of " + n + " for no roles", Worlds::busy, x -> x.limit(dynamic, 0, n));
            }
        }
    }

    /** Promise 4: "IllegalArgument: they are the same". */
    private static void rolesAboveThemselves() {
        for (int i = 0; i < 6; i++) {
            int role = i;
            Refused.argument("above itself", () -> Check.world(6, 1), x -> x.above(role, role));
            Refused.argument("above itself in a chain", () -> Worlds.chain(1), x -> x.above(role, role));
        }
    }

    /** Promise 4: "IllegalArgument: ... b stands above a", by however many roles between them. */
    private static void rolesAboveThoseAboveThem() {
        for (int i = 0; i < 6; i++) {
            for (int j = i + 1; j < 6; j++) {
                int upper = i;
                int lower = j;
                Check.same(upper + " above " + lower, false, Worlds.chain(1).above(upper, lower));
                Refused.argument(lower + " above " + upper, () -> Worlds.chain(1), x -> x.above(lower, upper));
            }
        }
        RoleAnalyser x = Check.world(3, 0);
        x.above(0, 1);
        x.above(0, 2);
        Check.same("roles below the same one are not above one another", true, x.above(2, 1));
        RoleAnalyser y = Check.world(3, 0);
        y.above(1, 0);
        y.above(2, 0);
        Check.same("roles above the same one are not, either", true, y.above(2, 1));
        Check.argument("but then no more the other way", () -> y.above(1, 2));
    }
}
