/** "Exceptions are tested in the order in which a method lists them": calls for which two of them are due. */
public final class ExceptionOrderTest {
    public static void main(String[] args) {
        above();
        limit();
        giveRule();
        takeRule();
        assign();
        give();
        take();
        open();
        activate();
        distance();
        plan();
        Check.end();
    }

    private static void above() {
        Refused.index("no such role, and the same", Worlds::busy, x -> x.above(4, 4));
        Refused.index("no such role, and the same, below 0", Worlds::busy, x -> x.above(-1, -1));
        Refused.argument("b above a, and a limit not kept", ExceptionOrderTest::lowerOneAssigned, x -> x.above(1, 0));
    }

    /** Role 0 above 1; a user has 1 and must not have both. */
    private static RoleAnalyser lowerOneAssigned() {
        RoleAnalyser x = Check.world(2, 1);
        x.above(0, 1);
        x.assign(0, 1);
        x.limit(false, 3, 2);
        return x;
    }

    private static void limit() {
        for (boolean dynamic : new boolean[] {false, true}) {
            Refused.argument("n, and 4 of the kind", () -> fourLimits(dynamic), x -> x.limit(dynamic, 3, 1));
            Refused.argument("set, and 4 of the kind", () -> fourLimits(dynamic), x -> x.limit(dynamic, 64, 2));
            Refused.argument("n, and not kept", Worlds::busy, x -> x.limit(dynamic, 3, 1));
            Refused.argument("set, and not kept", Worlds::busy, x -> x.limit(dynamic, 64 + 3, 2));
            Refused.argument("set of all bits, and not kept", Worlds::busy, x -> x.limit(dynamic, -1, 2));
            Refused.state("4 of the kind, and not kept", () -> fourLimits(dynamic), x -> x.limit(dynamic, 3, 2));
            Refused.state("not kept alone", Worlds::busy, x -> x.limit(dynamic, 3, 2));
        }
    }

    private static RoleAnalyser fourLimits(boolean dynamic) {
        RoleAnalyser x = Worlds.busy();
        for (int i = 0; i < 3; i++) {
            x.limit(dynamic, 0, 2);
        }
        return x;
    }

    private static void giveRule() {
        Refused.index("a, and needed", Worlds::busy, x -> x.giveRule(4, 64, 0, 0));
        Refused.index("a, and unwanted", Worlds::busy, x -> x.giveRule(-1, 0, -1, 0));
        Refused.index("r, and needed", Worlds::busy, x -> x.giveRule(0, -1, 0, 4));
        Refused.index("r, and unwanted", Worlds::busy, x -> x.giveRule(0, 0, 64, -1));
        Refused.index("a, and 8 rules", ExceptionOrderTest::eightRules, x -> x.giveRule(4, 0, 0, 0));
        Refused.index("r, and 8 rules", ExceptionOrderTest::eightRules, x -> x.giveRule(0, 0, 0, 4));
        Refused.index("r, needed, and 8 rules", ExceptionOrderTest::eightRules, x -> x.giveRule(0, 64, 0, 4));
        Refused.argument("needed, and 8 rules", ExceptionOrderTest::eightRules, x -> x.giveRule(0, 64, 0, 0));
        Refused.argument("unwanted, and 8 rules", ExceptionOrderTest::eightRules, x -> x.giveRule(0, 0, -1, 0));
        Refused.state("8 rules alone", ExceptionOrderTest::eightRules, x -> x.giveRule(0, 0, 0, 0));
    }

    private static RoleAnalyser eightRules() {
        RoleAnalyser x = Worlds.busy();
        for (int i = 0; i < 6; i++) {
            x.takeRule(3, 3);
        }
        return x;
    }

    private static void takeRule() {
        Refused.index("a, and 8 rules", ExceptionOrderTest::eightRules, x -> x.takeRule(4, 0));
        Refused.index("r, and 8 rules", ExceptionOrderTest::eightRules, x -> x.takeRule(0, -1));
        Refused.state("8 rules alone", ExceptionOrderTest::eightRules, x -> x.takeRule(0, 0));
    }

    /** A limit may name roles that there are not; to assign one is an index out of bounds all the same. */
    private static void assign() {
        Refused.index("role, and a limit not kept", ExceptionOrderTest::absentRoleLimited, x -> x.assign(0, 4));
        Refused.index("user, and a limit not kept", Worlds::busy, x -> x.assign(3, 3));
        Refused.state("a limit not kept alone", Worlds::busy, x -> x.assign(0, 3));
    }

    private static RoleAnalyser absentRoleLimited() {
        RoleAnalyser x = Worlds.busy();
        x.limit(false, 17, 2);
        x.limit(true, 17, 2);
        return x;
    }

    private static void give() {
        Refused.index("x, and no rule", Worlds::busy, x -> x.give(3, 0, 1));
        Refused.index("u, and no rule", Worlds::busy, x -> x.give(0, 3, 1));
        Refused.index("role, and no rule", Worlds::busy, x -> x.give(0, 0, 4));
        Refused.index("role, and a limit not kept", ExceptionOrderTest::absentRoleLimited, x -> x.give(0, 0, 4));
        Refused.unsupported("no rule, and a limit not kept", Worlds::busy, x -> x.give(0, 0, 3));
        Refused.unsupported("no leave, and a limit not kept", Worlds::busy, x -> x.give(1, 1, 2));
        Refused.state("a limit not kept alone", Worlds::busy, x -> x.give(0, 1, 2));
    }

    private static void take() {
        Refused.index("x, and no rule", Worlds::busy, x -> x.take(-1, 0, 1));
        Refused.index("u, and no rule", Worlds::busy, x -> x.take(0, -1, 1));
        Refused.index("role, and no rule", Worlds::busy, x -> x.take(0, 0, 4));
        Refused.unsupported("no rule alone", Worlds::busy, x -> x.take(0, 0, 1));
    }

    private static void open() {
        Refused.index("user, and 4 open", ExceptionOrderTest::fourOpen, x -> x.open(3));
        Refused.index("user below 0, and 4 open", ExceptionOrderTest::fourOpen, x -> x.open(-1));
        Refused.state("4 open alone", ExceptionOrderTest::fourOpen, x -> x.open(2));
    }

    private static RoleAnalyser fourOpen() {
        RoleAnalyser x = Worlds.busy();
        x.open(1);
        x.open(2);
        return x;
    }

    private static void activate() {
        Refused.index("session, and not authorized", Worlds::busy, x -> x.activate(1, 3));
        Refused.index("role, and not authorized", Worlds::busy, x -> x.activate(0, 4));
        Refused.index("role, and a limit not kept", ExceptionOrderTest::absentRoleLimited, x -> x.activate(0, 4));
        Refused.unsupported("not authorized, and a limit not kept", () -> {
            RoleAnalyser x = Worlds.busy();
            x.limit(true, 9, 2);
            return x;
        }, x -> x.activate(0, 3));
        Refused.state("a limit not kept alone", Worlds::busy, x -> x.activate(0, 2));
    }

    private static void distance() {
        Refused.index("user, and 15 pairs", ExceptionOrderTest::manyPairs, x -> x.distance(3, 0));
        Refused.index("role, and 15 pairs", ExceptionOrderTest::manyPairs, x -> x.distance(0, 5));
        Refused.unsupported("15 pairs alone", ExceptionOrderTest::manyPairs, x -> x.distance(0, 0));
    }

    private static RoleAnalyser manyPairs() {
        RoleAnalyser x = Worlds.busy();
        x.role();
        return x;
    }

    private static void plan() {
        Refused.index("user, and 15 pairs", ExceptionOrderTest::manyPairs, x -> x.plan(3, 0, 0));
        Refused.index("role, and 15 pairs", ExceptionOrderTest::manyPairs, x -> x.plan(0, 5, 0));
        Refused.unsupported("15 pairs, and no steps", ExceptionOrderTest::manyPairs, x -> x.plan(2, 3, 0));
        Refused.unsupported("15 pairs, and no such step", ExceptionOrderTest::manyPairs, x -> x.plan(0, 0, -1));
        Refused.index("user, and no steps", Worlds::busy, x -> x.plan(3, 3, 0));
        Refused.state("no steps, and no such step", Worlds::busy, x -> x.plan(2, 3, -1));
        Refused.state("no steps alone", Worlds::busy, x -> x.plan(2, 3, 0));
    }
}
