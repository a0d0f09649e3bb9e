/** Who may give and take: authorized for all that is needed, for none that is unwanted, by any rule. */
public final class RuleBoundsTest {
    public static void main(String[] args) {
        allButOneOfTheNeededRoles();
        justOneOfTheUnwantedRoles();
        neededAndUnwantedAtOnce();
        emptySets();
        theRoleItselfNeededOrUnwanted();
        administratorsByTheRoleAbove();
        administratorsOfTheRoleBelow();
        oneAndTheSameUser();
        onlyTheLastOfEightRules();
        noTwoRulesTogether();
        rulesOfTheOtherKind();
        takingMindsNothingOfTheUser();
        refusedOnesChangeNothing();
        Check.end();
    }

    /** User 0 is assigned to role 0, which gives role 5 by one rule. */
    private static RoleAnalyser giving(int needed, int unwanted) {
        RoleAnalyser x = Check.world(6, 2);
        x.assign(0, 0);
        x.giveRule(0, needed, unwanted, 5);
        return x;
    }

    private static RoleAnalyser giving(int needed, int unwanted, int held) {
        RoleAnalyser x = giving(needed, unwanted);
        for (int role = 0; role < 6; role++) {
            if ((held >> role & 1) == 1) {
                x.assign(1, role);
            }
        }
        return x;
    }

    /** "u is authorized for all roles of the first set" */
    private static void allButOneOfTheNeededRoles() {
        Check.same("all of them", true, giving(31, 0, 31).give(0, 1, 5));
        for (int role = 0; role < 5; role++) {
            int missing = 1 << role;
            Refused.unsupported("all but " + role, () -> giving(31, 0, 31 & ~missing), x -> x.give(0, 1, 5));
            Check.same("none but " + role + " is needed", true, giving(missing, 0, missing).give(0, 1, 5));
        }
        RoleAnalyser x = giving(24, 0, 2);
        x.above(1, 3);
        Check.unsupported("one by a role above", () -> x.give(0, 1, 5));
        x.above(3, 4);
        Check.same("all by roles above", true, x.give(0, 1, 5));
    }

    /** "and for none of the second one" */
    private static void justOneOfTheUnwantedRoles() {
        Check.same("none of them", true, giving(0, 31, 0).give(0, 1, 5));
        for (int role = 0; role < 5; role++) {
            int held = 1 << role;
            Refused.unsupported("just " + role, () -> giving(0, 31, held), x -> x.give(0, 1, 5));
            Check.same("all others", true, giving(0, held, 31 & ~held).give(0, 1, 5));
        }
        RoleAnalyser x = giving(0, 16, 2);
        x.above(1, 3);
        Check.same("none by a role above", true, x.give(0, 1, 5));
        x.above(3, 4);
        Check.unsupported("one by roles above", () -> x.give(0, 1, 5));
    }

    private static void neededAndUnwantedAtOnce() {
        Check.unsupported("without it", () -> giving(2, 2, 0).give(0, 1, 5));
        Check.unsupported("with it", () -> giving(2, 2, 2).give(0, 1, 5));
        Check.same("no step", RoleAnalyser.NONE, giving(2, 2, 2).distance(1, 5));
    }

    private static void emptySets() {
        Check.same("one who has nothing", true, giving(0, 0, 0).give(0, 1, 5));
        Check.same("one who has all others", true, giving(0, 0, 31).give(0, 1, 5));
    }

    private static void theRoleItselfNeededOrUnwanted() {
        Check.unsupported("needed for itself", () -> giving(32, 0, 0).give(0, 1, 5));
        Check.same("needed and there", false, giving(32, 0, 32).give(0, 1, 5));
        RoleAnalyser x = giving(0, 32, 0);
        Check.same("unwanted and not there", true, x.give(0, 1, 5));
        Check.unsupported("unwanted and there", () -> x.give(0, 1, 5));
    }

    /** "x is authorized for a" */
    private static void administratorsByTheRoleAbove() {
        RoleAnalyser x = Check.world(4, 2);
        x.giveRule(2, 0, 0, 3);
        x.takeRule(2, 3);
        x.assign(0, 0);
        x.above(0, 1);
        Check.unsupported("not above it yet: give", () -> x.give(0, 1, 3));
        Check.unsupported("not above it yet: take", () -> x.take(0, 1, 3));
        x.above(1, 2);
        Check.same("above it: give", true, x.give(0, 1, 3));
        Check.same("above it: take", true, x.take(0, 1, 3));
        x.remove(0, 0);
        Check.unsupported("no more: give", () -> x.give(0, 1, 3));
        Check.unsupported("no more: take", () -> x.take(0, 1, 3));
    }

    private static void administratorsOfTheRoleBelow() {
        RoleAnalyser x = Check.world(3, 2);
        x.above(0, 1);
        x.giveRule(0, 0, 0, 2);
        x.takeRule(0, 2);
        x.assign(0, 1);
        Check.unsupported("who has the lower one: give", () -> x.give(0, 1, 2));
        Check.unsupported("who has the lower one: take", () -> x.take(0, 1, 2));
    }

    /** "(x and u may be the same one.)" */
    private static void oneAndTheSameUser() {
        RoleAnalyser x = Check.world(2, 1);
        x.giveRule(0, 1, 0, 1);
        x.takeRule(1, 0);
        x.assign(0, 0);
        Check.unsupported("takes from itself too soon", () -> x.take(0, 0, 0));
        Check.same("gives to itself", true, x.give(0, 0, 1));
        Check.same("takes from itself", true, x.take(0, 0, 0));
        Check.unsupported("gives to itself no more", () -> x.give(0, 0, 1));
        Check.same("takes what is gone", false, x.take(0, 0, 0));
    }

    /** "UnsupportedOperation: x may not give it to u by any rule." */
    private static void onlyTheLastOfEightRules() {
        for (int right = 0; right < 8; right++) {
            RoleAnalyser x = Check.world(6, 2);
            x.assign(0, 0);
            for (int rule = 0; rule < 8; rule++) {
                x.giveRule(0, rule == right ? 0 : 2, 0, 5);
            }
            Check.same("rule " + right + " alone lets give", true, x.give(0, 1, 5));
            RoleAnalyser y = Check.world(6, 2);
            y.assign(0, 0);
            y.assign(1, 5);
            for (int rule = 0; rule < 8; rule++) {
                y.takeRule(rule == right ? 0 : 1, 5);
            }
            Check.same("rule " + right + " alone lets take", true, y.take(0, 1, 5));
        }
        Refused.unsupported("none of eight", () -> {
            RoleAnalyser x = Check.world(6, 2);
            x.assign(0, 0);
            for (int rule = 0; rule < 8; rule++) {
                x.giveRule(0, 2, 0, 5);
            }
            return x;
        }, x -> x.give(0, 1, 5));
    }

    private static void noTwoRulesTogether() {
        RoleAnalyser x = Check.world(4, 2);
        x.assign(0, 0);
        x.giveRule(0, 2, 0, 3);
        x.giveRule(1, 0, 0, 3);
        Check.unsupported("the administrator of one, the needs of the other", () -> x.give(0, 1, 3));
    }

    private static void rulesOfTheOtherKind() {
        Refused.unsupported("to take, not to give", () -> {
            RoleAnalyser x = Check.world(2, 1);
            x.assign(0, 0);
            x.takeRule(0, 1);
            return x;
        }, x -> x.give(0, 0, 1));
        Refused.unsupported("to give, not to take", () -> {
            RoleAnalyser x = Check.world(2, 1);
            x.assign(0, 0);
            x.assign(0, 1);
            x.giveRule(0, 0, 0, 1);
            return x;
        }, x -> x.take(0, 0, 1));
    }

    /** "likewise MAY TAKE r from u when x is authorized for a" */
    private static void takingMindsNothingOfTheUser() {
        RoleAnalyser x = Check.world(3, 2);
        x.assign(0, 0);
        x.takeRule(0, 2);
        Check.same("from one who has nothing", false, x.take(0, 1, 2));
        x.assign(1, 1);
        x.assign(1, 2);
        Check.same("from one who has all sorts", true, x.take(0, 1, 2));
        Check.same("and only that", 2, x.roles(1, false));
    }

    private static void refusedOnesChangeNothing() {
        Refused.unsupported("give, no rule for the role", Worlds::busy, x -> x.give(0, 2, 1));
        Refused.unsupported("give, no administrator", Worlds::busy, x -> x.give(1, 2, 2));
        Refused.state("give, a limit", Worlds::busy, x -> x.give(0, 1, 2));
        Refused.unsupported("take, no rule for the role", Worlds::busy, x -> x.take(0, 1, 3));
        Refused.unsupported("take, no administrator", Worlds::busy, x -> x.take(1, 0, 2));
        Check.same("the administrator gives", true, Worlds.busy().give(0, 2, 2));
        Check.same("the administrator takes", true, Worlds.busy().take(0, 0, 2));
    }
}
