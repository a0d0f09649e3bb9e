/**
 * "bits of roles that there are not (yet) are allowed in them, and count as soon as these are added" and "A needed
 * role that there is not is one for which nobody is authorized."
 */
public final class AbsentRolesTest {
    public static void main(String[] args) {
        staticLimitsOfAbsentRoles();
        staticLimitsCountOneAddedRole();
        staticLimitsCountBelow();
        staticLimitsBindSteps();
        dynamicLimitsOfAbsentRoles();
        neededRolesThatAreAbsent();
        neededRolesThatAreAbsentLeadNowhere();
        unwantedRolesThatAreAbsent();
        unwantedRolesBindSteps();
        rolesOfRulesMustBeThere();
        Check.end();
    }

    private static void staticLimitsOfAbsentRoles() {
        RoleAnalyser x = Check.world(4, 1);
        x.limit(false, 48, 2);
        for (int role = 0; role < 4; role++) {
            Check.same("other roles are free", true, x.assign(0, role));
        }
        x.role();
        Check.same("the first of them is free", true, x.assign(0, 4));
        Check.index("the second is not there yet", () -> x.assign(0, 5));
        x.role();
        Check.state("the second counts", () -> x.assign(0, 5));
        Check.same("nothing changed", 31, x.roles(0, false));
        x.remove(0, 4);
        Check.same("the second alone", true, x.assign(0, 5));
        Check.state("then the first counts", () -> x.assign(0, 4));
    }

    private static void staticLimitsCountOneAddedRole() {
        RoleAnalyser x = Check.world(1, 1);
        x.assign(0, 0);
        Check.passes("kept, as five of six are not there", () -> x.limit(false, 63, 2));
        x.role();
        Check.state("the one that is there now counts", () -> x.assign(0, 1));
        x.remove(0, 0);
        Check.same("and is free alone", true, x.assign(0, 1));
    }

    private static void staticLimitsCountBelow() {
        RoleAnalyser x = Check.world(1, 1);
        x.limit(false, 6, 2);
        x.assign(0, 0);
        x.role();
        x.role();
        Check.same("the first added one below", true, x.above(0, 1));
        Check.state("the second added one below", () -> x.above(0, 2));
        Check.state("and below the first", () -> x.above(1, 2));
        Check.same("nothing changed", 3, x.roles(0, true));
    }

    private static void staticLimitsBindSteps() {
        RoleAnalyser x = Check.world(2, 1);
        x.limit(false, 6, 2);
        x.assign(0, 0);
        x.assign(0, 1);
        x.role();
        x.giveRule(0, 0, 0, 2);
        Check.state("giving the added role", () -> x.give(0, 0, 2));
        Check.same("no step", RoleAnalyser.NONE, x.distance(0, 2));
        x.remove(0, 1);
        Check.same("a step", 1, x.distance(0, 2));
    }

    private static void dynamicLimitsOfAbsentRoles() {
        RoleAnalyser x = Check.world(1, 1);
        x.limit(true, 7, 2);
        x.assign(0, 0);
        x.open(0);
        Check.same("the one that is there", true, x.activate(0, 0));
        x.role();
        x.role();
        x.assign(0, 1);
        x.assign(0, 2);
        Check.state("the first added one counts", () -> x.activate(0, 1));
        Check.state("the second added one counts", () -> x.activate(0, 2));
        x.rest(0, 0);
        Check.same("an added one alone", true, x.activate(0, 2));
        Check.state("and the other one with it", () -> x.activate(0, 1));
    }

    private static void neededRolesThatAreAbsent() {
        for (int needed = 2; needed < 6; needed++) {
            RoleAnalyser x = Check.world(2, 1);
            x.assign(0, 0);
            x.giveRule(0, 1 | 1 << needed, 0, 1);
            for (int roles = 2; roles <= needed; roles++) {
                Check.unsupported("needed " + needed + " of " + roles, () -> x.give(0, 0, 1));
                x.role();
            }
            Check.unsupported("there, but nobody's", () -> x.give(0, 0, 1));
            x.assign(0, needed);
            Check.same("authorized for it", true, x.give(0, 0, 1));
        }
    }

    private static void neededRolesThatAreAbsentLeadNowhere() {
        RoleAnalyser x = Check.world(2, 1);
        x.assign(0, 0);
        x.giveRule(0, 4, 0, 1);
        Check.same("not there", RoleAnalyser.NONE, x.distance(0, 1));
        Check.state("not there: plan", () -> x.plan(0, 1, 0));
        x.role();
        Check.same("there, but not to be had", RoleAnalyser.NONE, x.distance(0, 1));
        x.giveRule(0, 0, 0, 2);
        Check.same("there, and to be had", 2, x.distance(0, 1));
        Check.same("first the needed one", 20, x.plan(0, 1, 0));
        Check.same("then the role", 10, x.plan(0, 1, 1));
    }

    private static void unwantedRolesThatAreAbsent() {
        for (int unwanted = 2; unwanted < 6; unwanted++) {
            RoleAnalyser x = Check.world(2, 1);
            x.assign(0, 0);
            x.giveRule(0, 0, 1 << unwanted, 1);
            for (int roles = 2; roles <= unwanted; roles++) {
                Check.same("unwanted " + unwanted + " of " + roles, roles == 2, x.give(0, 0, 1));
                x.role();
            }
            Check.same("there, but nobody's", false, x.give(0, 0, 1));
            x.assign(0, unwanted);
            Check.unsupported("authorized for it", () -> x.give(0, 0, 1));
        }
    }

    private static void unwantedRolesBindSteps() {
        RoleAnalyser x = Check.world(2, 1);
        x.assign(0, 0);
        x.giveRule(0, 0, 60, 1);
        Check.same("not there", 1, x.distance(0, 1));
        x.role();
        Check.same("there, but nobody's", 1, x.distance(0, 1));
        x.assign(0, 2);
        Check.same("authorized for it", RoleAnalyser.NONE, x.distance(0, 1));
    }

    /** "(an administrator role and a rule's role must be there)" */
    private static void rolesOfRulesMustBeThere() {
        Refused.index("to give by 2", () -> Check.world(2, 1), x -> x.giveRule(2, 4, 4, 0));
        Refused.index("to give 2", () -> Check.world(2, 1), x -> x.giveRule(0, 4, 4, 2));
        Refused.index("to take by 2", () -> Check.world(2, 1), x -> x.takeRule(2, 0));
        Refused.index("to take 2", () -> Check.world(2, 1), x -> x.takeRule(0, 2));
        RoleAnalyser x = Check.world(2, 1);
        Check.same("sets of what is not there", 0, x.giveRule(1, 60, 60, 1));
        x.role();
        Check.same("to give 2 by 2", 1, x.giveRule(2, 0, 0, 2));
        Check.same("to take 2 by 2", 2, x.takeRule(2, 2));
    }
}
