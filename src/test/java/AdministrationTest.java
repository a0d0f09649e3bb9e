/** Promises 11 and 12: give, take. */
public final class AdministrationTest {
    public static void main(String[] args) {
        givesByRule();
        givesByWhatIsNeededAndUnwanted();
        neededRolesThatAreNotThere();
        givingKeepsStaticLimits();
        takesByRule();
        takingEndsActivity();
        oneMayServeOneself();
        refusesWhatIsNotThere();
        Check.end();
    }

    private static void givesByRule() {
        RoleAnalyser x = Check.world(4, 3);
        x.above(3, 0);
        x.assign(0, 3);
        x.assign(2, 2);
        Check.unsupported("without a rule", () -> x.give(0, 1, 1));
        x.takeRule(0, 1);
        Check.unsupported("with a rule to take", () -> x.give(0, 1, 1));
        x.giveRule(2, 0, 0, 2);
        x.giveRule(0, 0, 0, 1);
        Check.unsupported("by one who is no such administrator", () -> x.give(2, 1, 1));
        Check.unsupported("a role of another rule", () -> x.give(0, 1, 2));
        Check.unsupported("a role of no rule", () -> x.give(0, 1, 3));
        Check.same("by one above the administrators", true, x.give(0, 1, 1));
        Check.same("again", false, x.give(0, 1, 1));
        Check.same("given", 2, x.roles(1, false));
        Check.same("the giver's own", 8, x.roles(0, false));
    }

    private static void givesByWhatIsNeededAndUnwanted() {
        RoleAnalyser x = Check.world(6, 2);
        x.above(5, 1);
        x.assign(0, 0);
        x.giveRule(0, 6, 8, 4);
        Check.unsupported("nothing of what is needed", () -> x.give(0, 1, 4));
        x.assign(1, 5);
        Check.unsupported("half of what is needed", () -> x.give(0, 1, 4));
        x.assign(1, 2);
        x.assign(1, 3);
        Check.unsupported("something unwanted", () -> x.give(0, 1, 4));
        x.remove(1, 3);
        Check.same("needed ones by authorization", true, x.give(0, 1, 4));
        x.above(2, 3);
        Check.unsupported("unwanted by authorization", () -> x.give(0, 1, 4));
        x.giveRule(0, 0, 0, 4);
        Check.same("by any rule", false, x.give(0, 1, 4));
    }

    private static void neededRolesThatAreNotThere() {
        RoleAnalyser x = Check.world(2, 1);
        x.assign(0, 0);
        x.giveRule(0, 4, 0, 1);
        Check.unsupported("needed, but not there", () -> x.give(0, 0, 1));
        x.role();
        x.assign(0, 2);
        Check.same("there now", true, x.give(0, 0, 1));
        RoleAnalyser y = Check.world(2, 1);
        y.assign(0, 0);
        y.giveRule(0, 0, 60, 1);
        Check.same("unwanted, but not there", true, y.give(0, 0, 1));
    }

    private static void givingKeepsStaticLimits() {
        RoleAnalyser x = Check.world(4, 2);
        x.above(3, 2);
        x.limit(false, 6, 2);
        x.assign(0, 0);
        x.assign(1, 1);
        Check.unsupported("leave before limits", () -> x.give(0, 1, 2));
        x.giveRule(0, 0, 0, 2);
        x.giveRule(0, 0, 0, 3);
        Check.state("directly", () -> x.give(0, 1, 2));
        Check.state("by what is below", () -> x.give(0, 1, 3));
        Check.same("nothing changed", 2, x.roles(1, false));
        Check.same("to another", true, x.give(0, 0, 3));
    }

    private static void takesByRule() {
        RoleAnalyser x = Check.world(4, 3);
        x.above(3, 0);
        x.above(2, 1);
        x.assign(0, 3);
        x.assign(1, 1);
        x.assign(1, 2);
        x.giveRule(0, 0, 0, 1);
        Check.unsupported("with a rule to give", () -> x.take(0, 1, 1));
        Check.same("rule", 1, x.takeRule(0, 1));
        Check.unsupported("by one who is no such administrator", () -> x.take(1, 1, 1));
        Check.unsupported("a role of no rule", () -> x.take(0, 1, 2));
        Check.same("assigned", true, x.take(0, 1, 1));
        Check.same("only authorized", false, x.take(0, 1, 1));
        Check.same("still authorized", 6, x.roles(1, true));
        Check.same("from one who has nothing", false, x.take(0, 2, 1));
    }

    private static void takingEndsActivity() {
        RoleAnalyser x = Check.world(3, 2);
        x.above(1, 2);
        x.assign(0, 0);
        x.assign(1, 1);
        x.takeRule(0, 1);
        x.open(1);
        x.activate(0, 1);
        x.activate(0, 2);
        Check.same("taken", true, x.take(0, 1, 1));
        Check.same("nothing active", 0, x.active(0));
    }

    private static void oneMayServeOneself() {
        RoleAnalyser x = Check.world(2, 1);
        x.assign(0, 0);
        x.giveRule(0, 0, 0, 1);
        x.takeRule(0, 0);
        Check.same("gives to itself", true, x.give(0, 0, 1));
        Check.same("takes from itself", true, x.take(0, 0, 0));
        Check.unsupported("and may no more", () -> x.take(0, 0, 0));
    }

    private static void refusesWhatIsNotThere() {
        RoleAnalyser x = Check.world(2, 1);
        Check.index("give by 1", () -> x.give(1, 0, 0));
        Check.index("give by -1", () -> x.give(-1, 0, 0));
        Check.index("give to 1", () -> x.give(0, 1, 0));
        Check.index("give to -1", () -> x.give(0, -1, 0));
        Check.index("give role 2", () -> x.give(0, 0, 2));
        Check.index("give role -1", () -> x.give(0, 0, -1));
        Check.index("take by 1", () -> x.take(1, 0, 0));
        Check.index("take by -1", () -> x.take(-1, 0, 0));
        Check.index("take from 1", () -> x.take(0, 1, 0));
        Check.index("take from -1", () -> x.take(0, -1, 0));
        Check.index("take role 2", () -> x.take(0, 0, 2));
        Check.index("take role -1", () -> x.take(0, 0, -1));
    }
}
