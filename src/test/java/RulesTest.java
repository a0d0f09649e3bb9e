/** Promises 7 and 8: giveRule, takeRule. */
public final class RulesTest {
    public static void main(String[] args) {
        areNumberedTogether();
        giveRuleRefuses();
        takeRuleRefuses();
        refusedOnesDoNotCount();
        Check.end();
    }

    private static void areNumberedTogether() {
        RoleAnalyser x = Check.world(2, 0);
        for (int i = 0; i < 8; i += 2) {
            Check.same("giveRule", i, x.giveRule(1, 0, 0, 0));
            Check.same("takeRule", i + 1, x.takeRule(0, 1));
        }
        Check.state("a ninth rule to give", () -> x.giveRule(0, 0, 0, 0));
        Check.state("a ninth rule to take", () -> x.takeRule(0, 0));
        Check.index("index before state, to give", () -> x.giveRule(0, 0, 0, 2));
        Check.index("index before state, to take", () -> x.takeRule(0, 2));
        Check.argument("argument before state", () -> x.giveRule(0, 64, 0, 0));
    }

    private static void giveRuleRefuses() {
        RoleAnalyser x = Check.world(2, 0);
        Check.index("a of 2", () -> x.giveRule(2, 0, 0, 0));
        Check.index("a of -1", () -> x.giveRule(-1, 0, 0, 0));
        Check.index("r of 2", () -> x.giveRule(0, 0, 0, 2));
        Check.index("r of -1", () -> x.giveRule(0, 0, 0, -1));
        Check.argument("needed of 64", () -> x.giveRule(0, 64, 0, 0));
        Check.argument("needed of -1", () -> x.giveRule(0, -1, 0, 0));
        Check.argument("unwanted of 64", () -> x.giveRule(0, 0, 64, 0));
        Check.argument("unwanted of -1", () -> x.giveRule(0, 0, -1, 0));
        Check.index("index before argument", () -> x.giveRule(0, 64, 64, 2));
        Check.same("sets with roles that are not there", 0, x.giveRule(0, 63, 63, 0));
    }

    private static void takeRuleRefuses() {
        RoleAnalyser x = Check.world(2, 0);
        Check.index("a of 2", () -> x.takeRule(2, 0));
        Check.index("a of -1", () -> x.takeRule(-1, 0));
        Check.index("r of 2", () -> x.takeRule(0, 2));
        Check.index("r of -1", () -> x.takeRule(0, -1));
    }

    private static void refusedOnesDoNotCount() {
        RoleAnalyser x = Check.world(1, 1);
        x.assign(0, 0);
        Check.argument("refused", () -> x.giveRule(0, 0, 64, 0));
        Check.index("refused", () -> x.takeRule(0, 1));
        Check.unsupported("a refused rule lets nobody give", () -> x.give(0, 0, 0));
        Check.same("the first number", 0, x.takeRule(0, 0));
    }
}
