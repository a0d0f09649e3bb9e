/** An object with as much of everything as there can be: what is still taken, and what is refused. */
public final class FullTest {
    public static void main(String[] args) {
        nothingCanBeAdded();
        allElseCanBeDone();
        limitsOfTheLastUserAndSession();
        refusedCalls();
        Check.end();
    }

    private static void nothingCanBeAdded() {
        Refused.state("role", Worlds::full, RoleAnalyser::role);
        Refused.state("user", Worlds::full, RoleAnalyser::user);
        Refused.state("static limit", Worlds::full, x -> x.limit(false, 0, 2));
        Refused.state("dynamic limit", Worlds::full, x -> x.limit(true, 0, 2));
        Refused.state("rule to give", Worlds::full, x -> x.giveRule(5, 0, 0, 5));
        Refused.state("rule to take", Worlds::full, x -> x.takeRule(5, 5));
        Refused.state("session", Worlds::full, x -> x.open(4));
    }

    private static void allElseCanBeDone() {
        RoleAnalyser x = Worlds.full();
        Check.same("above", true, x.above(0, 3));
        Check.same("grant", true, x.grant(5, 30));
        Check.same("take", true, x.take(0, 1, 1));
        Check.same("nothing is active then", 0, x.active(1));
        Check.same("give", true, x.give(0, 1, 5));
        Check.same("activate", true, x.activate(1, 5));
        Check.same("may", true, x.may(1, 30));
        Check.same("rest", true, x.rest(1, 5));
        Check.same("remove", true, x.remove(4, 4));
        Check.same("assign", true, x.assign(4, 5));
        Check.same("roles", 32, x.roles(4, true));
        x.close(3);
        Check.same("open", 3, x.open(4));
        Check.same("activate for the last user", true, x.activate(3, 5));
    }

    private static void limitsOfTheLastUserAndSession() {
        RoleAnalyser x = Check.world(6, 5);
        for (int i = 0; i < 4; i++) {
            x.open(4);
        }
        x.assign(4, 4);
        x.assign(4, 5);
        x.activate(3, 4);
        x.activate(3, 5);
        Check.state("static, of the last user", () -> x.limit(false, 48, 2));
        Check.state("dynamic, of the last session", () -> x.limit(true, 48, 2));
        Check.passes("static, kept by five users", () -> x.limit(false, 48, 3));
        Check.passes("dynamic, kept by four sessions", () -> x.limit(true, 48, 3));
        x.limit(false, 63, 3);
        Check.state("above, for the last user", () -> x.above(5, 0));
        Check.same("above, for nobody", true, x.above(0, 1));
    }

    private static void refusedCalls() {
        Refused.index("role 6", Worlds::full, x -> x.assign(0, 6));
        Refused.index("user 5", Worlds::full, x -> x.roles(5, true));
        Refused.index("session 4", Worlds::full, x -> x.close(4));
        Refused.index("permission 31", Worlds::full, x -> x.grant(5, 31));
        Refused.argument("5 above 4", Worlds::full, x -> x.above(5, 4));
        Refused.state("above, against the second limit", Worlds::full, x -> x.above(1, 2));
        Refused.state("above, against the fourth limit", Worlds::full, x -> x.above(4, 3));
        Refused.state("assign, against the first limit", Worlds::full, x -> x.assign(0, 1));
        Refused.state("assign, against the third limit", Worlds::full, x -> x.assign(2, 3));
        Refused.state("give, against the fourth limit", Worlds::full, x -> x.give(0, 4, 1));
        Refused.unsupported("give, what no rule gives", Worlds::full, x -> x.give(0, 4, 0));
        Refused.unsupported("take, what no rule takes", Worlds::full, x -> x.take(0, 4, 4));
        Refused.unsupported("activate, what is another's", Worlds::full, x -> x.activate(3, 4));
        Refused.unsupported("distance", Worlds::full, x -> x.distance(4, 5));
        Refused.unsupported("plan", Worlds::full, x -> x.plan(4, 5, 0));
    }
}
