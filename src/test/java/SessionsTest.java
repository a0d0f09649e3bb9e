/** Promises 14 to 18: open, close, activate, rest, active. */
public final class SessionsTest {
    public static void main(String[] args) {
        opensTheLeastFreeNumber();
        closedSessionsForget();
        activates();
        activationKeepsDynamicLimits();
        rests();
        refusesWhatIsNotThere();
        Check.end();
    }

    private static void opensTheLeastFreeNumber() {
        RoleAnalyser x = Check.world(1, 2);
        for (int i = 0; i < 4; i++) {
            Check.same("open", i, x.open(i % 2));
            Check.same("nothing active", 0, x.active(i));
        }
        Check.state("a fifth one", () -> x.open(0));
        Check.index("index before state", () -> x.open(2));
        x.close(2);
        x.close(1);
        Check.same("the least free", 1, x.open(0));
        Check.same("the next free", 2, x.open(0));
        Check.state("full again", () -> x.open(1));
    }

    private static void closedSessionsForget() {
        RoleAnalyser x = Check.world(2, 2);
        x.assign(0, 0);
        x.assign(1, 1);
        x.open(0);
        x.activate(0, 0);
        x.close(0);
        Check.index("closed", () -> x.active(0));
        Check.index("closed twice", () -> x.close(0));
        x.open(1);
        Check.same("nothing active", 0, x.active(0));
        Check.unsupported("of the new user", () -> x.activate(0, 0));
        Check.same("the new user's role", true, x.activate(0, 1));
        Check.same("the old user's assignment stays", 1, x.roles(0, false));
    }

    private static void activates() {
        RoleAnalyser x = Check.world(4, 2);
        x.above(0, 1);
        x.assign(0, 0);
        x.assign(1, 2);
        x.open(0);
        x.open(0);
        Check.same("assigned", true, x.activate(0, 0));
        Check.same("again", false, x.activate(0, 0));
        Check.same("authorized", true, x.activate(0, 1));
        Check.unsupported("another's", () -> x.activate(0, 2));
        Check.same("active", 3, x.active(0));
        Check.same("the other session", 0, x.active(1));
        x.above(1, 3);
        Check.same("what stands below is not active by itself", 3, x.active(0));
        Check.same("but may be", true, x.activate(0, 3));
    }

    private static void activationKeepsDynamicLimits() {
        RoleAnalyser x = Check.world(4, 1);
        x.limit(true, 7, 2);
        x.limit(false, 15, 4);
        x.assign(0, 0);
        x.assign(0, 1);
        x.assign(0, 3);
        x.open(0);
        x.open(0);
        x.activate(0, 0);
        Check.unsupported("authorization before limits", () -> x.activate(0, 2));
        Check.state("two of the set", () -> x.activate(0, 1));
        Check.same("nothing changed", 1, x.active(0));
        Check.same("already active", false, x.activate(0, 0));
        Check.same("aside", true, x.activate(0, 3));
        Check.same("in another session", true, x.activate(1, 1));
    }

    private static void rests() {
        RoleAnalyser x = Check.world(2, 1);
        x.assign(0, 0);
        x.assign(0, 1);
        x.open(0);
        x.open(0);
        x.activate(0, 0);
        x.activate(0, 1);
        x.activate(1, 1);
        Check.same("active", true, x.rest(0, 1));
        Check.same("again", false, x.rest(0, 1));
        Check.same("the other role", 1, x.active(0));
        Check.same("the other session", 2, x.active(1));
        Check.same("still assigned", 3, x.roles(0, false));
    }

    private static void refusesWhatIsNotThere() {
        RoleAnalyser x = Check.world(1, 1);
        x.assign(0, 0);
        Check.index("open user 1", () -> x.open(1));
        Check.index("open user -1", () -> x.open(-1));
        x.open(0);
        for (int wrong : new int[] {-1, 1, 3, 4, Integer.MIN_VALUE, Integer.MAX_VALUE}) {
            Check.index("close " + wrong, () -> x.close(wrong));
            Check.index("active " + wrong, () -> x.active(wrong));
            Check.index("activate in " + wrong, () -> x.activate(wrong, 0));
            Check.index("rest in " + wrong, () -> x.rest(wrong, 0));
        }
        Check.index("activate role 1", () -> x.activate(0, 1));
        Check.index("activate role -1", () -> x.activate(0, -1));
        Check.index("rest role 1", () -> x.rest(0, 1));
        Check.index("rest role -1", () -> x.rest(0, -1));
    }
}
