/** The answers "whether it did not", "whether it was not", "whether it was": the first time, and once more. */
public final class AgainTest {
    public static void main(String[] args) {
        above();
        grant();
        assign();
        remove();
        give();
        take();
        activate();
        rest();
        onceMoreChangesNothing();
        Check.end();
    }

    private static void above() {
        RoleAnalyser x = Check.world(4, 0);
        Check.same("first", true, x.above(0, 1));
        Check.same("again", false, x.above(0, 1));
        Check.same("another one", true, x.above(2, 3));
        Check.same("joins both", true, x.above(1, 2));
        Check.same("from the top to the bottom already", false, x.above(0, 3));
        Check.same("from the top to the middle already", false, x.above(0, 2));
        Check.same("from the middle to the bottom already", false, x.above(1, 3));
    }

    /** Promise 5: "whether it was not (to this role itself)" */
    private static void grant() {
        RoleAnalyser x = Check.world(3, 0);
        x.above(0, 1);
        x.above(1, 2);
        Check.same("first", true, x.grant(1, 4));
        Check.same("again", false, x.grant(1, 4));
        Check.same("to the one above", true, x.grant(0, 4));
        Check.same("to the one below", true, x.grant(2, 4));
        Check.same("another permission", true, x.grant(1, 5));
        Check.same("the first one is still there", false, x.grant(1, 4));
        Check.same("and so is the other", false, x.grant(1, 5));
    }

    private static void assign() {
        RoleAnalyser x = Check.world(2, 2);
        x.above(0, 1);
        Check.same("first", true, x.assign(0, 0));
        Check.same("again", false, x.assign(0, 0));
        Check.same("authorized, not assigned", true, x.assign(0, 1));
        Check.same("another user", true, x.assign(1, 0));
        x.remove(0, 0);
        Check.same("removed between", true, x.assign(0, 0));
    }

    private static void remove() {
        RoleAnalyser x = Check.world(2, 2);
        x.above(0, 1);
        Check.same("never assigned", false, x.remove(0, 0));
        x.assign(0, 0);
        x.assign(1, 0);
        Check.same("authorized, not assigned", false, x.remove(0, 1));
        Check.same("first", true, x.remove(0, 0));
        Check.same("again", false, x.remove(0, 0));
        Check.same("another user", true, x.remove(1, 0));
    }

    private static void give() {
        RoleAnalyser x = Check.world(3, 2);
        x.above(1, 2);
        x.assign(0, 0);
        x.giveRule(0, 0, 0, 1);
        x.giveRule(0, 0, 0, 2);
        Check.same("first", true, x.give(0, 1, 1));
        Check.same("again", false, x.give(0, 1, 1));
        Check.same("authorized, not assigned", true, x.give(0, 1, 2));
        Check.same("assigned by nobody's leave", true, x.assign(0, 1));
        Check.same("then given", false, x.give(0, 0, 1));
    }

    private static void take() {
        RoleAnalyser x = Check.world(3, 2);
        x.above(1, 2);
        x.assign(0, 0);
        x.assign(1, 1);
        x.takeRule(0, 1);
        x.takeRule(0, 2);
        Check.same("authorized, not assigned", false, x.take(0, 1, 2));
        Check.same("which changes nothing", 6, x.roles(1, true));
        Check.same("first", true, x.take(0, 1, 1));
        Check.same("again", false, x.take(0, 1, 1));
    }

    private static void activate() {
        RoleAnalyser x = Check.world(2, 1);
        x.above(0, 1);
        x.assign(0, 0);
        x.open(0);
        x.open(0);
        Check.same("first", true, x.activate(0, 0));
        Check.same("again", false, x.activate(0, 0));
        Check.same("below an active one", true, x.activate(0, 1));
        Check.same("another session", true, x.activate(1, 0));
        x.rest(0, 0);
        Check.same("at rest between", true, x.activate(0, 0));
    }

    private static void rest() {
        RoleAnalyser x = Check.world(3, 1);
        x.above(0, 1);
        x.assign(0, 0);
        x.open(0);
        Check.same("never active", false, x.rest(0, 0));
        Check.same("not even authorized", false, x.rest(0, 2));
        x.activate(0, 0);
        Check.same("below an active one", false, x.rest(0, 1));
        Check.same("first", true, x.rest(0, 0));
        Check.same("again", false, x.rest(0, 0));
    }

    private static void onceMoreChangesNothing() {
        Refused.unchanged("above", Worlds::busy, x -> Check.same("above", false, x.above(0, 1)));
        Refused.unchanged("grant", Worlds::busy, x -> Check.same("grant", false, x.grant(0, 30)));
        Refused.unchanged("assign", Worlds::busy, x -> Check.same("assign", false, x.assign(0, 2)));
        Refused.unchanged("remove", Worlds::busy, x -> Check.same("remove", false, x.remove(0, 1)));
        Refused.unchanged("give", Worlds::busy, x -> Check.same("give", false, x.give(0, 0, 2)));
        Refused.unchanged("take", Worlds::busy, x -> Check.same("take", false, x.take(0, 1, 2)));
        Refused.unchanged("activate", Worlds::busy, x -> Check.same("activate", false, x.activate(0, 1)));
        Refused.unchanged("rest", Worlds::busy, x -> Check.same("rest", false, x.rest(0, 2)));
        Refused.unchanged("roles", Worlds::busy, x -> Check.same("roles", 7, x.roles(0, true)));
        Refused.unchanged("active", Worlds::busy, x -> Check.same("active", 3, x.active(0)));
        Refused.unchanged("may", Worlds::busy, x -> Check.same("may", true, x.may(0, 30)));
        Refused.unchanged("distance", Worlds::busy, x -> Check.same("distance", 1, x.distance(2, 2)));
        Refused.unchanged("plan", Worlds::busy, x -> Check.same("plan", 220, x.plan(2, 2, 0)));
    }
}
