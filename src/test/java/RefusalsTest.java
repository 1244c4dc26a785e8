import java.util.NoSuchElementException;
import java.util.function.Supplier;

/**
 * "A method that throws an exception changes nothing. If several exceptions apply, the one that is listed first is
 * thrown.": each call that is refused leaves a desk as it was, and as it would have become 30 days later.
 */
final class RefusalsTest {
    private interface Refused {
        Object on(Recertify desk);
    }

    private static final Class<NoSuchElementException> MISSING = NoSuchElementException.class;
    private static final Class<IllegalArgumentException> ARGUMENT = IllegalArgumentException.class;
    private static final Class<IllegalStateException> STATE = IllegalStateException.class;
    private static final Class<UnsupportedOperationException> UNSUPPORTED = UnsupportedOperationException.class;
    private static final Class<IndexOutOfBoundsException> INDEX = IndexOutOfBoundsException.class;
    private static final Class<ArithmeticException> ARITHMETIC = ArithmeticException.class;

    private static final int LOWEST = Integer.MIN_VALUE;
    private static final int HIGHEST = Integer.MAX_VALUE;

    private final Check check = new Check();
    private Supplier<Recertify> maker = Recertify::new;
    private String later = "";

    private static String look(Recertify desk) {
        return Snapshot.of(desk, 4, 2);
    }

    /** The calls that are refused from now on are made on desks of this kind. */
    private void on(String kind, Supplier<Recertify> desks) {
        check.sentence("A method that throws an exception changes nothing. If several exceptions apply, the one that "
            + "is listed first is thrown: " + kind);
        maker = desks;
        Recertify untouched = desks.get();
        untouched.pass(30);
        later = look(untouched);
    }

    private void refused(String what, Class<? extends RuntimeException> due, Refused call) {
        Recertify desk = maker.get();
        String before = look(desk);
        check.fails(what, due, () -> call.on(desk));
        check.is(what + ": the desk is as before", look(desk).equals(before), true);
        desk.pass(30);
        check.is(what + ": the desk is as it would be 30 days later", look(desk).equals(later), true);
    }

    /**
     * The grant 0 of person 1 has ended, 1 of group 0 is kept, 2 of person 2 waits, 3 of group 1 is to be reviewed by
     * person 1. Group 1 is nested in group 0; person 1 is a member of group 0, person 2 of group 1.
     */
    private static Recertify busy() {
        Recertify desk = new Recertify();
        desk.addPerson(0, -1);
        desk.addPerson(0, 0);
        desk.addPerson(1, 0);
        desk.setAbsent(2, true);
        desk.setSubstitute(2, 0);
        desk.addGroup(0);
        desk.addGroup(1);
        desk.nest(0, 1);
        desk.addMember(0, 1);
        desk.addMember(1, 2);
        desk.addRight(4, 0, true);
        desk.addRight(7, 1, false);
        desk.grantPerson(0, 1);
        desk.grantGroup(0, 0);
        desk.grantPerson(1, 2);
        desk.grantGroup(1, 1);
        desk.pass(2);
        desk.setLimit(400);
        desk.openCampaign(5);
        desk.setGrace(0);
        desk.answer(0, 0, 'r');
        desk.answer(0, 1, 'k');
        desk.setGrace(4);
        desk.answer(0, 2, 'r');
        desk.use(2, 0);
        return desk;
    }

    /** The same, but its campaign has been closed by an answer, before the deadline. */
    private static Recertify idle() {
        Recertify desk = busy();
        desk.answer(1, 3, 'k');
        return desk;
    }

    /** All rows of people, groups, rights and grants are full; the right 0 is denied to person 1. */
    private static Recertify full() {
        Recertify desk = Desks.withGroups(10, 8);
        for (int right = 0; right < 10; right++) {
            desk.addRight(1, 0, false);
        }
        desk.grantPerson(0, 1);
        Desks.revokeAll(desk);
        for (int grant = 1; grant < 24; grant++) {
            desk.grantPerson(grant / 10 + 1, grant % 10);
        }
        return desk;
    }

    /** Two grants, both of which wait. */
    private static Recertify waiting() {
        Recertify desk = Desks.withRights(2, 1);
        desk.grantPerson(0, 0);
        desk.grantPerson(0, 1);
        desk.setGrace(10);
        desk.openCampaign(1);
        desk.answer(1, 0, 'r');
        desk.answer(0, 1, 'r');
        return desk;
    }

    /** Two grants, both of which have ended. */
    private static Recertify ended() {
        Recertify desk = Desks.withRights(2, 1);
        desk.grantPerson(0, 0);
        desk.grantPerson(0, 1);
        Desks.revokeAll(desk);
        return desk;
    }

    private void missingPeople() {
        on("no such person", RefusalsTest::busy);
        int[] missing = {LOWEST, -2, -1, 3, 10, HIGHEST};
        for (int person : missing) {
            if (person != -1) {
                refused("addPerson, manager " + person, MISSING, desk -> desk.addPerson(0, person));
                refused("setSubstitute 0, " + person, MISSING, desk -> desk.setSubstitute(0, person));
            }
            refused("setAbsent " + person, MISSING, desk -> desk.setAbsent(person, true));
            refused("setSubstitute " + person, MISSING, desk -> desk.setSubstitute(person, 0));
            refused("setSubstitute, both " + person, MISSING, desk -> desk.setSubstitute(person, person));
            refused("addGroup " + person, MISSING, desk -> desk.addGroup(person));
            refused("addMember " + person, MISSING, desk -> desk.addMember(0, person));
            refused("removeMember " + person, MISSING, desk -> desk.removeMember(0, person));
            refused("addRight " + person, MISSING, desk -> desk.addRight(1, person, true));
            refused("grantPerson " + person, MISSING, desk -> desk.grantPerson(0, person));
            refused("use " + person, MISSING, desk -> desk.use(person, 0));
            refused("answer " + person, MISSING, desk -> desk.answer(person, 3, 'r'));
            refused("standIn " + person, MISSING, desk -> desk.standIn(person));
            refused("isMember " + person, MISSING, desk -> desk.isMember(0, person));
            refused("holds " + person, MISSING, desk -> desk.holds(person, 0));
            refused("holdsByPaths " + person, MISSING, desk -> desk.holdsByPaths(person, 0));
            refused("rightsOf " + person, MISSING, desk -> desk.rightsOf(person));
            refused("rightBits " + person, MISSING, desk -> desk.rightBits(person));
            refused("apart " + person, MISSING, desk -> desk.apart(person, 0));
            refused("apart from " + person, MISSING, desk -> desk.apart(0, person));
            refused("apart, both " + person, MISSING, desk -> desk.apart(person, person));
            refused("isDenied " + person, MISSING, desk -> desk.isDenied(person, 0));
            refused("paths " + person, MISSING, desk -> desk.paths(person, 0));
            refused("pathLength " + person, MISSING, desk -> desk.pathLength(person, 0));
            refused("pathAt " + person, MISSING, desk -> desk.pathAt(person, 0, 0));
            refused("riskFor " + person, MISSING, desk -> desk.riskFor(person, 0));
            refused("nextItem " + person, MISSING, desk -> desk.nextItem(person));
        }
    }

    private void missingGroupsAndRights() {
        on("no such group, no such right", RefusalsTest::busy);
        int[] missing = {LOWEST, -2, -1, 2, 8, 10, HIGHEST};
        for (int number : missing) {
            refused("addMember " + number, MISSING, desk -> desk.addMember(number, 0));
            refused("removeMember " + number, MISSING, desk -> desk.removeMember(number, 1));
            refused("nest " + number, MISSING, desk -> desk.nest(number, 0));
            refused("nest in 0 " + number, MISSING, desk -> desk.nest(0, number));
            refused("nest, both " + number, MISSING, desk -> desk.nest(number, number));
            refused("isMember " + number, MISSING, desk -> desk.isMember(number, 0));
            refused("members " + number, MISSING, desk -> desk.members(number));
            refused("grantGroup of " + number, MISSING, desk -> desk.grantGroup(number, 1));
            refused("grantGroup to " + number, MISSING, desk -> desk.grantGroup(0, number));
            refused("grantPerson " + number, MISSING, desk -> desk.grantPerson(number, 1));
            refused("use " + number, MISSING, desk -> desk.use(0, number));
            refused("holds " + number, MISSING, desk -> desk.holds(0, number));
            refused("holdsByPaths " + number, MISSING, desk -> desk.holdsByPaths(0, number));
            refused("holdersOf " + number, MISSING, desk -> desk.holdersOf(number));
            refused("isDenied " + number, MISSING, desk -> desk.isDenied(0, number));
            refused("paths " + number, MISSING, desk -> desk.paths(0, number));
            refused("pathLength " + number, MISSING, desk -> desk.pathLength(0, number));
            refused("pathAt " + number, MISSING, desk -> desk.pathAt(0, number, 0));
            refused("riskFor " + number, MISSING, desk -> desk.riskFor(0, number));
        }
    }

    private void missingGrantsItemsAndEntries() {
        on("no such grant, no such item, no such entry", RefusalsTest::busy);
        int[] missing = {LOWEST, -2, -1, 4, 24, 99, HIGHEST};
        for (int number : missing) {
            refused("riskOf " + number, MISSING, desk -> desk.riskOf(number));
            refused("reviewerOf " + number, MISSING, desk -> desk.reviewerOf(number));
            refused("stateOf " + number, MISSING, desk -> desk.stateOf(number));
            refused("dueDay " + number, MISSING, desk -> desk.dueDay(number));
            refused("lastUse " + number, MISSING, desk -> desk.lastUse(number));
            refused("isBlocked " + number, MISSING, desk -> desk.isBlocked(number));
            refused("answer " + number, MISSING, desk -> desk.answer(0, number, 'r'));
            refused("grantOf " + number, MISSING, desk -> desk.grantOf(number));
            refused("verdict " + number, MISSING, desk -> desk.verdict(number));
            refused("decider " + number, MISSING, desk -> desk.decider(number));
            refused("signAt " + number, MISSING, desk -> desk.signAt(number));
            refused("sealAt " + number, MISSING, desk -> desk.sealAt(number));
            refused("sealByReplay " + number, MISSING, desk -> desk.sealByReplay(number));
        }
    }

    private void argumentsOutOfRange() {
        on("out of range, while a campaign is open", RefusalsTest::busy);
        int[] departments = {LOWEST, -1, 4, HIGHEST};
        for (int department : departments) {
            refused("addPerson " + department, ARGUMENT, desk -> desk.addPerson(department, -1));
        }
        int[] sensitivities = {LOWEST, -1, 0, 10, HIGHEST};
        for (int sensitivity : sensitivities) {
            refused("addRight " + sensitivity, ARGUMENT, desk -> desk.addRight(sensitivity, 0, true));
        }
        int[] days = {LOWEST, -1, 0, 31, HIGHEST};
        for (int number : days) {
            refused("pass " + number, ARGUMENT, desk -> desk.pass(number));
            refused("openCampaign " + number + ", and one is open", ARGUMENT, desk -> desk.openCampaign(number));
        }
        int[] limits = {LOWEST, -1, 1000, HIGHEST};
        for (int limit : limits) {
            refused("setLimit " + limit, ARGUMENT, desk -> desk.setLimit(limit));
        }
        int[] graces = {LOWEST, -1, 11, HIGHEST};
        for (int grace : graces) {
            refused("setGrace " + grace, ARGUMENT, desk -> desk.setGrace(grace));
        }
        for (int person = 0; person < 3; person++) {
            int own = person;
            refused("setSubstitute, both " + own, ARGUMENT, desk -> desk.setSubstitute(own, own));
        }
        char[] verdicts = {0, 'u', 'x', 'a', 'w', 'j', 'l', 'q', 's', 'K', 'R', '1', '\u016b', '\u0172', '\uffff'};
        for (char verdict : verdicts) {
            refused("answer " + (int) verdict, ARGUMENT, desk -> desk.answer(1, 3, verdict));
        }
        on("out of range, while no campaign is open", RefusalsTest::idle);
        for (int number : days) {
            refused("openCampaign " + number, ARGUMENT, desk -> desk.openCampaign(number));
        }
        on("out of range, and no items", RefusalsTest::waiting);
        for (int number : days) {
            refused("openCampaign " + number, ARGUMENT, desk -> desk.openCampaign(number));
        }
    }

    private void statesOfGroupsAndGrants() {
        on("groups, grants and holdings", RefusalsTest::busy);
        refused("addMember, is one", STATE, desk -> desk.addMember(0, 1));
        refused("removeMember, is none", STATE, desk -> desk.removeMember(0, 0));
        refused("removeMember, is one by nesting", STATE, desk -> desk.removeMember(0, 2));
        refused("nest, is nested", STATE, desk -> desk.nest(0, 1));
        refused("nest, circle", UNSUPPORTED, desk -> desk.nest(1, 0));
        refused("nest 0 in itself", UNSUPPORTED, desk -> desk.nest(0, 0));
        refused("nest 1 in itself", UNSUPPORTED, desk -> desk.nest(1, 1));
        refused("grantPerson, waits", STATE, desk -> desk.grantPerson(1, 2));
        refused("grantGroup, active", STATE, desk -> desk.grantGroup(0, 0));
        refused("grantGroup, to be reviewed", STATE, desk -> desk.grantGroup(1, 1));
        refused("use, not held", STATE, desk -> desk.use(0, 0));
        refused("use, denied", STATE, desk -> desk.use(1, 0));
        refused("pathLength, not reached", STATE, desk -> desk.pathLength(1, 1));
        refused("pathAt, not reached", STATE, desk -> desk.pathAt(1, 1, 0));
        refused("pathAt, not reached, no index", STATE, desk -> desk.pathAt(0, 0, -1));
        int[] indexes = {LOWEST, -1, 2, 8, HIGHEST};
        for (int index : indexes) {
            refused("pathAt of two groups " + index, INDEX, desk -> desk.pathAt(2, 0, index));
        }
        refused("pathAt of the group itself", INDEX, desk -> desk.pathAt(1, 0, 1));
        refused("pathAt of a person's grant", INDEX, desk -> desk.pathAt(2, 1, 0));
        refused("riskOf, ended", STATE, desk -> desk.riskOf(0));
        refused("dueDay, ended", STATE, desk -> desk.dueDay(0));
        refused("dueDay, kept", STATE, desk -> desk.dueDay(1));
        refused("dueDay, to be reviewed", STATE, desk -> desk.dueDay(3));
    }

    private void statesOfCampaigns() {
        on("a campaign is open", RefusalsTest::busy);
        refused("openCampaign", STATE, desk -> desk.openCampaign(1));
        refused("answer, not the reviewer", UNSUPPORTED, desk -> desk.answer(0, 3, 'r'));
        refused("answer, not the reviewer, absent", UNSUPPORTED, desk -> desk.answer(2, 3, 'r'));
        refused("answer, decided", UNSUPPORTED, desk -> desk.answer(0, 1, 'r'));
        refused("answer, decided with r", UNSUPPORTED, desk -> desk.answer(0, 2, 'r'));
        refused("answer, ended", UNSUPPORTED, desk -> desk.answer(0, 0, 'k'));
        refused("decider, undecided", STATE, desk -> desk.decider(3));
        refused("nextItem, none for the person", STATE, desk -> desk.nextItem(0));
        refused("answer, no person, item and verdict", MISSING, desk -> desk.answer(3, 4, 'x'));
        refused("answer, no person and verdict", MISSING, desk -> desk.answer(3, 3, 'x'));
        refused("answer, no item and verdict", MISSING, desk -> desk.answer(1, 4, 'x'));
        refused("answer, no verdict, not the reviewer", ARGUMENT, desk -> desk.answer(0, 3, 'x'));
        refused("answer, no verdict, decided", ARGUMENT, desk -> desk.answer(0, 1, 'x'));

        on("the campaign is closed", RefusalsTest::idle);
        refused("answer", STATE, desk -> desk.answer(1, 3, 'r'));
        refused("answer, no person, item and verdict", STATE, desk -> desk.answer(3, 4, 'x'));
        refused("nextItem", STATE, desk -> desk.nextItem(1));
        refused("nextItem, no person", MISSING, desk -> desk.nextItem(3));

        on("all grants wait", RefusalsTest::waiting);
        refused("openCampaign", STATE, desk -> desk.openCampaign(1));
        on("all grants have ended", RefusalsTest::ended);
        refused("openCampaign", STATE, desk -> desk.openCampaign(30));
        refused("meanRisk", ARITHMETIC, Recertify::meanRisk);
    }

    private void newDesk() {
        on("a new desk", Recertify::new);
        refused("addPerson, own manager", MISSING, desk -> desk.addPerson(0, 0));
        refused("addPerson, department and manager", ARGUMENT, desk -> desk.addPerson(4, 0));
        refused("setSubstitute, none of nobody", MISSING, desk -> desk.setSubstitute(-1, -1));
        refused("addGroup", MISSING, desk -> desk.addGroup(0));
        refused("addRight, sensitivity and owner", ARGUMENT, desk -> desk.addRight(0, 0, true));
        refused("addRight, owner", MISSING, desk -> desk.addRight(1, 0, true));
        refused("nest", MISSING, desk -> desk.nest(0, 0));
        refused("grantPerson", MISSING, desk -> desk.grantPerson(0, 0));
        refused("grantGroup", MISSING, desk -> desk.grantGroup(0, 0));
        refused("openCampaign, no items", STATE, desk -> desk.openCampaign(1));
        refused("openCampaign, days and no items", ARGUMENT, desk -> desk.openCampaign(0));
        refused("answer", STATE, desk -> desk.answer(0, 0, 'k'));
        refused("decider", MISSING, desk -> desk.decider(0));
        refused("nextItem", MISSING, desk -> desk.nextItem(0));
        refused("sealByReplay", MISSING, desk -> desk.sealByReplay(0));
        refused("revokedShare", ARITHMETIC, Recertify::revokedShare);
        refused("meanRisk", ARITHMETIC, Recertify::meanRisk);
    }

    private void fullDesk() {
        on("a full desk", RefusalsTest::full);
        refused("addPerson", STATE, desk -> desk.addPerson(3, -1));
        refused("addPerson, with a manager", STATE, desk -> desk.addPerson(0, 9));
        refused("addPerson, manager", MISSING, desk -> desk.addPerson(0, 10));
        refused("addPerson, department", ARGUMENT, desk -> desk.addPerson(4, -1));
        refused("addPerson, department and manager", ARGUMENT, desk -> desk.addPerson(4, 10));
        refused("addGroup", STATE, desk -> desk.addGroup(9));
        refused("addGroup, owner", MISSING, desk -> desk.addGroup(10));
        refused("addRight", STATE, desk -> desk.addRight(9, 9, true));
        refused("addRight, owner", MISSING, desk -> desk.addRight(9, 10, true));
        refused("addRight, sensitivity", ARGUMENT, desk -> desk.addRight(10, 9, true));
        refused("addRight, sensitivity and owner", ARGUMENT, desk -> desk.addRight(10, 10, true));
        refused("grantPerson, denied", STATE, desk -> desk.grantPerson(0, 1));
        refused("grantPerson, active", STATE, desk -> desk.grantPerson(1, 1));
        refused("grantPerson, person", MISSING, desk -> desk.grantPerson(0, 10));
        refused("grantPerson, right", MISSING, desk -> desk.grantPerson(10, 0));
        refused("grantGroup", STATE, desk -> desk.grantGroup(9, 7));
        refused("grantGroup, group", MISSING, desk -> desk.grantGroup(9, 8));
        refused("grantGroup, right", MISSING, desk -> desk.grantGroup(10, 7));
        refused("stateOf", MISSING, desk -> desk.stateOf(24));
        refused("members", MISSING, desk -> desk.members(8));
        refused("holdersOf", MISSING, desk -> desk.holdersOf(10));
        refused("standIn", MISSING, desk -> desk.standIn(10));
    }

    public static void main(String[] args) {
        RefusalsTest test = new RefusalsTest();
        test.missingPeople();
        test.missingGroupsAndRights();
        test.missingGrantsItemsAndEntries();
        test.argumentsOutOfRange();
        test.statesOfGroupsAndGrants();
        test.statesOfCampaigns();
        test.newDesk();
        test.fullDesk();
        test.check.end();
    }
}
