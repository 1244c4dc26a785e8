import java.util.NoSuchElementException;

/** The sentences under "Revocations" and "Evidence" that name a boundary case, one by one. */
final class RevocationEdgesTest {
    private final Check check = new Check();

    private static String states(Recertify desk) {
        StringBuilder told = new StringBuilder();
        for (int grant = 0; grant < desk.grants(); grant++) {
            told.append(desk.stateOf(grant));
        }
        return told.toString();
    }

    private static String signs(Recertify desk) {
        StringBuilder told = new StringBuilder();
        for (int entry = 0; entry < desk.entries(); entry++) {
            told.append(desk.signAt(entry));
        }
        return told.toString();
    }

    /** Person 0 owns the right 0, which is granted to the people from 1, and reviews all of it. */
    private static Recertify withGrants(int count, boolean isVital) {
        Recertify desk = Desks.withPeople(count + 1);
        desk.addRight(1, 0, isVital);
        for (int person = 1; person <= count; person++) {
            desk.grantPerson(0, person);
        }
        return desk;
    }

    private void dueAfterEachGrace() {
        check.sentence("Its due day is the day of the decision plus the grace, which is 2 at first and counts as it "
            + "is at the decision");
        for (int grace = 0; grace <= 10; grace++) {
            Recertify desk = withGrants(2, false);
            desk.pass(5);
            desk.setGrace(grace);
            desk.openCampaign(30);
            desk.answer(0, 0, 'r');
            desk.setGrace(grace == 0 ? 10 : 0);
            if (grace > 0) {
                check.is("due day", desk.dueDay(0), 5 + grace);
                check.is("waits at once", desk.stateOf(0), 'w');
                if (grace > 1) {
                    desk.pass(grace - 1);
                }
                check.is("waits the day before", desk.stateOf(0), 'w');
                check.is("still held the day before", desk.holds(1, 0), true);
                desk.pass(1);
            }
            check.is("ended, grace " + grace, desk.stateOf(0), 'x');
            check.is("not held", desk.holds(1, 0), false);
            check.fails("no due day any more", IllegalStateException.class, () -> desk.dueDay(0));
        }
        Recertify first = withGrants(1, false);
        first.openCampaign(1);
        first.answer(0, 0, 'r');
        check.is("2 at first", first.dueDay(0), 2);
    }

    private void silenceWithoutGrace() {
        check.sentence("after a campaign was closed by this");
        Recertify desk = withGrants(3, false);
        desk.setGrace(0);
        desk.setLimit(0);
        desk.openCampaign(4);
        desk.pass(3);
        check.is("the day before", states(desk), "aaa");
        desk.pass(1);
        check.is("ended on the deadline", states(desk), "xxx");
        check.is("all are decided first", signs(desk), "rrrxxx");
    }

    private void decisionsBeforeEarlierEnds() {
        check.sentence("Decisions by silence are all made before grants are looked at");
        Recertify desk = withGrants(2, false);
        desk.addPerson(1, -1);
        desk.setLimit(51);
        desk.openCampaign(2);
        check.is("one of two peers holds it", desk.riskOf(1), 50);
        desk.answer(0, 0, 'r');
        desk.pass(2);
        check.is("the risk is that of before the end", desk.verdict(1), 'k');
        check.is("the end comes after the silence", signs(desk), "rkx");
        check.is("both on one day", states(desk), "xa");
        check.is("the risk is higher now", desk.riskOf(1), 100);
    }

    private void keepLooksAtNothing() {
        check.sentence("whenever an item is decided with 'r' by an answer, all grants that wait and whose due day "
            + "has come are looked at");
        Recertify desk = withGrants(3, true);
        desk.setGrace(0);
        desk.openCampaign(30);
        desk.answer(0, 0, 'r');
        desk.answer(0, 1, 'r');
        desk.answer(0, 2, 'r');
        check.is("the last one is blocked", states(desk), "xxw");
        desk.grantPerson(0, 1);
        check.is("a grant looks at nothing", states(desk), "xxwa");
        check.is("nor does a new campaign", desk.openCampaign(30), 1);
        check.is("it waits", states(desk), "xxwa");
        check.is("not blocked, but waits for a look", desk.isBlocked(2), false);
        desk.addRight(1, 0, false);
        desk.answer(0, 0, 'k');
        check.is("nor does a keep that closes the campaign", states(desk), "xxwa");
        desk.grantPerson(1, 2);
        desk.openCampaign(30);
        desk.setGrace(10);
        desk.answer(0, 1, 'r');
        check.is("a revoke of another right does", states(desk), "xxxaw");
    }

    private void lookAtThoseWhoseDayHasCome() {
        check.sentence("all grants that wait and whose due day has come");
        Recertify desk = withGrants(4, false);
        desk.openCampaign(30);
        for (int item = 0; item < 3; item++) {
            desk.setGrace(item + 1);
            desk.answer(0, item, 'r');
        }
        desk.pass(1);
        check.is("day 1", states(desk), "xwwa");
        desk.setGrace(0);
        desk.answer(0, 3, 'r');
        check.is("the answered one, and none that is due later", states(desk), "xwwx");
        desk.pass(1);
        check.is("day 2", states(desk), "xxwx");
        desk.pass(1);
        check.is("day 3", states(desk), "xxxx");
        check.is("signs", signs(desk), "rrrxrxxx");
    }

    private void lowestDueDayThenLowestNumber() {
        check.sentence("those with the lowest due day first, and of these those with the lowest number");
        int[][] graces = {{1, 1, 1}, {3, 2, 1}, {2, 2, 1}, {1, 2, 2}, {2, 1, 2}, {2, 1, 1}};
        String[] due = {"xxw", "wxx", "xwx", "xxw", "xxw", "wxx"};
        for (int run = 0; run < graces.length; run++) {
            Recertify desk = Desks.withGroups(4, 1);
            desk.addRight(1, 0, true);
            desk.addMember(0, 3);
            desk.addMember(0, 2);
            desk.addMember(0, 1);
            desk.addGroup(0);
            desk.addGroup(0);
            for (int group = 0; group < 3; group++) {
                desk.grantGroup(0, group);
            }
            desk.removeMember(0, 3);
            desk.removeMember(0, 2);
            desk.removeMember(0, 1);
            desk.openCampaign(30);
            for (int item = 0; item < 3; item++) {
                desk.setGrace(graces[run][item]);
                desk.answer(0, item, 'r');
            }
            desk.pass(5);
            check.is("nobody holds it, so all wait", states(desk), "www");
            for (int group = 0; group < 3; group++) {
                desk.addMember(group, group + 1);
            }
            desk.pass(1);
            check.is("run " + run, states(desk), due[run]);
        }
    }

    private void lastHolderStays() {
        check.sentence("A grant of a vital right stays as it is, and waits further, if nobody would hold the right "
            + "after its end");
        Recertify desk = withGrants(9, true);
        desk.setLimit(0);
        desk.openCampaign(1);
        desk.pass(1);
        check.is("all wait", states(desk), "wwwwwwwww");
        desk.pass(2);
        check.is("all but the last have ended", states(desk), "xxxxxxxxw");
        check.is("one holder", desk.holdersOf(0), 1);
        check.is("not denied", desk.isDenied(9, 0), false);
        check.is("due day stays", desk.dueDay(8), 3);
        check.is("entries", signs(desk), "rrrrrrrrrxxxxxxxx");
        desk.pass(30);
        check.is("waits further", states(desk), "xxxxxxxxw");
        check.is("no entry for what stays", desk.entries(), 17);
        check.is("blocked", desk.isBlocked(8), true);
        desk.grantPerson(0, 0);
        desk.pass(1);
        check.is("another holder", states(desk), "xxxxxxxxxa");
        check.is("denied now", desk.isDenied(9, 0), true);
    }

    private void notVitalMayLoseTheLastHolder() {
        check.sentence("Otherwise it ends");
        Recertify desk = withGrants(9, false);
        desk.setLimit(0);
        desk.openCampaign(1);
        desk.pass(3);
        check.is("all have ended", states(desk), "xxxxxxxxx");
        check.is("nobody holds it", desk.holdersOf(0), 0);
    }

    private void deniedToThePersonThen() {
        check.sentence("for a grant to a person, it is taken into account that the right is denied to this person "
            + "then");
        for (int person = 0; person < 10; person++) {
            Recertify desk = Desks.withGroups(10, 1);
            desk.addRight(1, person == 0 ? 1 : 0, true);
            desk.addMember(0, person);
            desk.grantPerson(0, person);
            desk.grantGroup(0, 0);
            check.is("the person's grant is blocked", desk.isBlocked(0), true);
            check.is("the group's is not, as the person holds it still", desk.isBlocked(1), false);
            desk.setGrace(0);
            desk.openCampaign(1);
            desk.answer(desk.reviewerOf(0), 0, 'r');
            check.is("stays", desk.stateOf(0), 'w');
            check.is("blocked while it waits", desk.isBlocked(0), true);
            desk.addMember(0, 9 - person);
            check.is("another member", desk.isBlocked(0), false);
            desk.removeMember(0, 9 - person);
            desk.answer(desk.reviewerOf(1), 1, 'r');
            check.is("the person's comes first, and stays", desk.stateOf(0), 'w');
            check.is("the group's ends", desk.stateOf(1), 'x');
            check.is("the person holds it", desk.holds(person, 0), true);
        }
    }

    private void deniedHoldersDoNotCount() {
        check.sentence("if nobody would hold the right after its end");
        Recertify desk = Desks.withGroups(4, 1);
        desk.addRight(1, 0, true);
        desk.addMember(0, 1);
        desk.grantPerson(0, 1);
        desk.grantPerson(0, 2);
        desk.setGrace(0);
        desk.openCampaign(9);
        desk.answer(0, 0, 'r');
        desk.grantGroup(0, 0);
        check.is("the group reaches only one who is denied", desk.isBlocked(1), true);
        desk.answer(0, 1, 'r');
        check.is("so the other stays", states(desk), "xwa");
        check.is("the group's end takes nothing away", desk.isBlocked(2), false);
        desk.addMember(0, 2);
        desk.pass(1);
        check.is("the other by the group does not help", states(desk), "xwa");
        desk.addMember(0, 3);
        desk.pass(1);
        check.is("a third one does", states(desk), "xxa");
        check.is("the last holder's group", desk.isBlocked(2), true);
    }

    private void endOfPersonsGrantDenies() {
        check.sentence("and if it is for a person, the right is denied to this person");
        for (int person = 0; person < 10; person++) {
            Recertify desk = Desks.withGroups(10, 1);
            desk.addRight(1, 0, false);
            for (int member = 0; member < 10; member++) {
                desk.addMember(0, member);
            }
            desk.grantPerson(0, person);
            desk.grantGroup(0, 0);
            check.is("all hold it", desk.holdersOf(0), 10);
            desk.setGrace(0);
            desk.openCampaign(1);
            desk.answer(desk.reviewerOf(0), 0, 'r');
            check.is("denied", desk.isDenied(person, 0), true);
            check.is("to nobody else", desk.holdersOf(0), 9);
            check.is("found by paths too", desk.holdsByPaths(person, 0), false);
            check.is("though a path is left", desk.paths(person, 0), 1);
            desk.answer(desk.reviewerOf(1), 1, 'r');
            for (int member = 0; member < 10; member++) {
                check.is("a group's end denies nothing", desk.isDenied(member, 0), member == person);
            }
        }
    }

    private void atMostNinetyNineEntries() {
        check.sentence("at most 99 entries are kept, and later ones are left out");
        Recertify desk = Desks.withTwentyFourGrants();
        for (int campaign = 0; campaign < 4; campaign++) {
            desk.openCampaign(1);
            desk.pass(1);
        }
        check.is("four campaigns of 24 items", desk.entries(), 96);
        desk.setGrace(0);
        desk.openCampaign(1);
        desk.answer(desk.reviewerOf(23), 23, 'r');
        check.is("a decision and an end", desk.entries(), 98);
        desk.answer(desk.reviewerOf(22), 22, 'r');
        check.is("room for the decision, not for the end", desk.entries(), 99);
        check.is("sign of the last", desk.signAt(98), 'r');
        int seal = desk.sealAt(98);
        long trace = desk.trace();
        check.is("both have ended", desk.stateOf(22) == 'x' && desk.stateOf(23) == 'x', true);
        check.fails("entry 99", NoSuchElementException.class, () -> desk.signAt(99));
        desk.answer(desk.reviewerOf(0), 0, 'k');
        desk.pass(1);
        check.is("still 99", desk.entries(), 99);
        check.is("sign stays", desk.signAt(98), 'r');
        check.is("seal stays", desk.sealAt(98), seal);
        check.is("by replay", desk.sealByReplay(98), seal);
        check.is("trace stays", desk.trace(), trace);
        check.is("the first stays", desk.sealAt(0), 17 + 'k');
        check.is("all decisions count in the share", desk.revokedShare(), 2.0f / 120.0f);
    }

    private void entryOnTheDayOfTheEnd() {
        check.sentence("for each grant that ends, with the sign 'x', in the order in which this happens");
        Recertify desk = Desks.withGroups(2, 1);
        desk.addRight(1, 0, true);
        desk.grantGroup(0, 0);
        desk.openCampaign(30);
        desk.answer(0, 0, 'r');
        desk.pass(9);
        check.is("no entry while it is blocked", desk.entries(), 1);
        desk.grantPerson(0, 1);
        desk.pass(1);
        check.is("a group's end is an entry too", signs(desk), "rx");
        int before = 'r';
        check.is("seal of the decision", desk.sealAt(0), before);
        check.is("seal of the day of the end, not of the due day", desk.sealAt(1), before * 32 ^ 17 * 10 + 'x');
        check.is("by replay", desk.sealByReplay(1), desk.sealAt(1));
    }

    private void sealBeforeOrZero() {
        check.sentence("the seal of the entry before, or 0, is rotated to the left by 5 of its 16 bits");
        Recertify desk = withGrants(9, false);
        desk.openCampaign(30);
        int seal = 0;
        boolean isWrapped = false;
        for (int item = 8; item >= 0; item--) {
            isWrapped |= seal >= 2048;
            desk.answer(0, item, item % 2 == 0 ? 'k' : 'r');
            seal = (seal * 32 % 65536 + seal / 2048) ^ (257 * item + (item % 2 == 0 ? 107 : 114));
            check.is("kept", desk.sealAt(8 - item), seal);
            check.is("by replay", desk.sealByReplay(8 - item), seal);
        }
        check.is("some seal had bits to turn round", isWrapped, true);
    }

    private void lowestSixteenBits() {
        check.sentence("combined by exclusive or with the lowest 16 bits of the sum");
        Recertify desk = withGrants(1, false);
        for (int month = 0; month < 128; month++) {
            desk.pass(30);
        }
        desk.pass(8);
        check.is("day", desk.day(), 3848);
        desk.openCampaign(30);
        desk.answer(0, 0, 'k');
        check.is("65523: the sum still fits", desk.sealAt(0), 17 * 3848 + 107);
        desk.pass(1);
        desk.openCampaign(30);
        desk.answer(0, 0, 'k');
        int turned = (65523 * 32 & 65535) + 65523 / 2048;
        check.is("65540: the sum is 4", desk.sealAt(1), turned ^ 4);
        check.is("by replay", desk.sealByReplay(1), turned ^ 4);
    }

    private void traceOverflows() {
        check.sentence("for each entry it is multiplied by 31 and the seal is added, with overflow");
        Recertify desk = Desks.withTwentyFourGrants();
        check.is("no entries", desk.trace(), 0L);
        desk.openCampaign(30);
        java.math.BigInteger whole = java.math.BigInteger.ZERO;
        for (int item = 0; item < 24; item++) {
            desk.answer(desk.reviewerOf(item), item, 'k');
            whole = whole.multiply(java.math.BigInteger.valueOf(31))
                .add(java.math.BigInteger.valueOf(desk.sealAt(item)));
            check.is("trace of " + (item + 1), desk.trace(), whole.longValue());
        }
        check.is("more than a long holds", whole.bitLength() > 64, true);
    }

    public static void main(String[] args) {
        RevocationEdgesTest test = new RevocationEdgesTest();
        test.dueAfterEachGrace();
        test.silenceWithoutGrace();
        test.decisionsBeforeEarlierEnds();
        test.keepLooksAtNothing();
        test.lookAtThoseWhoseDayHasCome();
        test.lowestDueDayThenLowestNumber();
        test.lastHolderStays();
        test.notVitalMayLoseTheLastHolder();
        test.deniedToThePersonThen();
        test.deniedHoldersDoNotCount();
        test.endOfPersonsGrantDenies();
        test.atMostNinetyNineEntries();
        test.entryOnTheDayOfTheEnd();
        test.sealBeforeOrZero();
        test.lowestSixteenBits();
        test.traceOverflows();
        test.check.end();
    }
}
