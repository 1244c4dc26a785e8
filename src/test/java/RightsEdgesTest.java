import java.util.NoSuchElementException;

/** The sentences under "Rights and grants", "Risk" and "Reviewers" that name a boundary case, one by one. */
final class RightsEdgesTest {
    private final Check check = new Check();

    private void atMostTenRights() {
        check.sentence("At most 10 rights have numbers from 0");
        Recertify desk = Desks.withPeople(1);
        for (int right = 0; right < 10; right++) {
            int number = right;
            check.fails("not there yet " + right, NoSuchElementException.class, () -> desk.holdersOf(number));
            check.is("number", desk.addRight(1, 0, false), right);
            check.is("there", desk.holdersOf(right), 0);
        }
        check.fails("one more", IllegalStateException.class, () -> desk.addRight(1, 0, false));
        check.fails("right 10", NoSuchElementException.class, () -> desk.holdersOf(10));
        check.is("rights of the person", desk.rightBits(0), 0);
    }

    private void sensitivities() {
        check.sentence("A right has a sensitivity from 1 to 9");
        Recertify desk = Desks.withPeople(1);
        int[] wrong = {Integer.MIN_VALUE, -1, 0, 10, Integer.MAX_VALUE};
        for (int sensitivity : wrong) {
            check.fails("sensitivity " + sensitivity, IllegalArgumentException.class,
                () -> desk.addRight(sensitivity, 0, false));
        }
        for (int sensitivity = 1; sensitivity <= 9; sensitivity++) {
            check.is("number", desk.addRight(sensitivity, 0, false), sensitivity - 1);
            check.is("sensitivity " + sensitivity, desk.riskFor(0, sensitivity - 1), 100 * sensitivity);
        }
    }

    private void atMostTwentyFourGrants() {
        check.sentence("At most 24 grants have numbers from 0");
        Recertify desk = Desks.withGroups(10, 1);
        desk.addRight(1, 0, false);
        desk.addRight(1, 0, false);
        desk.grantPerson(0, 1);
        Desks.revokeAll(desk);
        for (int grant = 1; grant < 23; grant++) {
            int number = grant;
            check.fails("not there yet " + grant, NoSuchElementException.class, () -> desk.stateOf(number));
            check.is("number", desk.grantPerson(0, 2), grant);
            check.is("there", desk.stateOf(grant), 'a');
            Desks.revokeAll(desk);
        }
        check.is("the last one, for a group", desk.grantGroup(0, 0), 23);
        check.is("all but one have ended", desk.stateOf(22), 'x');
        check.fails("ended ones make no room: person", IllegalStateException.class, () -> desk.grantPerson(1, 3));
        check.fails("ended ones make no room: group", IllegalStateException.class, () -> desk.grantGroup(1, 0));
        check.is("grants", desk.grants(), 24);
        check.fails("grant 24", NoSuchElementException.class, () -> desk.stateOf(24));
        check.fails("to a person who is denied", IllegalStateException.class, () -> desk.grantPerson(0, 1));
        check.is("the right stays denied", desk.isDenied(1, 0), true);
        desk.addMember(0, 1);
        check.is("and is not held by the group", desk.holds(1, 0), false);
    }

    private void endsForGood() {
        check.sentence("A grant is active until it ends, and it ends for good");
        Recertify desk = Desks.withPeople(2);
        desk.addRight(5, 0, false);
        desk.grantPerson(0, 1);
        desk.openCampaign(1);
        desk.answer(0, 0, 'r');
        check.is("one that waits has a risk", desk.riskOf(0), 500);
        check.is("one that waits counts in the mean", desk.meanRisk(), 500.0);
        check.is("one that waits is held", desk.holds(1, 0), true);
        check.is("one that waits is used", desk.use(1, 0), 1);
        check.is("one that waits is a path", desk.paths(1, 0), 1);
        check.fails("one that waits is in the way", IllegalStateException.class, () -> desk.grantPerson(0, 1));
        desk.pass(2);
        check.is("again", desk.grantPerson(0, 1), 1);
        desk.pass(30);
        check.is("the first has ended for good", desk.stateOf(0), 'x');
        check.is("only the second is a path", desk.paths(1, 0), 1);
        check.is("only the second is used", desk.use(1, 0), 1);
        check.is("the first's use is of before", desk.lastUse(0), 0);
        check.is("only the second has an item", desk.openCampaign(1), 1);
        check.is("item of the second", desk.grantOf(0), 1);
    }

    private void reachesMembersOfNow() {
        check.sentence("A grant reaches its person, or all members of its group");
        Recertify desk = Desks.withGroups(10, 8);
        desk.addRight(1, 0, false);
        for (int group = 0; group < 7; group++) {
            desk.nest(group, group + 1);
        }
        desk.grantGroup(0, 0);
        check.is("nobody: an empty group", desk.holdersOf(0), 0);
        for (int person = 0; person < 10; person++) {
            int number = person;
            check.fails("not yet a member", IllegalStateException.class, () -> desk.use(number, 0));
            desk.addMember(Math.min(person, 7), person);
            check.is("holders", desk.holdersOf(0), person + 1);
            check.is("used", desk.use(person, 0), 1);
        }
        desk.removeMember(7, 9);
        check.is("no longer a member", desk.holds(9, 0), false);
        check.fails("cannot use it", IllegalStateException.class, () -> desk.use(9, 0));
    }

    private void deniedOnePersonOneRight() {
        check.sentence("A right can be denied to a person");
        Recertify desk = Desks.withGroups(10, 1);
        for (int right = 0; right < 10; right++) {
            desk.addRight(1, 0, false);
        }
        for (int person = 0; person < 10; person++) {
            desk.addMember(0, person);
        }
        desk.grantPerson(0, 9);
        desk.grantPerson(9, 0);
        Desks.revokeAll(desk);
        desk.grantGroup(0, 0);
        desk.grantGroup(9, 0);
        for (int person = 0; person < 10; person++) {
            check.is("right 0 for " + person, desk.isDenied(person, 0), person == 9);
            check.is("right 9 for " + person, desk.isDenied(person, 9), person == 0);
            check.is("right 1 for " + person, desk.isDenied(person, 1), false);
            check.is("bits of " + person, desk.rightBits(person), person == 9 ? 512 : person == 0 ? 1 : 513);
        }
        check.is("holders of right 0", desk.holdersOf(0), 9);
        check.is("apart", desk.apart(0, 9), 2);
        desk.grantPerson(0, 9);
        check.is("not denied any more", desk.isDenied(9, 0), false);
        check.is("the other still is", desk.isDenied(0, 9), true);
    }

    private void lastUseIsDayItWasMade() {
        check.sentence("or on which it was made if it has not been used");
        Recertify desk = Desks.withGroups(1, 1);
        desk.addRight(1, 0, false);
        desk.grantPerson(0, 0);
        check.is("made on day 0", desk.lastUse(0), 0);
        desk.pass(30);
        desk.grantGroup(0, 0);
        check.is("made on day 30", desk.lastUse(1), 30);
        desk.pass(1);
        desk.use(0, 0);
        check.is("used on day 31", desk.lastUse(0), 31);
        check.is("a group without members is not used", desk.lastUse(1), 30);
    }

    private void riskWithoutPeers() {
        check.sentence("without peers, it is 100 times its sensitivity");
        Recertify desk = new Recertify();
        desk.addPerson(3, -1);
        desk.addRight(1, 0, false);
        desk.addRight(9, 0, false);
        desk.grantPerson(1, 0);
        check.is("alone, not held, lowest", desk.riskFor(0, 0), 100);
        check.is("alone, held, highest", desk.riskFor(0, 1), 900);
        for (int person = 1; person < 10; person++) {
            desk.addPerson(person % 3, -1);
            desk.grantPerson(1, person);
        }
        check.is("nine people of other departments", desk.riskFor(0, 1), 900);
    }

    private void riskIsRoundedDown() {
        check.sentence("times the number of peers who do not hold it, divided by the number of peers and rounded "
            + "down");
        Recertify desk = Desks.withRights(10, 1);
        int[] due = {100, 88, 77, 66, 55, 44, 33, 22, 11, 0};
        for (int holders = 0; holders < 9; holders++) {
            check.is(holders + " of nine peers hold it", desk.riskFor(9, 0), due[holders]);
            desk.grantPerson(0, holders);
        }
        check.is("all nine peers hold it", desk.riskFor(9, 0), due[9]);
        check.is("eight of nine, for one who holds it", desk.riskFor(0, 0), due[8]);
        desk.grantPerson(0, 9);
        check.is("the person's own holding does not count", desk.riskFor(9, 0), 0);
        check.is("but counts for the others", desk.riskFor(0, 0), 0);
    }

    private void riskOfGroup() {
        check.sentence("or the greatest one for a member of its group, 0 if it has no members");
        Recertify desk = Desks.withGroups(3, 2);
        desk.addPerson(1, -1);
        desk.addRight(9, 0, false);
        desk.grantGroup(0, 0);
        desk.nest(0, 1);
        check.is("no members", desk.riskOf(0), 0);
        check.is("no members: mean", desk.meanRisk(), 0.0);
        for (int person = 0; person < 3; person++) {
            desk.addMember(1, person);
        }
        check.is("all members' peers hold it", desk.riskOf(0), 0);
        desk.addMember(0, 3);
        check.is("the last member has no peers", desk.riskOf(0), 900);
        desk.removeMember(0, 3);
        desk.removeMember(1, 0);
        check.is("one of two peers", desk.riskOf(0), 450);
        desk.removeMember(1, 1);
        check.is("only the last of the department", desk.riskOf(0), 900);
        desk.removeMember(1, 2);
        check.is("no members any more", desk.riskOf(0), 0);
    }

    private void disuseOfAnEmptyGroup() {
        check.sentence("0 if it has no members; 50 is added if its last use is 30 days ago or more");
        Recertify desk = Desks.withGroups(1, 1);
        desk.addRight(9, 0, false);
        desk.grantGroup(0, 0);
        desk.pass(29);
        check.is("29 days ago", desk.riskOf(0), 0);
        check.is("mean, 29 days ago", desk.meanRisk(), 0.0);
        desk.pass(1);
        check.is("30 days ago", desk.riskOf(0), 50);
        check.is("mean, 30 days ago", desk.meanRisk(), 50.0);
    }

    private void thirtyDaysOfDisuse() {
        check.sentence("50 is added if its last use is 30 days ago or more");
        Recertify desk = Desks.withRights(1, 1);
        desk.pass(7);
        desk.grantPerson(0, 0);
        check.is("made today", desk.riskOf(0), 100);
        desk.pass(29);
        check.is("29 days ago", desk.riskOf(0), 100);
        desk.pass(1);
        check.is("30 days ago", desk.riskOf(0), 150);
        desk.pass(1);
        check.is("31 days ago", desk.riskOf(0), 150);
        desk.pass(30);
        check.is("61 days ago, added once", desk.riskOf(0), 150);
        desk.use(0, 0);
        check.is("used today", desk.riskOf(0), 100);
        desk.pass(29);
        check.is("used 29 days ago", desk.riskOf(0), 100);
        desk.pass(1);
        check.is("used 30 days ago", desk.riskOf(0), 150);
        check.is("the right's risk for the person stays", desk.riskFor(0, 0), 100);
    }

    private void reviewerIsAnotherPerson() {
        check.sentence("The reviewer of a grant is the first stand-in, other than the person to whom it gives the "
            + "right");
        Recertify desk = new Recertify();
        desk.addPerson(0, -1);
        desk.addPerson(0, 0);
        desk.addPerson(0, 1);
        desk.addRight(1, 1, false);
        desk.addGroup(1);
        desk.addMember(0, 1);
        desk.grantPerson(0, 0);
        desk.grantPerson(0, 1);
        desk.grantPerson(0, 2);
        desk.grantGroup(0, 0);
        check.is("no manager: the owner", desk.reviewerOf(0), 1);
        check.is("the manager", desk.reviewerOf(1), 0);
        check.is("the manager, who is the owner too", desk.reviewerOf(2), 1);
        check.is("the group's owner, who is a member", desk.reviewerOf(3), 1);
        desk.setAbsent(0, true);
        check.is("not the owner, who is the person: the first other one", desk.reviewerOf(1), 2);
        desk.setSubstitute(0, 1);
        check.is("nor the manager's substitute, who is the person", desk.reviewerOf(1), 2);
        check.is("person 0 is absent, and has the grant", desk.reviewerOf(0), 1);
    }

    private void reviewerMayBeNobody() {
        check.sentence("There may be none");
        Recertify alone = Desks.withGroups(1, 1);
        alone.addRight(1, 0, false);
        alone.grantPerson(0, 0);
        alone.grantGroup(0, 0);
        check.is("one person: none for their own grant", alone.reviewerOf(0), -1);
        check.is("one person: for the group", alone.reviewerOf(1), 0);
        alone.setAbsent(0, true);
        check.is("absent: none for the group", alone.reviewerOf(1), -1);

        Recertify desk = Desks.withRights(10, 1);
        desk.grantPerson(0, 9);
        for (int person = 0; person < 9; person++) {
            check.is("the first who is present", desk.reviewerOf(0), person);
            desk.setAbsent(person, true);
        }
        check.is("all others are absent", desk.reviewerOf(0), -1);
        desk.setSubstitute(8, 9);
        check.is("the last one's substitute has the grant", desk.reviewerOf(0), -1);
        desk.setAbsent(9, true);
        check.is("all are absent", desk.reviewerOf(0), -1);
        desk.setAbsent(8, false);
        check.is("the last but one is back", desk.reviewerOf(0), 8);
    }

    private void pathsOverEightGroups() {
        check.sentence("the number of paths from this group over groups, each nested directly in the one before, to "
            + "a group of which the person is a direct member");
        Recertify desk = Desks.withGroups(2, 8);
        desk.addRight(1, 0, false);
        Desks.nestAll(desk, 8);
        check.is("no grant", desk.paths(1, 0), 0);
        desk.grantGroup(0, 0);
        check.is("no member", desk.paths(1, 0), 0);
        int due = 0;
        for (int group = 0; group < 8; group++) {
            desk.addMember(group, 1);
            due += group == 0 ? 1 : 1 << (group - 1);
            check.is("member of the groups up to " + group, desk.paths(1, 0), due);
        }
        for (int group = 1; group < 8; group++) {
            desk.grantGroup(0, group);
            due += 1 << (7 - group);
            check.is("granted to the groups up to " + group, desk.paths(1, 0), due);
        }
        check.is("in all", due, 255);
        desk.grantPerson(0, 1);
        check.is("and the person's own", desk.paths(1, 0), 256);
        check.is("no other person's", desk.paths(0, 0), 0);
    }

    private void pathsOfThoseWhoAreDenied() {
        check.sentence("Returns in how many ways active grants of a right reach a person");
        Recertify desk = Desks.withGroups(2, 2);
        desk.addRight(1, 0, false);
        desk.nest(1, 0);
        desk.addMember(0, 1);
        desk.grantPerson(0, 1);
        Desks.revokeAll(desk);
        check.is("an ended grant is no way", desk.paths(1, 0), 0);
        check.fails("nor has it a length", IllegalStateException.class, () -> desk.pathLength(1, 0));
        desk.grantGroup(0, 1);
        check.is("denied", desk.isDenied(1, 0), true);
        check.is("not held", desk.holdsByPaths(1, 0), false);
        check.is("but reached in one way", desk.paths(1, 0), 1);
        check.is("over two groups", desk.pathLength(1, 0), 2);
        check.is("from the group with the grant", desk.pathAt(1, 0, 0), 1);
        check.is("to the person's", desk.pathAt(1, 0, 1), 0);
    }

    private void shortestPathOfNoneToEight() {
        check.sentence("Returns the number of groups; 0 if an active grant is for the person");
        Recertify desk = Desks.withGroups(2, 8);
        desk.addRight(1, 0, false);
        check.fails("no grant", IllegalStateException.class, () -> desk.pathLength(1, 0));
        for (int group = 7; group > 0; group--) {
            desk.nest(group, group - 1);
        }
        desk.addMember(0, 1);
        for (int length = 8; length > 0; length--) {
            int group = length - 1;
            desk.grantGroup(0, group);
            check.is("length", desk.pathLength(1, 0), length);
            for (int index = 0; index < length; index++) {
                check.is("index " + index + " of " + length, desk.pathAt(1, 0, index), group - index);
            }
            int end = length;
            check.fails("index at the end", IndexOutOfBoundsException.class, () -> desk.pathAt(1, 0, end));
        }
        desk.grantPerson(0, 1);
        check.is("own grant", desk.pathLength(1, 0), 0);
        check.fails("index 0 of none", IndexOutOfBoundsException.class, () -> desk.pathAt(1, 0, 0));
        check.fails("the other person", IllegalStateException.class, () -> desk.pathLength(0, 0));
    }

    private void lowerNumberWhereTheyFirstDiffer() {
        check.sentence("of several, the one that has the group with the lower number where they first differ, seen "
            + "from the group with the grant");
        Recertify desk = Desks.withGroups(2, 8);
        desk.addRight(1, 0, false);
        desk.nest(6, 4);
        desk.nest(4, 1);
        desk.nest(6, 3);
        desk.nest(3, 2);
        desk.nest(7, 0);
        desk.nest(0, 1);
        desk.addMember(1, 1);
        desk.addMember(2, 1);
        desk.grantGroup(0, 7);
        desk.grantGroup(0, 6);
        check.is("length", desk.pathLength(1, 0), 3);
        check.is("group 6 before 7, in spite of 0 behind 7", desk.pathAt(1, 0, 0), 6);
        check.is("group 3 before 4, in spite of 1 behind 4", desk.pathAt(1, 0, 1), 3);
        check.is("what comes then", desk.pathAt(1, 0, 2), 2);
        desk.nest(3, 1);
        check.is("the lower one at the end", desk.pathAt(1, 0, 2), 1);
    }

    public static void main(String[] args) {
        RightsEdgesTest test = new RightsEdgesTest();
        test.atMostTenRights();
        test.sensitivities();
        test.atMostTwentyFourGrants();
        test.endsForGood();
        test.reachesMembersOfNow();
        test.deniedOnePersonOneRight();
        test.lastUseIsDayItWasMade();
        test.riskWithoutPeers();
        test.riskIsRoundedDown();
        test.riskOfGroup();
        test.disuseOfAnEmptyGroup();
        test.thirtyDaysOfDisuse();
        test.reviewerIsAnotherPerson();
        test.reviewerMayBeNobody();
        test.pathsOverEightGroups();
        test.pathsOfThoseWhoAreDenied();
        test.shortestPathOfNoneToEight();
        test.lowerNumberWhereTheyFirstDiffer();
        test.check.end();
    }
}
