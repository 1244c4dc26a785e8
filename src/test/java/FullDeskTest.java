/** A desk on which all rows are full: calls with the highest numbers answer as well as those with the lowest. */
final class FullDeskTest {
    private final Check check = new Check();

    /**
     * Ten people, eight groups each nested in all lower ones, all people in group 7, and ten rights. The grants 0 to 9
     * give the rights to group 0, 10 to 19 to the person of the same number, 20 to 23 the right 9 to the people 0 to
     * 3. The right 9 is vital.
     */
    private static Recertify full() {
        Recertify desk = Desks.withGroups(10, 8);
        Desks.nestAll(desk, 8);
        for (int number = 0; number < 10; number++) {
            desk.addMember(7, number);
            desk.addRight(9, 9, number == 9);
            desk.grantGroup(number, 0);
        }
        for (int number = 0; number < 14; number++) {
            desk.grantPerson(Math.min(number, 9), number % 10);
        }
        return desk;
    }

    private void holdings() {
        check.sentence("Holdings are found with bits, and by walking every path");
        Recertify desk = full();
        check.is("people", desk.people(), 10);
        check.is("grants", desk.grants(), 24);
        for (int group = 0; group < 8; group++) {
            check.is("members of " + group, desk.members(group), 10);
            check.is("member of " + group, desk.isMember(group, 9), true);
        }
        for (int number = 0; number < 10; number++) {
            check.is("holders of " + number, desk.holdersOf(number), 10);
            check.is("bits of " + number, desk.rightBits(number), 1023);
            check.is("rights of " + number, desk.rightsOf(number), 10);
            check.is("apart", desk.apart(number, 9 - number), 0);
            check.is("holds", desk.holds(number, 9 - number), true);
            check.is("by paths", desk.holdsByPaths(number, 9 - number), true);
            check.is("denied", desk.isDenied(number, 9 - number), false);
        }
    }

    private void paths() {
        check.sentence("Returns in how many ways active grants of a right reach a person");
        Recertify desk = full();
        for (int person = 0; person < 10; person++) {
            boolean hasOwn = person < 4 || person == 9;
            check.is("paths of " + person, desk.paths(person, 9), hasOwn ? 65 : 64);
            check.is("length of " + person, desk.pathLength(person, 9), hasOwn ? 0 : 2);
            if (!hasOwn) {
                check.is("from the group with the grant", desk.pathAt(person, 9, 0), 0);
                check.is("to the group with the person", desk.pathAt(person, 9, 1), 7);
            }
        }
    }

    private void uses() {
        check.sentence("the last use of each active grant of it that reaches the person is this day");
        Recertify desk = full();
        desk.pass(5);
        for (int person = 0; person < 10; person++) {
            check.is("use by " + person, desk.use(person, 9), person < 4 || person == 9 ? 2 : 1);
        }
        for (int grant = 0; grant < 24; grant++) {
            check.is("last use of " + grant, desk.lastUse(grant), grant == 9 || grant >= 19 ? 5 : 0);
        }
    }

    private void risksAndReviewers() {
        check.sentence("and those of all people, in the order of their numbers");
        Recertify desk = full();
        for (int grant = 0; grant < 24; grant++) {
            check.is("risk of " + grant, desk.riskOf(grant), 0);
            check.is("blocked " + grant, desk.isBlocked(grant), false);
            check.is("reviewer of " + grant, desk.reviewerOf(grant), grant < 10 ? 0 : grant == 19 ? 0 : 9);
        }
        for (int person = 0; person < 10; person++) {
            desk.setAbsent(person, true);
        }
        for (int grant = 0; grant < 24; grant++) {
            check.is("no reviewer of " + grant, desk.reviewerOf(grant), -1);
        }
        desk.setAbsent(9, false);
        for (int grant = 0; grant < 24; grant++) {
            check.is("the last person for " + grant, desk.reviewerOf(grant), grant == 19 ? -1 : 9);
        }
        desk.pass(30);
        check.is("mean", desk.meanRisk(), 50.0);
        check.is("risk for the last person", desk.riskFor(9, 9), 0);
    }

    private void campaign() {
        check.sentence("A campaign has an item for each grant that is active");
        Recertify desk = full();
        check.is("items", desk.openCampaign(30), 24);
        for (int item = 23; item >= 10; item--) {
            int reviewer = desk.reviewerOf(item);
            check.is("the lowest of the reviewer", desk.nextItem(reviewer), item == 19 || reviewer == 0 ? 0 : 10);
            check.is("answer", desk.answer(reviewer, item, 'r'), item);
            check.is("due", desk.dueDay(item), 2);
        }
        desk.pass(2);
        for (int grant = 0; grant < 24; grant++) {
            check.is("state of " + grant, desk.stateOf(grant), grant < 10 ? 'a' : 'x');
        }
        check.is("entries", desk.entries(), 28);
        check.is("five hold no more the right 9", desk.holdersOf(9), 5);
        check.is("one holds no more the right 8", desk.holdersOf(8), 9);
        check.is("group's grant of the vital right", desk.isBlocked(9), true);
        check.is("group's grant of another right", desk.isBlocked(8), false);
        desk.setGrace(0);
        for (int item = 0; item < 10; item++) {
            desk.answer(0, item, 'r');
        }
        check.is("ended", desk.stateOf(8), 'x');
        check.is("blocked", desk.stateOf(9), 'w');
        check.is("entries", desk.entries(), 28 + 10 + 9);
        check.is("share", desk.revokedShare(), 1.0f);
        check.fails("nothing to ask for", IllegalStateException.class, () -> desk.openCampaign(1));
    }

    private void evidence() {
        check.sentence("Returns the same as sealAt, found from all entries up to this one");
        Recertify desk = full();
        desk.setLimit(999);
        for (int campaign = 0; campaign < 5; campaign++) {
            desk.openCampaign(1);
            desk.pass(1);
        }
        check.is("entries", desk.entries(), 99);
        for (int entry = 0; entry < 99; entry++) {
            check.is("sign of " + entry, desk.signAt(entry), 'k');
            check.is("seal of " + entry, desk.sealByReplay(entry), desk.sealAt(entry));
        }
        check.is("day", desk.day(), 5);
        check.is("items", desk.items(), 24);
        check.is("the last item is decided too", desk.verdict(23), 'k');
    }

    public static void main(String[] args) {
        FullDeskTest test = new FullDeskTest();
        test.holdings();
        test.paths();
        test.uses();
        test.risksAndReviewers();
        test.campaign();
        test.evidence();
        test.check.end();
    }
}
