import java.util.NoSuchElementException;

/** Promises 33 to 35 and 54. */
final class RiskTest {
    private final Check check = new Check();

    private void promise33RiskOf() {
        Recertify desk = Desks.withGroups(4, 2);
        desk.addPerson(1, -1);
        desk.addRight(7, 0, false);
        desk.addRight(3, 0, false);
        desk.grantPerson(0, 1);
        check.is("33 held by no peer", desk.riskOf(0), 700);
        desk.grantPerson(0, 2);
        check.is("33 rounded down", desk.riskOf(0), 466);
        desk.grantGroup(0, 0);
        check.is("33 no members", desk.riskOf(2), 0);
        desk.addMember(0, 1);
        check.is("33 member", desk.riskOf(2), 466);
        desk.addMember(0, 3);
        check.is("33 members hold it", desk.riskOf(2), 233);
        desk.nest(0, 1);
        desk.addMember(1, 4);
        check.is("33 greatest of all members, without peers", desk.riskOf(2), 700);
        desk.grantGroup(1, 1);
        desk.pass(29);
        check.is("33 last use 29 days ago", desk.riskOf(0), 233);
        desk.use(2, 0);
        desk.pass(1);
        check.is("33 made 30 days ago", desk.riskOf(3), 350);
        check.is("33 used a day ago", desk.riskOf(1), 233);
        desk.removeMember(1, 4);
        check.is("33 no members, 30 days ago", desk.riskOf(3), 50);
        desk.pass(28);
        check.is("33 used 29 days ago", desk.riskOf(1), 233);
        desk.pass(30);
        check.is("33 used 59 days ago", desk.riskOf(1), 283);
        desk.openCampaign(1);
        desk.answer(0, 1, 'r');
        check.is("33 one that waits", desk.riskOf(1), 283);
        desk.pass(2);
        check.fails("33 ended", IllegalStateException.class, () -> desk.riskOf(1));
        check.fails("33 grant 4", NoSuchElementException.class, () -> desk.riskOf(4));
        check.fails("33 grant -1", NoSuchElementException.class, () -> desk.riskOf(-1));
    }

    private void promise34RiskFor() {
        Recertify desk = new Recertify();
        desk.addPerson(2, -1);
        desk.addRight(9, 0, false);
        desk.addGroup(0);
        check.is("34 alone", desk.riskFor(0, 0), 900);
        desk.addPerson(3, -1);
        check.is("34 alone in the department", desk.riskFor(0, 0), 900);
        desk.grantPerson(0, 1);
        check.is("34 others' holdings do not count", desk.riskFor(0, 0), 900);
        for (int person = 2; person < 9; person++) {
            desk.addPerson(2, 0);
        }
        check.is("34 seven peers", desk.riskFor(0, 0), 900);
        desk.grantPerson(0, 0);
        check.is("34 own holding does not count", desk.riskFor(0, 0), 900);
        check.is("34 one of seven", desk.riskFor(2, 0), 771);
        desk.addMember(0, 3);
        desk.addMember(0, 4);
        desk.grantGroup(0, 0);
        check.is("34 three of seven", desk.riskFor(2, 0), 514);
        check.is("34 two of seven, who holds it", desk.riskFor(3, 0), 642);
        desk.grantPerson(0, 3);
        desk.setGrace(0);
        desk.openCampaign(1);
        desk.answer(0, 3, 'r');
        check.is("34 denied to a peer", desk.riskFor(2, 0), 642);
        for (int person = 2; person < 9; person++) {
            desk.grantPerson(0, person);
        }
        check.is("34 all peers", desk.riskFor(0, 0), 0);
        desk.pass(30);
        check.is("34 nothing for disuse", desk.riskFor(0, 0), 0);
        check.fails("34 person 9", NoSuchElementException.class, () -> desk.riskFor(9, 0));
        check.fails("34 person -1", NoSuchElementException.class, () -> desk.riskFor(-1, 0));
        check.fails("34 right 1", NoSuchElementException.class, () -> desk.riskFor(0, 1));
        check.fails("34 right -1", NoSuchElementException.class, () -> desk.riskFor(0, -1));
    }

    private void promise35ReviewerOfPersons() {
        Recertify desk = new Recertify();
        desk.addPerson(0, -1);
        desk.addPerson(0, -1);
        desk.addPerson(0, -1);
        desk.addPerson(0, 1);
        desk.addPerson(0, -1);
        desk.addRight(1, 2, false);
        desk.grantPerson(0, 3);
        desk.grantPerson(0, 4);
        desk.grantPerson(0, 2);
        check.is("35 manager", desk.reviewerOf(0), 1);
        check.is("35 owner, without a manager", desk.reviewerOf(1), 2);
        check.is("35 owner of the right is the person", desk.reviewerOf(2), 0);
        desk.setAbsent(1, true);
        check.is("35 manager without stand-in", desk.reviewerOf(0), 2);
        desk.setSubstitute(1, 4);
        check.is("35 manager's stand-in", desk.reviewerOf(0), 4);
        desk.setSubstitute(1, 3);
        check.is("35 manager's stand-in is the person", desk.reviewerOf(0), 2);
        desk.setAbsent(2, true);
        check.is("35 owner without stand-in", desk.reviewerOf(0), 0);
        desk.setSubstitute(2, 3);
        check.is("35 owner's stand-in is the person", desk.reviewerOf(0), 0);
        check.is("35 owner's stand-in", desk.reviewerOf(1), 3);
        desk.setAbsent(0, true);
        check.is("35 first of all with another stand-in", desk.reviewerOf(0), 4);
        desk.setSubstitute(0, 4);
        desk.setAbsent(4, true);
        check.is("35 none but the person", desk.reviewerOf(0), -1);
        desk.setSubstitute(4, 3);
        check.is("35 all people's stand-ins", desk.reviewerOf(1), 3);
        desk.setAbsent(3, true);
        check.is("35 none", desk.reviewerOf(1), -1);
        check.fails("35 grant 3", NoSuchElementException.class, () -> desk.reviewerOf(3));
        check.fails("35 grant -1", NoSuchElementException.class, () -> desk.reviewerOf(-1));
    }

    private void promise35ReviewerOfGroups() {
        Recertify desk = Desks.withPeople(4);
        desk.addGroup(3);
        desk.addMember(0, 3);
        desk.addRight(1, 2, false);
        desk.grantGroup(0, 0);
        check.is("35 owner of the group, a member", desk.reviewerOf(0), 3);
        desk.setAbsent(3, true);
        check.is("35 owner of the right", desk.reviewerOf(0), 2);
        desk.setSubstitute(3, 1);
        check.is("35 stand-in of the group's owner", desk.reviewerOf(0), 1);
        desk.setAbsent(1, true);
        desk.setAbsent(2, true);
        check.is("35 all people", desk.reviewerOf(0), 0);
        desk.setGrace(0);
        desk.openCampaign(1);
        desk.answer(0, 0, 'r');
        check.is("35 ended", desk.reviewerOf(0), 0);
        desk.setAbsent(2, false);
        check.is("35 ended, as told now", desk.reviewerOf(0), 2);
    }

    private void promise54MeanRisk() {
        Recertify desk = Desks.withPeople(1);
        check.fails("54 no grants", ArithmeticException.class, desk::meanRisk);
        desk.addPerson(1, -1);
        desk.addPerson(2, -1);
        desk.addRight(1, 0, false);
        desk.addRight(2, 0, false);
        desk.grantPerson(0, 1);
        check.is("54 one", desk.meanRisk(), 100.0);
        desk.grantPerson(1, 1);
        desk.grantPerson(1, 2);
        check.is("54 not rounded", desk.meanRisk(), 500.0 / 3.0);
        desk.pass(30);
        check.is("54 with disuse", desk.meanRisk(), 650.0 / 3.0);
        desk.openCampaign(1);
        desk.answer(0, 0, 'r');
        check.is("54 one that waits counts", desk.meanRisk(), 650.0 / 3.0);
        desk.pass(2);
        check.is("54 ended ones do not count", desk.meanRisk(), 250.0);
        desk.setGrace(0);
        desk.openCampaign(1);
        desk.answer(0, 0, 'r');
        desk.answer(0, 1, 'r');
        check.fails("54 all ended", ArithmeticException.class, desk::meanRisk);
    }

    public static void main(String[] args) {
        RiskTest test = new RiskTest();
        test.promise33RiskOf();
        test.promise34RiskFor();
        test.promise35ReviewerOfPersons();
        test.promise35ReviewerOfGroups();
        test.promise54MeanRisk();
        test.check.end();
    }
}
