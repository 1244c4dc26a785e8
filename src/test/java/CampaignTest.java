import java.util.NoSuchElementException;

/** Promises 13 to 17, 41 to 47 and 53. */
final class CampaignTest {
    private final Check check = new Check();

    /** Person 0 reviews the grants 0 to 2, which give the right 0 to the people 1 to 3; person 4 is a bystander. */
    private static Recertify withThreeGrants() {
        Recertify desk = Desks.withPeople(5);
        desk.addRight(4, 0, false);
        desk.grantPerson(0, 1);
        desk.grantPerson(0, 2);
        desk.grantPerson(0, 3);
        return desk;
    }

    private void promise13Pass() {
        Recertify desk = withThreeGrants();
        check.fails("13 no days", IllegalArgumentException.class, () -> desk.pass(0));
        check.fails("13 31 days", IllegalArgumentException.class, () -> desk.pass(31));
        check.fails("13 -1 days", IllegalArgumentException.class, () -> desk.pass(-1));
        check.is("13 one", desk.pass(1), 1);
        check.is("13 30", desk.pass(30), 31);
        desk.setLimit(0);
        desk.openCampaign(3);
        check.is("13 past the deadline and the due day", desk.pass(9), 40);
        check.is("13 closed on the way", desk.isOpen(), false);
        check.is("13 ended on the way", desk.stateOf(2), 'x');
        check.is("13 seal of the day of the deadline", desk.sealAt(0), 17 * 34 + 'r');
        int before = desk.sealAt(2);
        int turned = (before * 32 & 65535) + before / 2048;
        check.is("13 seal of the day of the end", desk.sealAt(3), turned ^ 17 * 36 + 'x');
    }

    private void promise14SetLimit() {
        Recertify desk = withThreeGrants();
        check.fails("14 -1", IllegalArgumentException.class, () -> desk.setLimit(-1));
        check.fails("14 1000", IllegalArgumentException.class, () -> desk.setLimit(1000));
        check.is("14 at first", desk.setLimit(999), 300);
        check.is("14 highest", desk.setLimit(0), 999);
        check.is("14 lowest", desk.setLimit(200), 0);
        check.is("14 risk", desk.riskOf(0), 200);
        desk.openCampaign(1);
        desk.setLimit(201);
        desk.pass(1);
        check.is("14 risk below the limit", desk.verdict(0), 'k');
        desk.openCampaign(1);
        desk.setLimit(200);
        desk.pass(1);
        check.is("14 risk at the limit", desk.verdict(0), 'r');
    }

    private void promise15SetGrace() {
        Recertify desk = withThreeGrants();
        check.fails("15 -1", IllegalArgumentException.class, () -> desk.setGrace(-1));
        check.fails("15 11", IllegalArgumentException.class, () -> desk.setGrace(11));
        check.is("15 at first", desk.setGrace(10), 2);
        desk.openCampaign(5);
        desk.pass(1);
        desk.answer(0, 0, 'r');
        check.is("15 highest", desk.setGrace(0), 10);
        check.is("15 as at the decision", desk.dueDay(0), 11);
        desk.answer(0, 1, 'r');
        check.is("15 none: ends at once", desk.stateOf(1), 'x');
        check.is("15 none: the other waits", desk.stateOf(0), 'w');
        check.is("15 lowest", desk.setGrace(1), 0);
        desk.answer(0, 2, 'r');
        check.is("15 one", desk.dueDay(2), 2);
    }

    private void promise16OpenCampaign() {
        Recertify desk = withThreeGrants();
        check.fails("16 no days", IllegalArgumentException.class, () -> desk.openCampaign(0));
        check.fails("16 31 days", IllegalArgumentException.class, () -> desk.openCampaign(31));
        check.fails("16 no grants", IllegalStateException.class, () -> Desks.withPeople(1).openCampaign(1));
        desk.setLimit(999);
        desk.pass(2);
        check.is("16 items", desk.openCampaign(30), 3);
        check.fails("16 open", IllegalStateException.class, () -> desk.openCampaign(1));
        check.fails("16 open, days", IllegalArgumentException.class, () -> desk.openCampaign(31));
        desk.answer(0, 1, 'r');
        desk.pass(29);
        check.is("16 before the deadline", desk.isOpen(), true);
        desk.pass(1);
        check.is("16 deadline", desk.isOpen(), false);
        desk.grantPerson(0, 4);
        desk.setGrace(10);
        check.is("16 without the ended one", desk.openCampaign(1), 3);
        check.is("16 in order", desk.grantOf(1), 2);
        check.is("16 in order", desk.grantOf(2), 3);
        desk.setLimit(0);
        desk.pass(1);
        check.fails("16 all wait", IllegalStateException.class, () -> desk.openCampaign(1));
        check.is("16 the latest campaign stays", desk.items(), 3);
        desk.grantPerson(0, 2);
        check.is("16 without those that wait", desk.openCampaign(1), 1);
        check.is("16 the new one", desk.grantOf(0), 4);
    }

    private void promise17Answer() {
        Recertify desk = withThreeGrants();
        check.fails("17 not open", IllegalStateException.class, () -> desk.answer(9, 9, 'z'));
        desk.openCampaign(5);
        check.fails("17 person 5", NoSuchElementException.class, () -> desk.answer(5, 0, 'z'));
        check.fails("17 person -1", NoSuchElementException.class, () -> desk.answer(-1, 0, 'k'));
        check.fails("17 item 3", NoSuchElementException.class, () -> desk.answer(0, 3, 'z'));
        check.fails("17 item -1", NoSuchElementException.class, () -> desk.answer(0, -1, 'k'));
        check.fails("17 verdict u", IllegalArgumentException.class, () -> desk.answer(4, 0, 'u'));
        check.fails("17 verdict K", IllegalArgumentException.class, () -> desk.answer(0, 0, 'K'));
        check.fails("17 bystander", UnsupportedOperationException.class, () -> desk.answer(4, 0, 'k'));
        check.fails("17 person with the grant", UnsupportedOperationException.class, () -> desk.answer(1, 0, 'k'));
        check.is("17 nothing changed", desk.entries() + desk.undecided(), 3);
        check.is("17 keep", desk.answer(0, 1, 'k'), 2);
        check.is("17 kept", desk.stateOf(1), 'a');
        check.fails("17 decided", UnsupportedOperationException.class, () -> desk.answer(0, 1, 'r'));
        check.fails("17 decided, verdict", IllegalArgumentException.class, () -> desk.answer(0, 1, 'x'));
        check.is("17 still kept", desk.verdict(1), 'k');
        desk.setAbsent(0, true);
        check.fails("17 reviewer is absent", UnsupportedOperationException.class, () -> desk.answer(0, 0, 'r'));
        desk.setSubstitute(0, 4);
        check.is("17 revoke by the reviewer of this time", desk.answer(4, 0, 'r'), 1);
        check.is("17 waits", desk.stateOf(0), 'w');
        check.is("17 last", desk.answer(4, 2, 'k'), 0);
        check.is("17 closed", desk.isOpen(), false);
        check.fails("17 closed", IllegalStateException.class, () -> desk.answer(4, 2, 'k'));
        desk.openCampaign(1);
        check.is("17 item of the new campaign", desk.grantOf(0), 1);
        check.is("17 its answer", desk.answer(4, 0, 'r'), 1);
        check.is("17 its grant", desk.stateOf(1), 'w');
        check.is("17 not the other", desk.stateOf(2), 'a');
    }

    private void promise17WithoutReviewer() {
        Recertify desk = Desks.withRights(1, 1);
        desk.grantPerson(0, 0);
        desk.openCampaign(1);
        check.fails("17 no reviewer", UnsupportedOperationException.class, () -> desk.answer(0, 0, 'k'));
        check.fails("17 person -1 is none", NoSuchElementException.class, () -> desk.answer(-1, 0, 'k'));
    }

    private void promise41To43Counts() {
        Recertify desk = withThreeGrants();
        check.is("41 without any", desk.items(), 0);
        check.is("42 without any", desk.isOpen(), false);
        check.is("43 without any", desk.undecided(), 0);
        desk.openCampaign(2);
        check.is("41 open", desk.items(), 3);
        check.is("42 open", desk.isOpen(), true);
        check.is("43 open", desk.undecided(), 3);
        desk.grantPerson(0, 4);
        check.is("41 a new grant has no item", desk.items(), 3);
        desk.answer(0, 1, 'r');
        check.is("41 decided ones count", desk.items(), 3);
        check.is("43 decided ones do not", desk.undecided(), 2);
        desk.pass(2);
        check.is("41 latest", desk.items(), 3);
        check.is("42 deadline", desk.isOpen(), false);
        check.is("43 deadline", desk.undecided(), 0);
        desk.openCampaign(1);
        check.is("42 again", desk.isOpen(), true);
        check.is("43 again", desk.undecided(), 3);
        for (int item = 0; item < 3; item++) {
            check.is("42 not all answered", desk.isOpen(), true);
            desk.answer(0, item, 'k');
        }
        check.is("42 all answered", desk.isOpen(), false);
    }

    private void promise44To46Items() {
        Recertify desk = withThreeGrants();
        check.fails("44 without any", NoSuchElementException.class, () -> desk.grantOf(0));
        check.fails("45 without any", NoSuchElementException.class, () -> desk.verdict(0));
        check.fails("46 without any", NoSuchElementException.class, () -> desk.decider(0));
        desk.openCampaign(2);
        check.is("44 first", desk.grantOf(0), 0);
        check.is("44 last", desk.grantOf(2), 2);
        check.is("45 undecided", desk.verdict(0), 'u');
        check.fails("46 undecided", IllegalStateException.class, () -> desk.decider(0));
        desk.answer(0, 0, 'k');
        desk.setAbsent(0, true);
        desk.setSubstitute(0, 4);
        desk.answer(4, 1, 'r');
        check.is("45 keep", desk.verdict(0), 'k');
        check.is("45 revoke", desk.verdict(1), 'r');
        check.is("45 other", desk.verdict(2), 'u');
        check.is("46 person 0", desk.decider(0), 0);
        check.is("46 person 4", desk.decider(1), 4);
        desk.pass(2);
        check.is("45 silence", desk.verdict(2), 'k');
        check.is("46 silence", desk.decider(2), -1);
        check.is("46 not by silence", desk.decider(0), 0);
        check.fails("44 item 3", NoSuchElementException.class, () -> desk.grantOf(3));
        check.fails("44 item -1", NoSuchElementException.class, () -> desk.grantOf(-1));
        check.fails("45 item 3", NoSuchElementException.class, () -> desk.verdict(3));
        check.fails("45 item -1", NoSuchElementException.class, () -> desk.verdict(-1));
        check.fails("46 item 3", NoSuchElementException.class, () -> desk.decider(3));
        check.fails("46 item -1", NoSuchElementException.class, () -> desk.decider(-1));
        desk.openCampaign(1);
        check.is("45 new campaign", desk.verdict(0), 'u');
        check.is("44 new campaign", desk.grantOf(1), 2);
        check.fails("46 new campaign", IllegalStateException.class, () -> desk.decider(0));
        check.fails("44 fewer items than before", NoSuchElementException.class, () -> desk.grantOf(2));
    }

    private void promise47NextItem() {
        Recertify desk = Desks.withPeople(6);
        desk.addRight(2, 0, false);
        desk.addRight(8, 0, false);
        desk.addRight(8, 4, false);
        desk.grantPerson(0, 1);
        desk.grantPerson(1, 2);
        desk.grantPerson(1, 3);
        desk.grantPerson(2, 1);
        check.fails("47 no campaign", IllegalStateException.class, () -> desk.nextItem(0));
        desk.openCampaign(9);
        check.is("47 greatest risk, lowest number", desk.nextItem(0), 1);
        check.is("47 other reviewer", desk.nextItem(4), 3);
        check.fails("47 no reviewer", IllegalStateException.class, () -> desk.nextItem(5));
        check.fails("47 person 6", NoSuchElementException.class, () -> desk.nextItem(6));
        check.fails("47 person -1", NoSuchElementException.class, () -> desk.nextItem(-1));
        desk.answer(0, 1, 'k');
        check.is("47 next", desk.nextItem(0), 2);
        desk.grantPerson(1, 0);
        desk.grantPerson(1, 1);
        desk.grantPerson(1, 4);
        desk.grantPerson(1, 5);
        check.is("47 risk of now", desk.nextItem(0), 0);
        desk.answer(0, 0, 'k');
        check.is("47 risk 0", desk.riskOf(2), 0);
        check.is("47 risk 0, asked for", desk.nextItem(0), 2);
        desk.answer(0, 2, 'k');
        check.fails("47 all of the person's answered", IllegalStateException.class, () -> desk.nextItem(0));
        desk.setAbsent(4, true);
        check.is("47 reviewer of now", desk.nextItem(0), 3);
        desk.pass(9);
        check.fails("47 closed", IllegalStateException.class, () -> desk.nextItem(0));
    }

    private void promise53RevokedShare() {
        Recertify desk = withThreeGrants();
        check.fails("53 nothing decided", ArithmeticException.class, desk::revokedShare);
        desk.openCampaign(1);
        check.fails("53 open", ArithmeticException.class, desk::revokedShare);
        desk.answer(0, 0, 'k');
        check.is("53 none of one", desk.revokedShare(), 0.0f);
        desk.answer(0, 1, 'r');
        check.is("53 one of two", desk.revokedShare(), 0.5f);
        desk.pass(1);
        check.is("53 one of three, by silence", desk.revokedShare(), 1.0f / 3.0f);
        desk.setLimit(0);
        desk.openCampaign(1);
        desk.pass(1);
        check.is("53 all campaigns", desk.revokedShare(), 3.0f / 5.0f);
    }

    private void promise53BeyondTheEvidence() {
        Recertify desk = Desks.withRights(10, 3);
        for (int grant = 0; grant < 24; grant++) {
            desk.grantPerson(grant / 10, grant % 10);
        }
        for (int campaign = 0; campaign < 4; campaign++) {
            desk.openCampaign(1);
            desk.pass(1);
        }
        desk.setLimit(0);
        desk.openCampaign(1);
        desk.pass(1);
        check.is("53 entries", desk.entries(), 99);
        check.is("53 items without an entry count", desk.revokedShare(), 24.0f / 120.0f);
    }

    public static void main(String[] args) {
        CampaignTest test = new CampaignTest();
        test.promise13Pass();
        test.promise14SetLimit();
        test.promise15SetGrace();
        test.promise16OpenCampaign();
        test.promise17Answer();
        test.promise17WithoutReviewer();
        test.promise41To43Counts();
        test.promise44To46Items();
        test.promise47NextItem();
        test.promise53RevokedShare();
        test.promise53BeyondTheEvidence();
        test.check.end();
    }
}
