import java.util.NoSuchElementException;

/** Promises 37, 38 and 40, and what the terms say of silence and revocations. */
final class RevocationTest {
    private final Check check = new Check();

    private void promise37And38States() {
        Recertify desk = Desks.withRights(3, 1);
        desk.grantPerson(0, 1);
        desk.grantPerson(0, 2);
        check.is("37 active", desk.stateOf(0), 'a');
        check.fails("38 active", IllegalStateException.class, () -> desk.dueDay(0));
        desk.pass(5);
        desk.openCampaign(9);
        check.is("37 asked", desk.stateOf(0), 'a');
        desk.answer(0, 0, 'r');
        desk.answer(0, 1, 'k');
        check.is("37 waits", desk.stateOf(0), 'w');
        check.is("37 kept", desk.stateOf(1), 'a');
        check.is("38 waits", desk.dueDay(0), 7);
        check.fails("38 kept", IllegalStateException.class, () -> desk.dueDay(1));
        desk.pass(1);
        check.is("37 day before", desk.stateOf(0), 'w');
        check.is("38 day before", desk.dueDay(0), 7);
        desk.pass(1);
        check.is("37 ended", desk.stateOf(0), 'x');
        check.fails("38 ended", IllegalStateException.class, () -> desk.dueDay(0));
        check.fails("37 grant 2", NoSuchElementException.class, () -> desk.stateOf(2));
        check.fails("37 grant -1", NoSuchElementException.class, () -> desk.stateOf(-1));
        check.fails("38 grant 2", NoSuchElementException.class, () -> desk.dueDay(2));
        check.fails("38 grant -1", NoSuchElementException.class, () -> desk.dueDay(-1));
    }

    private void promise40IsBlocked() {
        Recertify desk = Desks.withGroups(4, 2);
        desk.addRight(1, 0, true);
        desk.addRight(1, 0, false);
        desk.addMember(0, 1);
        desk.grantGroup(1, 0);
        check.is("40 not vital", desk.isBlocked(0), false);
        desk.grantGroup(0, 0);
        check.is("40 the only grant", desk.isBlocked(1), true);
        desk.grantPerson(0, 1);
        check.is("40 the person keeps it by the other grant", desk.isBlocked(1), false);
        check.is("40 denied then, in spite of the group", desk.isBlocked(2), true);
        desk.addMember(0, 2);
        check.is("40 another member", desk.isBlocked(2), false);
        desk.setGrace(0);
        desk.openCampaign(9);
        desk.answer(0, 2, 'r');
        check.is("40 ended", desk.isBlocked(2), false);
        desk.removeMember(0, 2);
        check.is("40 nobody holds it before either", desk.isBlocked(1), true);
        desk.grantGroup(0, 1);
        check.is("40 a grant to nobody", desk.isBlocked(3), true);
        desk.grantPerson(0, 3);
        check.is("40 a grant to nobody, somebody holds it", desk.isBlocked(3), false);
        check.is("40 the last holder's", desk.isBlocked(4), true);
        desk.answer(0, 1, 'r');
        check.is("40 the ended only grant", desk.isBlocked(1), false);
        check.fails("40 grant 5", NoSuchElementException.class, () -> desk.isBlocked(5));
        check.fails("40 grant -1", NoSuchElementException.class, () -> desk.isBlocked(-1));
    }

    private void blockedWaitsFurther() {
        Recertify desk = Desks.withPeople(3);
        desk.addRight(1, 0, true);
        desk.grantPerson(0, 1);
        desk.openCampaign(9);
        desk.answer(0, 0, 'r');
        desk.pass(10);
        check.is("blocked: waits", desk.stateOf(0), 'w');
        check.is("blocked: due day stays", desk.dueDay(0), 2);
        check.is("blocked: still held", desk.holds(1, 0), true);
        check.is("blocked: no entry", desk.entries(), 1);
        desk.grantPerson(0, 2);
        check.is("blocked: not looked at before a day begins", desk.stateOf(0), 'w');
        desk.pass(1);
        check.is("blocked: ends with another holder", desk.stateOf(0), 'x');
        check.is("blocked: denied", desk.isDenied(1, 0), true);
    }

    private void answerLooksAtAllThatAreDue() {
        Recertify desk = Desks.withPeople(4);
        desk.addRight(1, 0, true);
        desk.addRight(1, 0, false);
        desk.grantPerson(0, 1);
        desk.grantPerson(1, 1);
        desk.grantPerson(1, 2);
        desk.openCampaign(9);
        desk.answer(0, 0, 'r');
        desk.pass(3);
        desk.grantPerson(0, 2);
        desk.answer(0, 1, 'k');
        check.is("look: not after a keep", desk.stateOf(0), 'w');
        desk.answer(0, 2, 'r');
        check.is("look: after a revoke, all that are due", desk.stateOf(0), 'x');
        check.is("look: not one that is due later", desk.stateOf(2), 'w');
    }

    private void orderOfDueDays() {
        Recertify desk = Desks.withPeople(4);
        desk.addRight(1, 0, true);
        desk.grantPerson(0, 1);
        desk.grantPerson(0, 2);
        desk.openCampaign(9);
        desk.setGrace(3);
        desk.answer(0, 0, 'r');
        desk.setGrace(1);
        desk.answer(0, 1, 'r');
        desk.pass(1);
        check.is("order: due first", desk.stateOf(1), 'x');
        desk.pass(9);
        check.is("order: the last one stays", desk.stateOf(0), 'w');
    }

    private void orderOnOneDay() {
        Recertify desk = Desks.withPeople(5);
        desk.addRight(1, 0, true);
        desk.grantPerson(0, 1);
        desk.grantPerson(0, 2);
        desk.grantPerson(0, 3);
        desk.openCampaign(9);
        desk.setGrace(3);
        desk.answer(0, 2, 'r');
        desk.answer(0, 1, 'r');
        desk.setGrace(2);
        desk.answer(0, 0, 'r');
        desk.pass(5);
        check.is("order: lowest due day", desk.stateOf(0), 'x');
        check.is("order: then lowest number", desk.stateOf(1), 'x');
        check.is("order: the last one", desk.stateOf(2), 'w');
    }

    /** All wait blocked, as one group is their only holder's, until another holder comes: all are looked at then. */
    private void orderOfLookWhenBothAreDue() {
        Recertify desk = Desks.withGroups(4, 2);
        desk.addRight(1, 0, true);
        desk.grantGroup(0, 0);
        desk.grantGroup(0, 1);
        desk.openCampaign(9);
        desk.setGrace(2);
        desk.answer(0, 0, 'r');
        desk.setGrace(1);
        desk.answer(0, 1, 'r');
        desk.pass(3);
        check.is("both: nobody holds it, so both stay", desk.stateOf(0) == 'w' && desk.stateOf(1) == 'w', true);
        desk.addMember(0, 1);
        desk.addMember(1, 2);
        desk.pass(1);
        check.is("both: lower due day ends first", desk.stateOf(1), 'x');
        check.is("both: higher due day stays", desk.stateOf(0), 'w');
        check.is("both: a group's end denies nothing", desk.isDenied(2, 0), false);
    }

    private void blockedOnesDoNotHinderOthers() {
        Recertify desk = Desks.withPeople(5);
        desk.addRight(1, 1, true);
        desk.addRight(1, 1, true);
        desk.addRight(1, 1, false);
        desk.grantPerson(0, 0);
        desk.grantPerson(1, 2);
        desk.grantPerson(2, 0);
        desk.grantPerson(2, 3);
        desk.setLimit(0);
        desk.openCampaign(1);
        desk.pass(3);
        check.is("hinder: the last holder is person 0", desk.stateOf(0), 'w');
        check.is("hinder: the last holder of another right", desk.stateOf(1), 'w');
        check.is("hinder: behind two blocked ones", desk.stateOf(2), 'x');
        check.is("hinder: the last", desk.stateOf(3), 'x');
        check.is("hinder: denied to person 0", desk.isDenied(0, 2), true);
        check.is("hinder: denied to person 3 too", desk.isDenied(3, 2), true);
        check.is("hinder: not denied to others", desk.isDenied(2, 2), false);
        check.is("hinder: entries", desk.entries(), 6);
    }

    private void silenceIsWholeBeforeAnEnd() {
        Recertify desk = Desks.withPeople(3);
        desk.addRight(6, 0, false);
        desk.grantPerson(0, 0);
        desk.grantPerson(0, 1);
        desk.setGrace(0);
        desk.setLimit(301);
        desk.openCampaign(2);
        desk.pass(1);
        check.is("silence: not before the deadline", desk.undecided(), 2);
        desk.pass(1);
        check.is("silence: first", desk.verdict(0), 'k');
        check.is("silence: second", desk.verdict(1), 'k');
        desk.setLimit(300);
        desk.openCampaign(1);
        desk.pass(1);
        check.is("silence: r at the limit", desk.verdict(0), 'r');
        check.is("silence: all decided before an end", desk.signAt(3), 'r');
        check.is("silence: ends afterwards, on this day", desk.signAt(4), 'x');
        check.is("silence: both ended", desk.holdersOf(0), 0);
    }

    private void silenceTakesTheRiskThen() {
        Recertify desk = Desks.withPeople(2);
        desk.addRight(2, 0, false);
        desk.grantPerson(0, 1);
        desk.setLimit(250);
        desk.openCampaign(30);
        desk.pass(30);
        check.is("silence: with 50 for disuse on the deadline", desk.verdict(0), 'r');
        check.is("silence: due day", desk.dueDay(0), 32);
    }

    private void throwingChangesNothing() {
        Recertify desk = Desks.withRights(3, 1);
        desk.grantPerson(0, 1);
        desk.openCampaign(5);
        desk.setGrace(0);
        check.fails("nothing: answer", UnsupportedOperationException.class, () -> desk.answer(2, 0, 'r'));
        check.fails("nothing: openCampaign", IllegalStateException.class, () -> desk.openCampaign(1));
        check.fails("nothing: pass", IllegalArgumentException.class, () -> desk.pass(99));
        check.is("nothing: verdict", desk.verdict(0), 'u');
        check.is("nothing: state", desk.stateOf(0), 'a');
        check.is("nothing: entries", desk.entries(), 0);
        desk.pass(4);
        check.is("nothing: deadline", desk.isOpen(), true);
    }

    public static void main(String[] args) {
        RevocationTest test = new RevocationTest();
        test.promise37And38States();
        test.promise40IsBlocked();
        test.blockedWaitsFurther();
        test.answerLooksAtAllThatAreDue();
        test.orderOfDueDays();
        test.orderOnOneDay();
        test.orderOfLookWhenBothAreDue();
        test.blockedOnesDoNotHinderOthers();
        test.silenceIsWholeBeforeAnEnd();
        test.silenceTakesTheRiskThen();
        test.throwingChangesNothing();
        test.check.end();
    }
}
