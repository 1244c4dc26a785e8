import java.util.NoSuchElementException;

/** Promises 1 to 4, 18 to 20. */
final class PeopleTest {
    private final Check check = new Check();

    private void promise01NewObject() {
        Recertify desk = new Recertify();
        check.is("1 people", desk.people(), 0);
        check.is("1 grants", desk.grants(), 0);
        check.is("1 day", desk.day(), 0);
        check.is("1 items", desk.items(), 0);
        check.is("1 isOpen", desk.isOpen(), false);
        check.is("1 undecided", desk.undecided(), 0);
        check.is("1 entries", desk.entries(), 0);
        check.is("1 trace", desk.trace(), 0L);
        check.fails("1 members", NoSuchElementException.class, () -> desk.members(0));
        check.fails("1 holdersOf", NoSuchElementException.class, () -> desk.holdersOf(0));
        check.is("1 limit", desk.setLimit(0), 300);
        check.is("1 grace", desk.setGrace(0), 2);
        desk.addPerson(0, -1);
        check.is("1 objects share nothing", new Recertify().people(), 0);
    }

    private void promise02AddPerson() {
        Recertify desk = new Recertify();
        check.fails("2 department -1", IllegalArgumentException.class, () -> desk.addPerson(-1, -1));
        check.fails("2 department 4", IllegalArgumentException.class, () -> desk.addPerson(4, 7));
        check.fails("2 manager 0 of the first", NoSuchElementException.class, () -> desk.addPerson(0, 0));
        check.fails("2 manager -2", NoSuchElementException.class, () -> desk.addPerson(0, -2));
        check.is("2 first", desk.addPerson(0, -1), 0);
        check.is("2 department 3", desk.addPerson(3, 0), 1);
        check.fails("2 own manager", NoSuchElementException.class, () -> desk.addPerson(0, 2));
        for (int person = 2; person < 10; person++) {
            check.is("2 next", desk.addPerson(person % 4, person - 1), person);
        }
        check.fails("2 full", IllegalStateException.class, () -> desk.addPerson(0, -1));
        check.fails("2 full, manager", NoSuchElementException.class, () -> desk.addPerson(0, 10));
        check.fails("2 full, department", IllegalArgumentException.class, () -> desk.addPerson(5, 10));
        check.is("2 people", desk.people(), 10);
    }

    private void promise03SetAbsent() {
        Recertify desk = Desks.withPeople(2);
        check.is("3 at first", desk.setAbsent(1, false), false);
        check.is("3 to absent", desk.setAbsent(1, true), false);
        check.is("3 again", desk.setAbsent(1, true), true);
        check.is("3 back", desk.setAbsent(1, false), true);
        check.is("3 other", desk.setAbsent(0, true), false);
        check.fails("3 person 2", NoSuchElementException.class, () -> desk.setAbsent(2, true));
        check.fails("3 person -1", NoSuchElementException.class, () -> desk.setAbsent(-1, true));
    }

    private void promise04SetSubstitute() {
        Recertify desk = Desks.withPeople(3);
        check.is("4 at first", desk.setSubstitute(0, 1), -1);
        check.is("4 change", desk.setSubstitute(0, 2), 1);
        check.is("4 none", desk.setSubstitute(0, -1), 2);
        check.is("4 after none", desk.setSubstitute(0, 1), -1);
        check.fails("4 same", IllegalArgumentException.class, () -> desk.setSubstitute(1, 1));
        check.fails("4 person 3", NoSuchElementException.class, () -> desk.setSubstitute(3, 0));
        check.fails("4 person -1", NoSuchElementException.class, () -> desk.setSubstitute(-1, -1));
        check.fails("4 both 3", NoSuchElementException.class, () -> desk.setSubstitute(3, 3));
        check.fails("4 substitute 3", NoSuchElementException.class, () -> desk.setSubstitute(0, 3));
        check.fails("4 substitute -2", NoSuchElementException.class, () -> desk.setSubstitute(0, -2));
        check.is("4 unchanged", desk.setSubstitute(0, 1), 1);
    }

    private void promise18People() {
        Recertify desk = new Recertify();
        check.is("18 none", desk.people(), 0);
        desk.addPerson(1, -1);
        check.is("18 one", desk.people(), 1);
        check.fails("18 refused", IllegalArgumentException.class, () -> desk.addPerson(9, -1));
        check.is("18 still one", desk.people(), 1);
        desk.addPerson(1, 0);
        check.is("18 two", desk.people(), 2);
    }

    private void promise19Day() {
        Recertify desk = new Recertify();
        check.is("19 at first", desk.day(), 0);
        desk.pass(1);
        check.is("19 after 1", desk.day(), 1);
        desk.pass(30);
        check.is("19 after 31", desk.day(), 31);
        check.fails("19 refused", IllegalArgumentException.class, () -> desk.pass(31));
        check.is("19 still 31", desk.day(), 31);
    }

    private void promise20StandIn() {
        Recertify desk = Desks.withPeople(5);
        desk.setSubstitute(0, 1);
        check.is("20 present", desk.standIn(0), 0);
        desk.setAbsent(0, true);
        check.is("20 substitute", desk.standIn(0), 1);
        desk.setAbsent(1, true);
        check.is("20 no substitute's substitute", desk.standIn(0), -1);
        desk.setSubstitute(1, 2);
        check.is("20 substitute's substitute", desk.standIn(0), 2);
        desk.setAbsent(2, true);
        desk.setSubstitute(2, 1);
        check.is("20 circle that the person is not in", desk.standIn(0), -1);
        check.is("20 circle", desk.standIn(1), -1);
        desk.setSubstitute(2, 3);
        desk.setSubstitute(3, 4);
        desk.setAbsent(3, true);
        check.is("20 longest chain", desk.standIn(0), 4);
        desk.setAbsent(4, true);
        desk.setSubstitute(4, 0);
        check.is("20 circle of all", desk.standIn(0), -1);
        desk.setAbsent(0, false);
        check.is("20 round to the first", desk.standIn(1), 0);
        check.fails("20 person 5", NoSuchElementException.class, () -> desk.standIn(5));
        check.fails("20 person -1", NoSuchElementException.class, () -> desk.standIn(-1));
    }

    public static void main(String[] args) {
        PeopleTest test = new PeopleTest();
        test.promise01NewObject();
        test.promise02AddPerson();
        test.promise03SetAbsent();
        test.promise04SetSubstitute();
        test.promise18People();
        test.promise19Day();
        test.promise20StandIn();
        test.check.end();
    }
}
