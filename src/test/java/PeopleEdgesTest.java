import java.util.NoSuchElementException;

/** The sentences under "People" and "Groups" that name a boundary case, one by one. */
final class PeopleEdgesTest {
    private final Check check = new Check();

    private void atMostTenPeople() {
        check.sentence("At most 10 people have numbers from 0");
        Recertify desk = new Recertify();
        for (int person = 0; person < 10; person++) {
            int number = person;
            check.fails("not there yet " + person, NoSuchElementException.class, () -> desk.standIn(number));
            check.is("number", desk.addPerson(0, -1), person);
            check.is("there", desk.standIn(person), person);
        }
        check.fails("one more", IllegalStateException.class, () -> desk.addPerson(0, -1));
        check.fails("one more with a manager", IllegalStateException.class, () -> desk.addPerson(3, 9));
        check.is("people", desk.people(), 10);
        check.fails("person 10", NoSuchElementException.class, () -> desk.standIn(10));
    }

    private void departments() {
        check.sentence("A person has a department from 0 to 3");
        Recertify desk = new Recertify();
        int[] wrong = {Integer.MIN_VALUE, -1, 4, Integer.MAX_VALUE};
        for (int department : wrong) {
            check.fails("department " + department, IllegalArgumentException.class,
                () -> desk.addPerson(department, -1));
        }
        check.is("nobody was added", desk.people(), 0);
        for (int department = 0; department <= 3; department++) {
            check.is("department " + department, desk.addPerson(department, -1), department);
        }
        desk.addRight(1, 0, false);
        for (int person = 0; person <= 3; person++) {
            desk.grantPerson(0, person);
            check.is("all departments differ", desk.riskFor(person, 0), 100);
        }
        for (int department = 0; department <= 3; department++) {
            int person = desk.addPerson(department, -1);
            check.is("one peer, who holds it", desk.riskFor(person, 0), 0);
            check.is("one peer, who does not hold it", desk.riskFor(department, 0), 100);
        }
    }

    private void managers() {
        check.sentence("perhaps a manager, who was added before");
        Recertify desk = new Recertify();
        int[] never = {Integer.MIN_VALUE, -2, Integer.MAX_VALUE};
        for (int person = 0; person < 10; person++) {
            int own = person;
            for (int manager : never) {
                check.fails("manager " + manager, NoSuchElementException.class, () -> desk.addPerson(0, manager));
            }
            check.fails("their own manager", NoSuchElementException.class, () -> desk.addPerson(0, own));
            check.fails("one who comes later", NoSuchElementException.class, () -> desk.addPerson(0, own + 1));
            check.is("the one before, or none", desk.addPerson(0, person - 1), person);
        }
        desk.addRight(1, 5, false);
        for (int person = 0; person < 10; person++) {
            desk.grantPerson(0, person);
        }
        check.is("without a manager: the owner", desk.reviewerOf(0), 5);
        for (int person = 1; person < 10; person++) {
            check.is("manager of " + person, desk.reviewerOf(person), person - 1);
        }
    }

    private void substituteIsAnotherPerson() {
        check.sentence("can have a substitute, another person");
        Recertify desk = Desks.withPeople(10);
        for (int person = 0; person < 10; person++) {
            int own = person;
            check.fails("themselves", IllegalArgumentException.class, () -> desk.setSubstitute(own, own));
            check.is("none at first", desk.setSubstitute(person, 9 - person), -1);
            check.fails("themselves again", IllegalArgumentException.class, () -> desk.setSubstitute(own, own));
            check.is("the one before is kept", desk.setSubstitute(person, -1), 9 - person);
            check.is("none", desk.setSubstitute(person, -1), -1);
        }
    }

    private void presentPersonIsTheirOwnStandIn() {
        check.sentence("The stand-in of a person is this person if not absent");
        Recertify desk = Desks.withPeople(2);
        check.is("without a substitute", desk.standIn(0), 0);
        desk.setSubstitute(0, 1);
        check.is("in spite of a substitute", desk.standIn(0), 0);
        desk.setAbsent(0, true);
        check.is("absent", desk.standIn(0), 1);
        desk.setAbsent(0, false);
        check.is("back", desk.standIn(0), 0);
    }

    private void firstPresentSubstitute() {
        check.sentence("otherwise it is the first one who is not absent of the substitute, the substitute's "
            + "substitute, and so on");
        Recertify desk = Desks.withPeople(10);
        for (int person = 0; person < 9; person++) {
            desk.setSubstitute(person, person + 1);
            desk.setAbsent(person, true);
        }
        check.is("the last of ten", desk.standIn(0), 9);
        desk.setAbsent(4, false);
        check.is("the first who is present, not the last", desk.standIn(0), 4);
        check.is("behind this one", desk.standIn(5), 9);
    }

    private void nobodyWithoutSubstitute() {
        check.sentence("there is none if somebody without a substitute [..] comes first");
        Recertify desk = Desks.withPeople(10);
        for (int person = 9; person > 0; person--) {
            desk.setAbsent(person, true);
            check.is("absent without a substitute", desk.standIn(person), -1);
            desk.setSubstitute(person, person - 1);
        }
        check.is("a chain of ten, person 0 is present", desk.standIn(9), 0);
        desk.setAbsent(0, true);
        check.is("a chain of ten, all are absent", desk.standIn(9), -1);
        desk.setAbsent(0, false);
        desk.setSubstitute(5, -1);
        check.is("a chain that is cut", desk.standIn(9), -1);
        check.is("behind the cut", desk.standIn(4), 0);
    }

    private void nobodyInACircle() {
        check.sentence("or somebody who was passed already, comes first");
        Recertify desk = Desks.withPeople(10);
        for (int person = 0; person < 10; person++) {
            desk.setAbsent(person, true);
            desk.setSubstitute(person, (person + 1) % 10);
        }
        for (int person = 0; person < 10; person++) {
            check.is("a circle of ten", desk.standIn(person), -1);
        }
        desk.setAbsent(0, false);
        check.is("a circle of ten with one who is present, nine further on", desk.standIn(1), 0);
        desk.setSubstitute(9, 8);
        check.is("a circle of the last two", desk.standIn(1), -1);
        check.is("a circle of two", desk.standIn(9), -1);
        check.is("the one outside of the circle is present", desk.standIn(0), 0);
    }

    private void atMostEightGroups() {
        check.sentence("At most 8 groups have numbers from 0");
        Recertify desk = Desks.withPeople(1);
        for (int group = 0; group < 8; group++) {
            int number = group;
            check.fails("not there yet " + group, NoSuchElementException.class, () -> desk.members(number));
            check.is("number", desk.addGroup(0), group);
            check.is("there", desk.members(group), 0);
        }
        check.fails("one more", IllegalStateException.class, () -> desk.addGroup(0));
        check.fails("group 8", NoSuchElementException.class, () -> desk.members(8));
    }

    private void ownerNeedNotBeMember() {
        check.sentence("A group has an owner, a person, who need not be a member");
        Recertify desk = Desks.withPeople(10);
        check.is("group of the last person", desk.addGroup(9), 0);
        check.is("no member", desk.isMember(0, 9), false);
        check.is("no members", desk.members(0), 0);
        check.is("but can be one", desk.addMember(0, 9), 1);
        check.is("and can leave", desk.removeMember(0, 9), 0);
    }

    private void neverInACircle() {
        check.sentence("groups can be nested in groups, never in a circle");
        Recertify desk = Desks.withGroups(1, 8);
        for (int group = 0; group < 8; group++) {
            int own = group;
            check.fails("in itself", UnsupportedOperationException.class, () -> desk.nest(own, own));
        }
        for (int group = 0; group < 7; group++) {
            check.is("nested", desk.nest(group, group + 1), 1);
            for (int outer = 0; outer <= group; outer++) {
                int inner = outer;
                int last = group + 1;
                check.fails("circle from " + inner + " to " + last, UnsupportedOperationException.class,
                    () -> desk.nest(last, inner));
            }
        }
        check.is("a second way is no circle", desk.nest(0, 7), 2);
        desk.addMember(0, 0);
        check.is("nothing was nested by a refused call", desk.members(7), 0);
    }

    private void directlyNestedTwice() {
        check.sentence("if it is nested directly in it already");
        Recertify desk = Desks.withGroups(1, 8);
        for (int inner = 1; inner < 8; inner++) {
            int number = inner;
            check.is("groups nested in it", desk.nest(0, inner), inner);
            check.fails("twice", IllegalStateException.class, () -> desk.nest(0, number));
        }
        check.is("nested in it, and now in one of these too", desk.nest(1, 2), 1);
        check.is("not directly before", desk.nest(2, 7), 1);
        check.is("nor here", desk.nest(1, 7), 2);
    }

    private void membersOfNestedGroups() {
        check.sentence("The members of a group are its direct members and the members of the groups that are nested "
            + "in it");
        Recertify desk = Desks.withGroups(10, 8);
        for (int group = 7; group > 0; group--) {
            desk.nest(group, group - 1);
        }
        for (int group = 0; group < 8; group++) {
            check.is("nobody", desk.members(group), 0);
        }
        for (int person = 0; person < 10; person++) {
            desk.addMember(Math.min(person, 7), person);
        }
        for (int group = 0; group < 7; group++) {
            check.is("members of " + group, desk.members(group), group + 1);
            check.is("the highest of " + group, desk.isMember(group, group), true);
            check.is("not the next above " + group, desk.isMember(group, group + 1), false);
        }
        check.is("all ten", desk.members(7), 10);
        check.is("the first, by eight groups", desk.isMember(7, 0), true);
        desk.removeMember(0, 0);
        check.is("all but the first", desk.members(7), 9);
        check.is("the lowest group is empty", desk.members(0), 0);
    }

    private void directMembersAreCounted() {
        check.sentence("Returns the number of direct members after the call");
        Recertify desk = Desks.withGroups(10, 2);
        desk.nest(1, 0);
        for (int person = 0; person < 10; person++) {
            int number = person;
            check.is("into the inner group", desk.addMember(0, person), person + 1);
            check.fails("twice", IllegalStateException.class, () -> desk.addMember(0, number));
            check.fails("out of the outer group", IllegalStateException.class, () -> desk.removeMember(1, number));
        }
        check.is("into the outer group, a member of the inner one", desk.addMember(1, 9), 1);
        check.is("out of the outer group", desk.removeMember(1, 9), 0);
        for (int person = 0; person < 10; person++) {
            int number = person;
            check.is("out of the inner group", desk.removeMember(0, person), 9 - person);
            check.fails("twice", IllegalStateException.class, () -> desk.removeMember(0, number));
        }
        check.is("nobody is left", desk.members(1), 0);
    }

    public static void main(String[] args) {
        PeopleEdgesTest test = new PeopleEdgesTest();
        test.atMostTenPeople();
        test.departments();
        test.managers();
        test.substituteIsAnotherPerson();
        test.presentPersonIsTheirOwnStandIn();
        test.firstPresentSubstitute();
        test.nobodyWithoutSubstitute();
        test.nobodyInACircle();
        test.atMostEightGroups();
        test.ownerNeedNotBeMember();
        test.neverInACircle();
        test.directlyNestedTwice();
        test.membersOfNestedGroups();
        test.directMembersAreCounted();
        test.check.end();
    }
}
