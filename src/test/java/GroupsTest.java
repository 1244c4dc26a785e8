import java.util.NoSuchElementException;

/** Promises 5 to 8, 21 and 22. */
final class GroupsTest {
    private final Check check = new Check();

    private void promise05AddGroup() {
        Recertify desk = Desks.withPeople(2);
        check.fails("5 owner 2", NoSuchElementException.class, () -> desk.addGroup(2));
        check.fails("5 owner -1", NoSuchElementException.class, () -> desk.addGroup(-1));
        for (int group = 0; group < 8; group++) {
            check.is("5 number", desk.addGroup(group % 2), group);
            check.is("5 no members", desk.members(group), 0);
            check.is("5 owner is no member", desk.isMember(group, group % 2), false);
        }
        check.fails("5 full", IllegalStateException.class, () -> desk.addGroup(0));
        check.fails("5 full, owner", NoSuchElementException.class, () -> desk.addGroup(2));
    }

    private void promise06AddMember() {
        Recertify desk = Desks.withGroups(10, 2);
        for (int person = 0; person < 10; person++) {
            check.is("6 count", desk.addMember(0, 9 - person), person + 1);
        }
        check.fails("6 twice", IllegalStateException.class, () -> desk.addMember(0, 4));
        check.is("6 other group", desk.addMember(1, 4), 1);
        check.fails("6 group 2", NoSuchElementException.class, () -> desk.addMember(2, 0));
        check.fails("6 group -1", NoSuchElementException.class, () -> desk.addMember(-1, 0));
        check.fails("6 person 10", NoSuchElementException.class, () -> desk.addMember(0, 10));
        check.fails("6 person -1", NoSuchElementException.class, () -> desk.addMember(0, -1));
        desk.nest(1, 0);
        check.is("6 counts direct members, who may be members otherwise", desk.addMember(1, 0), 2);
    }

    private void promise07RemoveMember() {
        Recertify desk = Desks.withGroups(3, 2);
        desk.addMember(0, 0);
        desk.addMember(0, 1);
        desk.nest(1, 0);
        check.fails("7 member by nesting", IllegalStateException.class, () -> desk.removeMember(1, 0));
        check.is("7 two to one", desk.removeMember(0, 0), 1);
        check.fails("7 twice", IllegalStateException.class, () -> desk.removeMember(0, 0));
        check.is("7 no member", desk.isMember(0, 0), false);
        check.is("7 no member above", desk.isMember(1, 0), false);
        check.is("7 other stays above", desk.isMember(1, 1), true);
        check.is("7 one to none", desk.removeMember(0, 1), 0);
        check.is("7 and again a member", desk.addMember(0, 0), 1);
        check.fails("7 group 2", NoSuchElementException.class, () -> desk.removeMember(2, 0));
        check.fails("7 group -1", NoSuchElementException.class, () -> desk.removeMember(-1, 0));
        check.fails("7 person 3", NoSuchElementException.class, () -> desk.removeMember(0, 3));
        check.fails("7 person -1", NoSuchElementException.class, () -> desk.removeMember(0, -1));
    }

    private void promise08Nest() {
        Recertify desk = Desks.withGroups(1, 5);
        check.fails("8 same", UnsupportedOperationException.class, () -> desk.nest(0, 0));
        check.is("8 first", desk.nest(0, 1), 1);
        check.fails("8 twice", IllegalStateException.class, () -> desk.nest(0, 1));
        check.fails("8 circle of two", UnsupportedOperationException.class, () -> desk.nest(1, 0));
        check.is("8 chain", desk.nest(1, 2), 1);
        check.is("8 chain", desk.nest(2, 3), 1);
        check.fails("8 circle of four", UnsupportedOperationException.class, () -> desk.nest(3, 0));
        check.fails("8 circle of three", UnsupportedOperationException.class, () -> desk.nest(3, 1));
        check.is("8 again by a shorter way", desk.nest(0, 3), 2);
        check.is("8 not in a circle", desk.nest(4, 0), 1);
        check.fails("8 group 5", NoSuchElementException.class, () -> desk.nest(5, 0));
        check.fails("8 group -1", NoSuchElementException.class, () -> desk.nest(-1, 0));
        check.fails("8 inner 5", NoSuchElementException.class, () -> desk.nest(0, 5));
        check.fails("8 both 5", NoSuchElementException.class, () -> desk.nest(5, 5));
        Recertify downward = Desks.withGroups(1, 8);
        for (int group = 7; group > 0; group--) {
            check.is("8 chain of eight", downward.nest(group, group - 1), 1);
        }
        check.fails("8 circle of eight", UnsupportedOperationException.class, () -> downward.nest(0, 7));
    }

    private void promise21IsMember() {
        Recertify desk = Desks.withGroups(3, 8);
        desk.addMember(0, 1);
        for (int group = 7; group > 0; group--) {
            desk.nest(group, group - 1);
        }
        check.is("21 direct", desk.isMember(0, 1), true);
        check.is("21 seven groups below", desk.isMember(7, 1), true);
        check.is("21 other person", desk.isMember(7, 0), false);
        desk.addMember(7, 2);
        check.is("21 not downward", desk.isMember(6, 2), false);
        desk.removeMember(0, 1);
        check.is("21 removed", desk.isMember(7, 1), false);
        check.fails("21 group 8", NoSuchElementException.class, () -> desk.isMember(8, 0));
        check.fails("21 group -1", NoSuchElementException.class, () -> desk.isMember(-1, 0));
        check.fails("21 person 3", NoSuchElementException.class, () -> desk.isMember(0, 3));
        check.fails("21 person -1", NoSuchElementException.class, () -> desk.isMember(0, -1));
    }

    private void promise22Members() {
        Recertify desk = Desks.withGroups(4, 4);
        desk.addMember(0, 0);
        desk.addMember(1, 0);
        desk.addMember(1, 1);
        desk.addMember(3, 2);
        check.is("22 direct", desk.members(0), 1);
        desk.nest(0, 1);
        check.is("22 one who is in both counts once", desk.members(0), 2);
        desk.nest(2, 3);
        desk.nest(1, 2);
        check.is("22 nested later, further below", desk.members(0), 3);
        check.is("22 only by nesting", desk.members(2), 1);
        desk.removeMember(1, 0);
        check.is("22 still in one", desk.members(0), 3);
        check.is("22 no longer in the other", desk.members(1), 2);
        check.fails("22 group 4", NoSuchElementException.class, () -> desk.members(4));
        check.fails("22 group -1", NoSuchElementException.class, () -> desk.members(-1));
    }

    public static void main(String[] args) {
        GroupsTest test = new GroupsTest();
        test.promise05AddGroup();
        test.promise06AddMember();
        test.promise07RemoveMember();
        test.promise08Nest();
        test.promise21IsMember();
        test.promise22Members();
        test.check.end();
    }
}
