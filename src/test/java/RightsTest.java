import java.util.NoSuchElementException;

/** Promises 9 to 12, 23 to 32, 36 and 39. */
final class RightsTest {
    private final Check check = new Check();

    /** Ends the grants of all items that a person may answer, on this day, by which rights become denied. */
    private static void revokeAll(Recertify desk, int reviewer) {
        desk.setGrace(0);
        int items = desk.openCampaign(1);
        for (int item = 0; item < items; item++) {
            desk.answer(reviewer, item, 'r');
        }
    }

    private void promise09AddRight() {
        Recertify desk = Desks.withPeople(1);
        check.fails("9 sensitivity 0", IllegalArgumentException.class, () -> desk.addRight(0, 0, true));
        check.fails("9 sensitivity 10", IllegalArgumentException.class, () -> desk.addRight(10, 5, true));
        check.fails("9 owner 1", NoSuchElementException.class, () -> desk.addRight(1, 1, true));
        check.fails("9 owner -1", NoSuchElementException.class, () -> desk.addRight(9, -1, true));
        for (int right = 0; right < 10; right++) {
            check.is("9 number", desk.addRight(right % 9 + 1, 0, right % 2 == 0), right);
        }
        check.is("9 sensitivity 9", desk.riskFor(0, 8), 900);
        check.fails("9 full", IllegalStateException.class, () -> desk.addRight(1, 0, true));
        check.fails("9 full, owner", NoSuchElementException.class, () -> desk.addRight(1, 1, true));
        check.fails("9 full, sensitivity", IllegalArgumentException.class, () -> desk.addRight(0, 1, true));
        desk.grantPerson(0, 0);
        desk.grantPerson(1, 0);
        check.is("9 vital", desk.isBlocked(0), true);
        check.is("9 not vital", desk.isBlocked(1), false);
    }

    private void promise10GrantPerson() {
        Recertify desk = Desks.withRights(3, 2);
        check.is("10 first", desk.grantPerson(0, 1), 0);
        check.is("10 second", desk.grantPerson(1, 1), 1);
        check.is("10 other person", desk.grantPerson(0, 2), 2);
        check.fails("10 twice", IllegalStateException.class, () -> desk.grantPerson(0, 1));
        check.fails("10 right 2", NoSuchElementException.class, () -> desk.grantPerson(2, 1));
        check.fails("10 right -1", NoSuchElementException.class, () -> desk.grantPerson(-1, 1));
        check.fails("10 person 3", NoSuchElementException.class, () -> desk.grantPerson(0, 3));
        check.fails("10 person -1", NoSuchElementException.class, () -> desk.grantPerson(0, -1));
        desk.openCampaign(1);
        desk.answer(0, 0, 'r');
        check.fails("10 one that waits is active", IllegalStateException.class, () -> desk.grantPerson(0, 1));
        desk.pass(2);
        check.is("10 ended", desk.stateOf(0), 'x');
        check.is("10 denied", desk.isDenied(1, 0), true);
        check.is("10 again", desk.grantPerson(0, 1), 3);
        check.is("10 not denied any more", desk.isDenied(1, 0), false);
        check.is("10 held again", desk.holds(1, 0), true);
        check.is("10 made on this day", desk.lastUse(3), 2);
    }

    private void promise11GrantGroup() {
        Recertify desk = Desks.withGroups(2, 3);
        desk.addRight(1, 0, false);
        desk.addRight(1, 0, false);
        desk.addMember(0, 1);
        check.is("11 first", desk.grantGroup(0, 0), 0);
        check.is("11 empty group", desk.grantGroup(0, 1), 1);
        check.is("11 other right", desk.grantGroup(1, 0), 2);
        check.is("11 its member by person", desk.grantPerson(0, 1), 3);
        check.is("11 person of the same number as the group", desk.grantPerson(0, 0), 4);
        check.fails("11 twice", IllegalStateException.class, () -> desk.grantGroup(0, 1));
        check.fails("11 right 2", NoSuchElementException.class, () -> desk.grantGroup(2, 1));
        check.fails("11 right -1", NoSuchElementException.class, () -> desk.grantGroup(-1, 1));
        check.fails("11 group 3", NoSuchElementException.class, () -> desk.grantGroup(0, 3));
        check.fails("11 group -1", NoSuchElementException.class, () -> desk.grantGroup(0, -1));
        desk.openCampaign(1);
        desk.setGrace(0);
        desk.answer(0, 3, 'r');
        check.is("11 denied to a member", desk.isDenied(1, 0), true);
        desk.answer(0, 0, 'r');
        check.is("11 ended", desk.stateOf(0), 'x');
        check.is("11 again", desk.grantGroup(0, 0), 5);
        check.is("11 a group's grant leaves the right denied", desk.isDenied(1, 0), true);
        check.is("11 not held", desk.holds(1, 0), false);
    }

    private void promise10And11Full() {
        Recertify desk = Desks.withGroups(10, 1);
        desk.addRight(1, 0, false);
        desk.addRight(1, 0, false);
        desk.addRight(1, 0, false);
        for (int grant = 0; grant < 24; grant++) {
            check.is("10 number", desk.grantPerson(grant / 10, grant % 10), grant);
        }
        check.fails("10 full", IllegalStateException.class, () -> desk.grantPerson(2, 9));
        check.fails("11 full", IllegalStateException.class, () -> desk.grantGroup(2, 0));
        check.fails("10 full, person", NoSuchElementException.class, () -> desk.grantPerson(2, 10));
        check.fails("11 full, group", NoSuchElementException.class, () -> desk.grantGroup(2, 1));
        check.is("36 full", desk.grants(), 24);
        check.is("10 full changes nothing", desk.holds(9, 2), false);
    }

    private void promise12Use() {
        Recertify desk = Desks.withGroups(4, 3);
        desk.addRight(1, 0, false);
        desk.addRight(1, 0, false);
        desk.addMember(0, 1);
        desk.addMember(1, 1);
        desk.addMember(2, 2);
        desk.nest(0, 1);
        desk.grantGroup(0, 0);
        desk.grantGroup(0, 2);
        desk.grantPerson(0, 1);
        desk.grantPerson(1, 1);
        desk.grantPerson(0, 3);
        desk.pass(3);
        check.is("12 counts grants, not ways", desk.use(1, 0), 2);
        check.is("12 group's", desk.lastUse(0), 3);
        check.is("12 other group's", desk.lastUse(1), 0);
        check.is("12 person's", desk.lastUse(2), 3);
        check.is("12 other right's", desk.lastUse(3), 0);
        check.is("12 other person's", desk.lastUse(4), 0);
        check.fails("12 not held", IllegalStateException.class, () -> desk.use(0, 0));
        check.fails("12 person 4", NoSuchElementException.class, () -> desk.use(4, 0));
        check.fails("12 person -1", NoSuchElementException.class, () -> desk.use(-1, 0));
        check.fails("12 right 2", NoSuchElementException.class, () -> desk.use(0, 2));
        check.fails("12 right -1", NoSuchElementException.class, () -> desk.use(0, -1));
        desk.openCampaign(1);
        desk.answer(0, 4, 'r');
        check.is("12 one that waits", desk.use(3, 0), 1);
        desk.setGrace(0);
        desk.answer(0, 2, 'r');
        desk.pass(1);
        check.fails("12 denied", IllegalStateException.class, () -> desk.use(1, 0));
        check.is("12 denied, unchanged", desk.lastUse(0), 3);
        desk.grantPerson(0, 1);
        desk.use(1, 0);
        check.is("12 ended ones stay", desk.lastUse(2), 3);
        check.is("12 group's again", desk.lastUse(0), 4);
    }

    private void checkHolding(Recertify desk, int person, int right, boolean due) {
        check.is("23 holds(" + person + ", " + right + ")", desk.holds(person, right), due);
        check.is("24 holdsByPaths(" + person + ", " + right + ")", desk.holdsByPaths(person, right), due);
    }

    private void promise23And24Holds() {
        Recertify desk = Desks.withGroups(4, 8);
        desk.addRight(1, 0, false);
        desk.addRight(1, 0, false);
        for (int group = 0; group < 7; group++) {
            desk.nest(group, group + 1);
        }
        desk.addMember(7, 1);
        desk.addMember(0, 2);
        checkHolding(desk, 1, 0, false);
        desk.grantGroup(0, 1);
        checkHolding(desk, 1, 0, true);
        checkHolding(desk, 2, 0, false);
        desk.grantGroup(0, 0);
        checkHolding(desk, 2, 0, true);
        checkHolding(desk, 2, 1, false);
        desk.grantPerson(0, 1);
        desk.grantPerson(0, 3);
        checkHolding(desk, 3, 0, true);
        desk.openCampaign(1);
        desk.answer(0, 3, 'r');
        checkHolding(desk, 3, 0, true);
        desk.setGrace(0);
        desk.answer(0, 2, 'r');
        checkHolding(desk, 1, 0, false);
        desk.answer(0, 1, 'r');
        checkHolding(desk, 2, 0, false);
        desk.pass(2);
        checkHolding(desk, 3, 0, false);
        check.fails("23 person 4", NoSuchElementException.class, () -> desk.holds(4, 0));
        check.fails("23 person -1", NoSuchElementException.class, () -> desk.holds(-1, 0));
        check.fails("23 right 2", NoSuchElementException.class, () -> desk.holds(0, 2));
        check.fails("23 right -1", NoSuchElementException.class, () -> desk.holds(0, -1));
        check.fails("24 person 4", NoSuchElementException.class, () -> desk.holdsByPaths(4, 0));
        check.fails("24 person -1", NoSuchElementException.class, () -> desk.holdsByPaths(-1, 0));
        check.fails("24 right 2", NoSuchElementException.class, () -> desk.holdsByPaths(0, 2));
        check.fails("24 right -1", NoSuchElementException.class, () -> desk.holdsByPaths(0, -1));
    }

    private void promise25To28Counts() {
        Recertify desk = Desks.withRights(10, 10);
        for (int right = 0; right < 10; right++) {
            desk.grantPerson(right, 0);
        }
        for (int person = 1; person < 10; person++) {
            desk.grantPerson(9, person);
        }
        desk.grantPerson(0, 1);
        desk.grantPerson(1, 2);
        check.is("25 all", desk.rightsOf(0), 10);
        check.is("25 two", desk.rightsOf(1), 2);
        check.is("25 one", desk.rightsOf(3), 1);
        check.is("26 all", desk.holdersOf(9), 10);
        check.is("26 two", desk.holdersOf(0), 2);
        check.is("26 one", desk.holdersOf(2), 1);
        check.is("27 all", desk.rightBits(0), 1023);
        check.is("27 two", desk.rightBits(1), 513);
        check.is("27 one", desk.rightBits(3), 512);
        check.is("28 common ones do not count", desk.apart(1, 2), 2);
        check.is("28 the other way", desk.apart(2, 1), 2);
        check.is("28 to all", desk.apart(0, 3), 9);
        check.is("28 same", desk.apart(4, 4), 0);
        desk.setGrace(0);
        desk.openCampaign(1);
        desk.answer(1, 9, 'r');
        check.is("25 after the end", desk.rightsOf(0), 9);
        check.is("26 after the end", desk.holdersOf(9), 9);
        check.is("27 after the end", desk.rightBits(0), 511);
        check.is("28 after the end", desk.apart(0, 3), 10);
        check.fails("25 person 10", NoSuchElementException.class, () -> desk.rightsOf(10));
        check.fails("25 person -1", NoSuchElementException.class, () -> desk.rightsOf(-1));
        check.fails("26 right 10", NoSuchElementException.class, () -> desk.holdersOf(10));
        check.fails("26 right -1", NoSuchElementException.class, () -> desk.holdersOf(-1));
        check.fails("27 person 10", NoSuchElementException.class, () -> desk.rightBits(10));
        check.fails("27 person -1", NoSuchElementException.class, () -> desk.rightBits(-1));
        check.fails("28 one 10", NoSuchElementException.class, () -> desk.apart(10, 0));
        check.fails("28 other 10", NoSuchElementException.class, () -> desk.apart(0, 10));
        check.fails("28 other -1", NoSuchElementException.class, () -> desk.apart(0, -1));
        check.is("25 nobody", Desks.withRights(1, 1).rightsOf(0), 0);
        check.is("26 nobody", Desks.withRights(1, 1).holdersOf(0), 0);
    }

    private void promise29IsDenied() {
        Recertify desk = Desks.withGroups(3, 1);
        desk.addRight(1, 0, false);
        desk.addRight(1, 0, false);
        desk.addMember(0, 2);
        check.is("29 at first", desk.isDenied(1, 0), false);
        desk.grantPerson(0, 1);
        desk.grantGroup(0, 0);
        revokeAll(desk, 0);
        check.is("29 after a person's grant", desk.isDenied(1, 0), true);
        check.is("29 after a group's grant", desk.isDenied(2, 0), false);
        check.is("29 other right", desk.isDenied(1, 1), false);
        desk.addMember(0, 1);
        desk.grantGroup(0, 0);
        check.is("29 not kept by another path", desk.holds(1, 0), false);
        check.is("29 no holder", desk.holdersOf(0), 1);
        desk.grantPerson(0, 1);
        check.is("29 granted again", desk.isDenied(1, 0), false);
        check.fails("29 person 3", NoSuchElementException.class, () -> desk.isDenied(3, 0));
        check.fails("29 person -1", NoSuchElementException.class, () -> desk.isDenied(-1, 0));
        check.fails("29 right 2", NoSuchElementException.class, () -> desk.isDenied(0, 2));
        check.fails("29 right -1", NoSuchElementException.class, () -> desk.isDenied(0, -1));
    }

    private void promise30Paths() {
        Recertify desk = Desks.withGroups(3, 8);
        desk.addRight(1, 0, false);
        desk.addRight(1, 0, false);
        for (int group = 0; group < 8; group++) {
            for (int inner = group + 1; inner < 8; inner++) {
                desk.nest(group, inner);
            }
        }
        desk.addMember(7, 1);
        check.is("30 no grant", desk.paths(1, 0), 0);
        desk.grantGroup(0, 0);
        check.is("30 every way down", desk.paths(1, 0), 64);
        desk.grantGroup(0, 7);
        desk.grantPerson(0, 1);
        check.is("30 other grants", desk.paths(1, 0), 66);
        check.is("30 other person", desk.paths(2, 0), 0);
        check.is("30 other right", desk.paths(1, 1), 0);
        desk.addMember(0, 1);
        check.is("30 group with the grant itself", desk.paths(1, 0), 67);
        desk.setGrace(0);
        desk.openCampaign(1);
        desk.answer(0, 2, 'r');
        check.is("30 denied or not", desk.paths(1, 0), 66);
        desk.answer(0, 0, 'r');
        check.is("30 active ones", desk.paths(1, 0), 1);
        check.fails("30 person 3", NoSuchElementException.class, () -> desk.paths(3, 0));
        check.fails("30 person -1", NoSuchElementException.class, () -> desk.paths(-1, 0));
        check.fails("30 right 2", NoSuchElementException.class, () -> desk.paths(0, 2));
        check.fails("30 right -1", NoSuchElementException.class, () -> desk.paths(0, -1));
    }

    private void promise31PathLength() {
        Recertify desk = Desks.withGroups(3, 8);
        desk.addRight(1, 0, false);
        desk.addRight(1, 0, false);
        for (int group = 0; group < 7; group++) {
            desk.nest(group, group + 1);
        }
        desk.addMember(7, 1);
        check.fails("31 no grant", IllegalStateException.class, () -> desk.pathLength(1, 0));
        desk.grantGroup(0, 0);
        check.is("31 eight groups", desk.pathLength(1, 0), 8);
        desk.grantGroup(0, 3);
        check.is("31 nearer grant", desk.pathLength(1, 0), 5);
        desk.addMember(6, 1);
        check.is("31 nearer membership", desk.pathLength(1, 0), 4);
        desk.nest(0, 6);
        check.is("31 shorter way", desk.pathLength(1, 0), 2);
        desk.grantGroup(0, 7);
        check.is("31 own group", desk.pathLength(1, 0), 1);
        desk.grantPerson(0, 1);
        check.is("31 own grant", desk.pathLength(1, 0), 0);
        check.fails("31 other person", IllegalStateException.class, () -> desk.pathLength(2, 0));
        check.fails("31 other right", IllegalStateException.class, () -> desk.pathLength(1, 1));
        desk.setGrace(0);
        desk.openCampaign(1);
        desk.answer(0, 3, 'r');
        check.is("31 denied or not", desk.pathLength(1, 0), 1);
        check.fails("31 person 3", NoSuchElementException.class, () -> desk.pathLength(3, 0));
        check.fails("31 person -1", NoSuchElementException.class, () -> desk.pathLength(-1, 0));
        check.fails("31 right 2", NoSuchElementException.class, () -> desk.pathLength(0, 2));
        check.fails("31 right -1", NoSuchElementException.class, () -> desk.pathLength(0, -1));
    }

    private void checkPath(Recertify desk, int person, int... due) {
        check.is("32 length", desk.pathLength(person, 0), due.length);
        for (int index = 0; index < due.length; index++) {
            check.is("32 index " + index, desk.pathAt(person, 0, index), due[index]);
        }
        check.fails("32 behind the end", IndexOutOfBoundsException.class, () -> desk.pathAt(person, 0, due.length));
        check.fails("32 before 0", IndexOutOfBoundsException.class, () -> desk.pathAt(person, 0, -1));
    }

    private void promise32PathAt() {
        Recertify desk = Desks.withGroups(3, 8);
        desk.addRight(1, 0, false);
        desk.addMember(6, 1);
        desk.addMember(1, 1);
        desk.nest(7, 5);
        desk.nest(7, 3);
        desk.nest(5, 1);
        desk.nest(3, 6);
        desk.grantGroup(0, 7);
        checkPath(desk, 1, 7, 3, 6);
        desk.nest(4, 5);
        desk.grantGroup(0, 4);
        checkPath(desk, 1, 4, 5, 1);
        desk.nest(4, 0);
        desk.nest(0, 2);
        desk.nest(2, 6);
        checkPath(desk, 1, 4, 5, 1);
        desk.nest(7, 6);
        checkPath(desk, 1, 7, 6);
        desk.nest(7, 1);
        checkPath(desk, 1, 7, 1);
        desk.grantGroup(0, 6);
        checkPath(desk, 1, 6);
        desk.grantPerson(0, 1);
        checkPath(desk, 1);
        check.fails("32 not reached", IllegalStateException.class, () -> desk.pathAt(2, 0, 0));
        check.fails("32 not reached, index", IllegalStateException.class, () -> desk.pathAt(2, 0, -1));
        check.fails("32 person 3", NoSuchElementException.class, () -> desk.pathAt(3, 0, 0));
        check.fails("32 person -1", NoSuchElementException.class, () -> desk.pathAt(-1, 0, 0));
        check.fails("32 right 1", NoSuchElementException.class, () -> desk.pathAt(0, 1, 0));
        check.fails("32 right -1", NoSuchElementException.class, () -> desk.pathAt(0, -1, 9));
    }

    private void promise30To32GroupZeroLast() {
        Recertify desk = Desks.withGroups(2, 3);
        desk.addRight(1, 0, false);
        desk.nest(2, 1);
        desk.nest(1, 0);
        desk.addMember(0, 1);
        desk.grantGroup(0, 2);
        check.is("30 group 0 at the end", desk.paths(1, 0), 1);
        checkPath(desk, 1, 2, 1, 0);
    }

    private void promise36Grants() {
        Recertify desk = Desks.withRights(2, 1);
        check.is("36 none", desk.grants(), 0);
        desk.grantPerson(0, 1);
        check.is("36 one", desk.grants(), 1);
        revokeAll(desk, 0);
        check.is("36 ended ones count", desk.grants(), 1);
        desk.grantPerson(0, 1);
        check.is("36 two", desk.grants(), 2);
    }

    private void promise39LastUse() {
        Recertify desk = Desks.withRights(2, 1);
        desk.pass(4);
        desk.grantPerson(0, 1);
        check.is("39 made", desk.lastUse(0), 4);
        desk.pass(3);
        check.is("39 not used", desk.lastUse(0), 4);
        desk.use(1, 0);
        check.is("39 used", desk.lastUse(0), 7);
        desk.pass(1);
        revokeAll(desk, 0);
        check.is("39 ended", desk.lastUse(0), 7);
        check.fails("39 grant 1", NoSuchElementException.class, () -> desk.lastUse(1));
        check.fails("39 grant -1", NoSuchElementException.class, () -> desk.lastUse(-1));
    }

    public static void main(String[] args) {
        RightsTest test = new RightsTest();
        test.promise09AddRight();
        test.promise10GrantPerson();
        test.promise11GrantGroup();
        test.promise10And11Full();
        test.promise12Use();
        test.promise23And24Holds();
        test.promise25To28Counts();
        test.promise29IsDenied();
        test.promise30Paths();
        test.promise31PathLength();
        test.promise32PathAt();
        test.promise30To32GroupZeroLast();
        test.promise36Grants();
        test.promise39LastUse();
        test.check.end();
    }
}
