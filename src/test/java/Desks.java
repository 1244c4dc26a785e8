/** Desks that several tests begin with. */
final class Desks {
    private Desks() {
    }

    /** People without managers, all in department 0. */
    static Recertify withPeople(int count) {
        Recertify desk = new Recertify();
        for (int person = 0; person < count; person++) {
            desk.addPerson(0, -1);
        }
        return desk;
    }

    /** People as above, and groups of the owner 0. */
    static Recertify withGroups(int people, int count) {
        Recertify desk = withPeople(people);
        for (int group = 0; group < count; group++) {
            desk.addGroup(0);
        }
        return desk;
    }

    /** People as above, and rights of the sensitivity 1 and the owner 0 that are not vital. */
    static Recertify withRights(int people, int count) {
        Recertify desk = withPeople(people);
        for (int right = 0; right < count; right++) {
            desk.addRight(1, 0, false);
        }
        return desk;
    }
}
