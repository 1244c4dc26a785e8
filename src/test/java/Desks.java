/** Desks that several tests begin with. */
final class Desks {
    private Desks() {
    }

    /** People without managers, all in department 0. */
    static Recertify withPeople(int count) {
        Recertify desk = new Recertify();
        for (int person = 0; person < count; person++) {
            desk.addPerson(0, -1);
        }
        return desk;
    }

    /** People as above, and groups of the owner 0. */
    static Recertify withGroups(int people, int count) {
        Recertify desk = withPeople(people);
        for (int group = 0; group < count; group++) {
            desk.addGroup(0);
        }
        return desk;
    }

    /** People as above, and rights of the sensitivity 1 and the owner 0 that are not vital. */
    static Recertify withRights(int people, int count) {
        Recertify desk = withPeople(people);
        for (int right = 0; right < count; right++) {
            desk.addRight(1, 0, false);
        }
        return desk;
    }

    /** Nests each of the groups from 0 in all that have a lower number. */
    static void nestAll(Recertify desk, int groups) {
        for (int group = 0; group < groups; group++) {
            for (int inner = group + 1; inner < groups; inner++) {
                desk.nest(group, inner);
            }
        }
    }

    /** Has the reviewers end all grants on this day; each needs a reviewer, and none may be of a vital right. */
    static void revokeAll(Recertify desk) {
        int grace = desk.setGrace(0);
        int items = desk.openCampaign(1);
        for (int item = 0; item < items; item++) {
            desk.answer(desk.reviewerOf(desk.grantOf(item)), item, 'r');
        }
        desk.setGrace(grace);
    }

    /** Ten people, each with a grant of the rights 0 and 1, and four of them with one of the right 2 too. */
    static Recertify withTwentyFourGrants() {
        Recertify desk = withRights(10, 3);
        for (int grant = 0; grant < 24; grant++) {
            desk.grantPerson(grant / 10, grant % 10);
        }
        return desk;
    }
}
