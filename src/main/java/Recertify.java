import java.util.NoSuchElementException;

/**
 * An access review desk: rights are granted to people and to groups in groups, a campaign asks reviewers whether
 * each grant is kept, silence decides at the deadline, revocations wait and must not cut the last holder, and all
 * decisions are kept as sealed evidence.
 *
 * <p>Sets of people, groups and rights are held as bits of an int, since each has fewer than 32 numbers.
 */
public final class Recertify {
    private static final int NONE = -1;

    private static final int MOST_PEOPLE = 10;
    private static final int MOST_GROUPS = 8;
    private static final int MOST_RIGHTS = 10;
    private static final int MOST_GRANTS = 24;
    private static final int MOST_ENTRIES = 99;

    private static final int HIGHEST_DEPARTMENT = 3;
    private static final int HIGHEST_SENSITIVITY = 9;
    private static final int MOST_DAYS = 30;
    private static final int HIGHEST_LIMIT = 999;
    private static final int LONGEST_GRACE = 10;

    private static final int RISK_PER_SENSITIVITY = 100;
    private static final int RISK_OF_DISUSE = 50;
    private static final int DAYS_OF_DISUSE = 30;

    private static final char ACTIVE = 'a';
    private static final char WAITING = 'w';
    private static final char ENDED = 'x';

    private static final char UNDECIDED = 'u';
    private static final char KEEP = 'k';
    private static final char REVOKE = 'r';

    private final People people = new People();
    private final Groups groups = new Groups();
    private final Rights rights = new Rights();
    private final Grants grants = new Grants();
    private final Campaign campaign = new Campaign();
    private final Evidence evidence = new Evidence();
    private int day = 0;
    private int limit = 300;
    private int grace = 2;

    public Recertify() {
    }

    // ---- people

    public int addPerson(int department, int manager)
            throws IllegalArgumentException, NoSuchElementException, IllegalStateException {
        if (department < 0 || department > HIGHEST_DEPARTMENT) {
            throw new IllegalArgumentException("the department is out of range");
        }
        if (manager != NONE) {
            requirePerson(manager);
        }
        if (people.count >= MOST_PEOPLE) {
            throw new IllegalStateException("there is no room for another person");
        }
        return people.add(department, manager);
    }

    public boolean setAbsent(int person, boolean isAbsent) throws NoSuchElementException {
        requirePerson(person);
        boolean before = people.absent[person];
        people.absent[person] = isAbsent;
        return before;
    }

    public int setSubstitute(int person, int substitute) throws NoSuchElementException, IllegalArgumentException {
        requirePerson(person);
        if (substitute != NONE) {
            requirePerson(substitute);
        }
        if (person == substitute) {
            throw new IllegalArgumentException("nobody is their own substitute");
        }
        int before = people.substitutes[person];
        people.substitutes[person] = substitute;
        return before;
    }

    public int people() {
        return people.count;
    }

    public int standIn(int person) throws NoSuchElementException {
        requirePerson(person);
        return people.firstPresent(person);
    }

    // ---- groups

    public int addGroup(int owner) throws NoSuchElementException, IllegalStateException {
        requirePerson(owner);
        if (groups.count >= MOST_GROUPS) {
            throw new IllegalStateException("there is no room for another group");
        }
        return groups.add(owner);
    }

    public int addMember(int group, int person) throws NoSuchElementException, IllegalStateException {
        requireGroup(group);
        requirePerson(person);
        if (contains(groups.direct[group], person)) {
            throw new IllegalStateException("the person is a direct member");
        }
        return groups.setDirect(group, groups.direct[group] | bit(person));
    }

    public int removeMember(int group, int person) throws NoSuchElementException, IllegalStateException {
        requireGroup(group);
        requirePerson(person);
        if (!contains(groups.direct[group], person)) {
            throw new IllegalStateException("the person is not a direct member");
        }
        return groups.setDirect(group, groups.direct[group] & ~bit(person));
    }

    public int nest(int group, int inner)
            throws NoSuchElementException, UnsupportedOperationException, IllegalStateException {
        requireGroup(group);
        requireGroup(inner);
        if (contains(groups.findBelow(inner), group)) {
            throw new UnsupportedOperationException("the groups would be nested in a circle");
        }
        if (contains(groups.nested[group], inner)) {
            throw new IllegalStateException("the group is nested in it already");
        }
        return groups.addNested(group, inner);
    }

    public boolean isMember(int group, int person) throws NoSuchElementException {
        requireGroup(group);
        requirePerson(person);
        return contains(groups.all[group], person);
    }

    public int members(int group) throws NoSuchElementException {
        requireGroup(group);
        return Integer.bitCount(groups.all[group]);
    }

    // ---- rights and grants

    public int addRight(int sensitivity, int owner, boolean isVital)
            throws IllegalArgumentException, NoSuchElementException, IllegalStateException {
        if (sensitivity < 1 || sensitivity > HIGHEST_SENSITIVITY) {
            throw new IllegalArgumentException("the sensitivity is out of range");
        }
        requirePerson(owner);
        if (rights.count >= MOST_RIGHTS) {
            throw new IllegalStateException("there is no room for another right");
        }
        return rights.add(sensitivity, owner, isVital);
    }

    public int grantPerson(int right, int person) throws NoSuchElementException, IllegalStateException {
        requireRight(right);
        requirePerson(person);
        requireRoomForGrant(right, person, NONE);
        rights.denied[right] &= ~bit(person);
        return grants.add(right, person, NONE, day);
    }

    public int grantGroup(int right, int group) throws NoSuchElementException, IllegalStateException {
        requireRight(right);
        requireGroup(group);
        requireRoomForGrant(right, NONE, group);
        return grants.add(right, NONE, group, day);
    }

    public int use(int person, int right) throws NoSuchElementException, IllegalStateException {
        requirePerson(person);
        requireRight(right);
        if (!contains(findHolders(right, NONE), person)) {
            throw new IllegalStateException("the person does not hold the right");
        }
        int used = 0;
        for (int grant = 0; grant < grants.count; grant++) {
            if (grants.isActiveOf(grant, right) && contains(findReached(grant), person)) {
                grants.lastUses[grant] = day;
                used++;
            }
        }
        return used;
    }

    public int grants() {
        return grants.count;
    }

    public char stateOf(int grant) throws NoSuchElementException {
        requireGrant(grant);
        return grants.states[grant];
    }

    public int dueDay(int grant) throws NoSuchElementException, IllegalStateException {
        requireGrant(grant);
        if (grants.states[grant] != WAITING) {
            throw new IllegalStateException("the grant does not wait for its end");
        }
        return grants.dueDays[grant];
    }

    public int lastUse(int grant) throws NoSuchElementException {
        requireGrant(grant);
        return grants.lastUses[grant];
    }

    public boolean isBlocked(int grant) throws NoSuchElementException {
        requireGrant(grant);
        return grants.states[grant] != ENDED && wouldCutLastHolder(grant);
    }

    // ---- holdings

    public boolean holds(int person, int right) throws NoSuchElementException {
        requirePerson(person);
        requireRight(right);
        return contains(findHolders(right, NONE), person);
    }

    public boolean holdsByPaths(int person, int right) throws NoSuchElementException {
        requirePerson(person);
        requireRight(right);
        return !contains(rights.denied[right], person) && countWays(person, right) > 0;
    }

    public int rightsOf(int person) throws NoSuchElementException {
        requirePerson(person);
        return Integer.bitCount(findRights(person));
    }

    public int holdersOf(int right) throws NoSuchElementException {
        requireRight(right);
        return Integer.bitCount(findHolders(right, NONE));
    }

    public int rightBits(int person) throws NoSuchElementException {
        requirePerson(person);
        return findRights(person);
    }

    public int apart(int one, int other) throws NoSuchElementException {
        requirePerson(one);
        requirePerson(other);
        return Integer.bitCount(findRights(one) ^ findRights(other));
    }

    public boolean isDenied(int person, int right) throws NoSuchElementException {
        requirePerson(person);
        requireRight(right);
        return contains(rights.denied[right], person);
    }

    public int paths(int person, int right) throws NoSuchElementException {
        requirePerson(person);
        requireRight(right);
        return countWays(person, right);
    }

    public int pathLength(int person, int right) throws NoSuchElementException, IllegalStateException {
        requirePerson(person);
        requireRight(right);
        int length = findLeastLength(person, right);
        if (length == NONE) {
            throw new IllegalStateException("no active grant of the right reaches the person");
        }
        return length;
    }

    public int pathAt(int person, int right, int index)
            throws NoSuchElementException, IllegalStateException, IndexOutOfBoundsException {
        requirePerson(person);
        requireRight(right);
        int length = findLeastLength(person, right);
        if (length == NONE) {
            throw new IllegalStateException("no active grant of the right reaches the person");
        }
        if (index < 0 || index >= length) {
            throw new IndexOutOfBoundsException("the path has no such index");
        }
        return groups.findOnPath(findGrantedGroups(right), person, length, index);
    }

    // ---- risk and reviewers

    public int riskOf(int grant) throws NoSuchElementException, IllegalStateException {
        requireGrant(grant);
        if (grants.states[grant] == ENDED) {
            throw new IllegalStateException("the grant has ended");
        }
        return rateGrant(grant);
    }

    public int riskFor(int person, int right) throws NoSuchElementException {
        requirePerson(person);
        requireRight(right);
        return rateRight(right, person, findHolders(right, NONE));
    }

    public double meanRisk() throws ArithmeticException {
        int sum = 0;
        int active = 0;
        for (int grant = 0; grant < grants.count; grant++) {
            if (grants.states[grant] != ENDED) {
                sum += rateGrant(grant);
                active++;
            }
        }
        if (active == 0) {
            throw new ArithmeticException("no grant is active");
        }
        return (double) sum / (double) active;
    }

    public int reviewerOf(int grant) throws NoSuchElementException {
        requireGrant(grant);
        return findReviewer(grant);
    }

    // ---- days

    public int day() {
        return day;
    }

    public int pass(int days) throws IllegalArgumentException {
        requireDays(days);
        for (int passed = 0; passed < days; passed++) {
            day++;
            if (campaign.undecided > 0 && day == campaign.deadline) {
                decideBySilence();
            }
            endDueGrants();
        }
        return day;
    }

    public int setLimit(int limit) throws IllegalArgumentException {
        if (limit < 0 || limit > HIGHEST_LIMIT) {
            throw new IllegalArgumentException("the limit is out of range");
        }
        int before = this.limit;
        this.limit = limit;
        return before;
    }

    public int setGrace(int days) throws IllegalArgumentException {
        if (days < 0 || days > LONGEST_GRACE) {
            throw new IllegalArgumentException("the number of days is out of range");
        }
        int before = grace;
        grace = days;
        return before;
    }

    // ---- campaigns

    public int openCampaign(int days) throws IllegalArgumentException, IllegalStateException {
        requireDays(days);
        if (campaign.undecided > 0) {
            throw new IllegalStateException("a campaign is open");
        }
        if (!grants.hasAnyInState(ACTIVE)) {
            throw new IllegalStateException("the campaign would have no items");
        }
        campaign.open(day + days);
        for (int grant = 0; grant < grants.count; grant++) {
            if (grants.states[grant] == ACTIVE) {
                campaign.addItem(grant);
            }
        }
        return campaign.count;
    }

    public int answer(int person, int item, char verdict)
            throws IllegalStateException, NoSuchElementException, IllegalArgumentException,
            UnsupportedOperationException {
        if (campaign.undecided == 0) {
            throw new IllegalStateException("no campaign is open");
        }
        requirePerson(person);
        requireItem(item);
        if (verdict != KEEP && verdict != REVOKE) {
            throw new IllegalArgumentException("there is no such verdict");
        }
        if (campaign.verdicts[item] != UNDECIDED) {
            throw new UnsupportedOperationException("the item is decided");
        }
        if (findReviewer(campaign.grants[item]) != person) {
            throw new UnsupportedOperationException("the person is not the reviewer");
        }
        decide(item, verdict, person);
        if (verdict == REVOKE) {
            endDueGrants();
        }
        return campaign.undecided;
    }

    public int items() {
        return campaign.count;
    }

    public boolean isOpen() {
        return campaign.undecided > 0;
    }

    public int undecided() {
        return campaign.undecided;
    }

    public int grantOf(int item) throws NoSuchElementException {
        requireItem(item);
        return campaign.grants[item];
    }

    public char verdict(int item) throws NoSuchElementException {
        requireItem(item);
        return campaign.verdicts[item];
    }

    public int decider(int item) throws NoSuchElementException, IllegalStateException {
        requireItem(item);
        if (campaign.verdicts[item] == UNDECIDED) {
            throw new IllegalStateException("the item is undecided");
        }
        return campaign.deciders[item];
    }

    public int nextItem(int person) throws NoSuchElementException, IllegalStateException {
        requirePerson(person);
        int next = NONE;
        int greatest = 0;
        for (int item = 0; item < campaign.count; item++) {
            int grant = campaign.grants[item];
            if (campaign.verdicts[item] == UNDECIDED && findReviewer(grant) == person) {
                int risk = rateGrant(grant);
                if (next == NONE || risk > greatest) {
                    next = item;
                    greatest = risk;
                }
            }
        }
        // A campaign that is not open has no undecided items, so this covers both reasons.
        if (next == NONE) {
            throw new IllegalStateException("there is no item for the person to answer");
        }
        return next;
    }

    public float revokedShare() throws ArithmeticException {
        if (campaign.everDecided == 0) {
            throw new ArithmeticException("no item has been decided");
        }
        return (float) campaign.everRevoked / (float) campaign.everDecided;
    }

    // ---- evidence

    public int entries() {
        return evidence.count;
    }

    public char signAt(int entry) throws NoSuchElementException {
        requireEntry(entry);
        return evidence.signs[entry];
    }

    public int sealAt(int entry) throws NoSuchElementException {
        requireEntry(entry);
        return evidence.seals[entry];
    }

    public int sealByReplay(int entry) throws NoSuchElementException {
        requireEntry(entry);
        return evidence.replay(entry);
    }

    public long trace() {
        long trace = 0;
        for (int entry = 0; entry < evidence.count; entry++) {
            trace = trace * 31 + evidence.seals[entry];
        }
        return trace;
    }

    // ---- what the arguments must be

    private void requirePerson(int person) {
        if (!people.has(person)) {
            throw new NoSuchElementException("there is no such person");
        }
    }

    private void requireGroup(int group) {
        if (!groups.has(group)) {
            throw new NoSuchElementException("there is no such group");
        }
    }

    private void requireRight(int right) {
        if (!rights.has(right)) {
            throw new NoSuchElementException("there is no such right");
        }
    }

    private void requireGrant(int grant) {
        if (!grants.has(grant)) {
            throw new NoSuchElementException("there is no such grant");
        }
    }

    private void requireItem(int item) {
        if (!campaign.has(item)) {
            throw new NoSuchElementException("there is no such item");
        }
    }

    private void requireEntry(int entry) {
        if (!evidence.has(entry)) {
            throw new NoSuchElementException("there is no such entry");
        }
    }

    private void requireDays(int days) {
        if (days < 1 || days > MOST_DAYS) {
            throw new IllegalArgumentException("the number of days is out of range");
        }
    }

    private void requireRoomForGrant(int right, int person, int group) {
        if (grants.hasActive(right, person, group)) {
            throw new IllegalStateException("there is an active grant of this right already");
        }
        if (grants.count >= MOST_GRANTS) {
            throw new IllegalStateException("there is no room for another grant");
        }
    }

    // ---- holdings, found

    /** The people whom a grant reaches, whether the right is denied to them or not. */
    private int findReached(int grant) {
        int person = grants.people[grant];
        return person == NONE ? groups.membersOf(grants.groups[grant]) : bit(person);
    }

    /** The people who hold a right, or who would do so without one grant, which may be NONE. */
    private int findHolders(int right, int withoutGrant) {
        int reached = 0;
        for (int grant = 0; grant < grants.count; grant++) {
            if (grant != withoutGrant && grants.isActiveOf(grant, right)) {
                reached |= findReached(grant);
            }
        }
        return reached & ~rights.denied[right];
    }

    private int findRights(int person) {
        int found = 0;
        for (int right = 0; right < rights.count; right++) {
            if (contains(findHolders(right, NONE), person)) {
                found |= bit(right);
            }
        }
        return found;
    }

    private int countWays(int person, int right) {
        int ways = 0;
        for (int grant = 0; grant < grants.count; grant++) {
            if (grants.isActiveOf(grant, right)) {
                if (grants.people[grant] == person) {
                    ways++;
                }
                ways += groups.countPaths(grants.groups[grant], person);
            }
        }
        return ways;
    }

    /** The groups to which active grants give a right. */
    private int findGrantedGroups(int right) {
        int found = 0;
        for (int grant = 0; grant < grants.count; grant++) {
            if (grants.isActiveOf(grant, right) && grants.people[grant] == NONE) {
                found |= bit(grants.groups[grant]);
            }
        }
        return found;
    }

    /** The least number of groups on a path from a grant of the right to the person, or NONE. */
    private int findLeastLength(int person, int right) {
        if (grants.hasActive(right, person, NONE)) {
            return 0;
        }
        int granted = findGrantedGroups(right);
        for (int length = 1; length <= MOST_GROUPS; length++) {
            if ((granted & groups.findWithin(person, length)) != 0) {
                return length;
            }
        }
        return NONE;
    }

    // ---- risk and reviewers, found

    private int rateRight(int right, int person, int holders) {
        int risk = RISK_PER_SENSITIVITY * rights.sensitivities[right];
        int peers = people.findPeers(person);
        int peerCount = Integer.bitCount(peers);
        if (peerCount == 0) {
            return risk;
        }
        return risk * Integer.bitCount(peers & ~holders) / peerCount;
    }

    private int rateGrant(int grant) {
        int right = grants.rights[grant];
        int holders = findHolders(right, NONE);
        int reached = findReached(grant);
        int greatest = 0;
        for (int person = 0; person < people.count; person++) {
            if (contains(reached, person)) {
                greatest = Math.max(greatest, rateRight(right, person, holders));
            }
        }
        boolean isDisused = day - grants.lastUses[grant] >= DAYS_OF_DISUSE;
        return isDisused ? greatest + RISK_OF_DISUSE : greatest;
    }

    private int findReviewer(int grant) {
        int receiver = grants.people[grant];
        int closest = receiver == NONE ? groups.ownerOf(grants.groups[grant]) : people.managers[receiver];
        int reviewer = people.firstPresent(closest);
        if (reviewer != NONE && reviewer != receiver) {
            return reviewer;
        }
        reviewer = people.firstPresent(rights.owners[grants.rights[grant]]);
        if (reviewer != NONE && reviewer != receiver) {
            return reviewer;
        }
        for (int person = 0; person < people.count; person++) {
            reviewer = people.firstPresent(person);
            if (reviewer != NONE && reviewer != receiver) {
                return reviewer;
            }
        }
        return NONE;
    }

    // ---- decisions and their effects

    private void decideBySilence() {
        for (int item = 0; item < campaign.count; item++) {
            if (campaign.verdicts[item] == UNDECIDED) {
                boolean isRisky = rateGrant(campaign.grants[item]) >= limit;
                decide(item, isRisky ? REVOKE : KEEP, NONE);
            }
        }
    }

    private void decide(int item, char verdict, int decider) {
        int grant = campaign.grants[item];
        campaign.settle(item, verdict, decider);
        evidence.add(verdict, grant, day);
        if (verdict == REVOKE) {
            grants.states[grant] = WAITING;
            grants.dueDays[grant] = day + grace;
        }
    }

    /** Looks at each grant whose due day has come, once: an end never makes room for the end of another grant. */
    private void endDueGrants() {
        int seen = 0;
        for (int look = 0; look < grants.count; look++) {
            int grant = grants.findFirstDue(day, seen);
            if (grant == NONE) {
                return;
            }
            seen |= bit(grant);
            if (!wouldCutLastHolder(grant)) {
                end(grant);
            }
        }
    }

    private boolean wouldCutLastHolder(int grant) {
        int right = grants.rights[grant];
        if (!rights.vital[right]) {
            return false;
        }
        int left = findHolders(right, grant);
        int person = grants.people[grant];
        if (person != NONE) {
            left &= ~bit(person);
        }
        return left == 0;
    }

    private void end(int grant) {
        int person = grants.people[grant];
        grants.states[grant] = ENDED;
        if (person != NONE) {
            rights.denied[grants.rights[grant]] |= bit(person);
        }
        evidence.add(ENDED, grant, day);
    }

    // ---- bits

    private static int bit(int number) {
        return 1 << number;
    }

    private static boolean contains(int bits, int number) {
        return (bits & bit(number)) != 0;
    }

    /** The lowest number below the end whose bit is set, or NONE. */
    private static int findLowest(int bits, int end) {
        for (int number = 0; number < end; number++) {
            if (contains(bits, number)) {
                return number;
            }
        }
        return NONE;
    }

    private static final class People {
        final int[] departments = new int[MOST_PEOPLE];
        final int[] managers = new int[MOST_PEOPLE];
        final int[] substitutes = new int[MOST_PEOPLE];
        final boolean[] absent = new boolean[MOST_PEOPLE];
        int count = 0;

        boolean has(int person) {
            return person >= 0 && person < count;
        }

        /** The caller has tested that there is room. */
        int add(int department, int manager) {
            departments[count] = department;
            managers[count] = manager;
            substitutes[count] = NONE;
            return count++;
        }

        /** The stand-in of a person, or NONE, which is also the stand-in of NONE. */
        int firstPresent(int person) {
            int current = person;
            // Whoever has passed as many people as there are has passed somebody twice, and all of them are absent.
            for (int passed = 0; passed < count; passed++) {
                if (!has(current)) {
                    return NONE;
                }
                if (!absent[current]) {
                    return current;
                }
                current = substitutes[current];
            }
            return NONE;
        }

        int findPeers(int person) {
            int found = 0;
            for (int other = 0; other < count; other++) {
                if (other != person && departments[other] == departments[person]) {
                    found |= bit(other);
                }
            }
            return found;
        }
    }

    private static final class Groups {
        final int[] owners = new int[MOST_GROUPS];
        final int[] direct = new int[MOST_GROUPS];
        final int[] nested = new int[MOST_GROUPS];
        /** The members, direct or not; found anew after each change, since they are asked for far more often. */
        final int[] all = new int[MOST_GROUPS];
        int count = 0;

        boolean has(int group) {
            return group >= 0 && group < count;
        }

        /** The caller has tested that there is room. */
        int add(int owner) {
            owners[count] = owner;
            return count++;
        }

        int ownerOf(int group) {
            return has(group) ? owners[group] : NONE;
        }

        int membersOf(int group) {
            return has(group) ? all[group] : 0;
        }

        int setDirect(int group, int members) {
            direct[group] = members;
            findAllMembers();
            return Integer.bitCount(members);
        }

        int addNested(int group, int inner) {
            nested[group] |= bit(inner);
            findAllMembers();
            return Integer.bitCount(nested[group]);
        }

        private void findAllMembers() {
            for (int group = 0; group < count; group++) {
                int below = findBelow(group);
                int members = 0;
                for (int inner = 0; inner < count; inner++) {
                    if (contains(below, inner)) {
                        members |= direct[inner];
                    }
                }
                all[group] = members;
            }
        }

        /** The group itself and the groups nested in it, directly or not. */
        int findBelow(int group) {
            int found = bit(group);
            // Without circles no chain of groups is longer than their number, so as many rounds reach all.
            for (int round = 1; round < count; round++) {
                for (int outer = 0; outer < count; outer++) {
                    if (contains(found, outer)) {
                        found |= nested[outer];
                    }
                }
            }
            return found;
        }

        int countPaths(int group, int person) {
            return walk(direct, nested, group, person, 1);
        }

        /** Walks all paths down from a group; the length is the number of groups up to this one. */
        private static int walk(int[] direct, int[] nested, int group, int person, int length) {
            if (length > MOST_GROUPS || group < 0 || group >= MOST_GROUPS) {
                return 0;
            }
            int found = contains(direct[group], person) ? 1 : 0;
            for (int inner = 0; inner < MOST_GROUPS; inner++) {
                if (contains(nested[group], inner)) {
                    found += walk(direct, nested, inner, person, length + 1);
                }
            }
            return found;
        }

        /** The groups from which a path of at most so many groups leads to a direct membership of the person. */
        int findWithin(int person, int length) {
            int found = 0;
            for (int group = 0; group < count; group++) {
                if (contains(direct[group], person)) {
                    found |= bit(group);
                }
            }
            for (int reach = 1; reach < length; reach++) {
                int nearer = found;
                for (int group = 0; group < count; group++) {
                    if ((nested[group] & nearer) != 0) {
                        found |= bit(group);
                    }
                }
            }
            return found;
        }

        /** The group at an index of the first of the shortest paths, which have the length given. */
        int findOnPath(int starts, int person, int length, int index) {
            int group = findLowest(starts & findWithin(person, length), count);
            for (int step = 1; step <= index; step++) {
                if (!has(group)) {
                    return NONE;
                }
                group = findLowest(nested[group] & findWithin(person, length - step), count);
            }
            return group;
        }
    }

    private static final class Rights {
        final int[] sensitivities = new int[MOST_RIGHTS];
        final int[] owners = new int[MOST_RIGHTS];
        final boolean[] vital = new boolean[MOST_RIGHTS];
        /** The people to whom each right is denied. */
        final int[] denied = new int[MOST_RIGHTS];
        int count = 0;

        boolean has(int right) {
            return right >= 0 && right < count;
        }

        /** The caller has tested that there is room. */
        int add(int sensitivity, int owner, boolean isVital) {
            sensitivities[count] = sensitivity;
            owners[count] = owner;
            vital[count] = isVital;
            return count++;
        }
    }

    /** Each grant has a person or a group, and NONE for the other one. */
    private static final class Grants {
        final int[] rights = new int[MOST_GRANTS];
        final int[] people = new int[MOST_GRANTS];
        final int[] groups = new int[MOST_GRANTS];
        final char[] states = new char[MOST_GRANTS];
        final int[] dueDays = new int[MOST_GRANTS];
        final int[] lastUses = new int[MOST_GRANTS];
        int count = 0;

        boolean has(int grant) {
            return grant >= 0 && grant < count;
        }

        /** The caller has tested that there is room. */
        int add(int right, int person, int group, int day) {
            rights[count] = right;
            people[count] = person;
            groups[count] = group;
            states[count] = ACTIVE;
            lastUses[count] = day;
            return count++;
        }

        /** Whether a grant is of a right and has not ended; it may wait for its end. */
        boolean isActiveOf(int grant, int right) {
            return rights[grant] == right && states[grant] != ENDED;
        }

        boolean hasActive(int right, int person, int group) {
            for (int grant = 0; grant < count; grant++) {
                if (isActiveOf(grant, right) && people[grant] == person && groups[grant] == group) {
                    return true;
                }
            }
            return false;
        }

        boolean hasAnyInState(char state) {
            for (int grant = 0; grant < count; grant++) {
                if (states[grant] == state) {
                    return true;
                }
            }
            return false;
        }

        /** Of the grants that wait, are due and have not been seen, the one to look at first, or NONE. */
        int findFirstDue(int day, int seen) {
            int first = NONE;
            int earliest = 0;
            for (int grant = 0; grant < count; grant++) {
                boolean isDue = states[grant] == WAITING && dueDays[grant] <= day && !contains(seen, grant);
                if (isDue && (first == NONE || dueDays[grant] < earliest)) {
                    first = grant;
                    earliest = dueDays[grant];
                }
            }
            return first;
        }
    }

    /** The campaign that is open, or the latest one: it is open as long as it has undecided items. */
    private static final class Campaign {
        final int[] grants = new int[MOST_GRANTS];
        final char[] verdicts = new char[MOST_GRANTS];
        final int[] deciders = new int[MOST_GRANTS];
        int count = 0;
        int undecided = 0;
        int deadline = 0;
        /** These two go on over all campaigns. */
        int everDecided = 0;
        int everRevoked = 0;

        boolean has(int item) {
            return item >= 0 && item < count;
        }

        void open(int lastDay) {
            deadline = lastDay;
            count = 0;
            undecided = 0;
        }

        void addItem(int grant) {
            if (count < MOST_GRANTS) {
                grants[count] = grant;
                verdicts[count] = UNDECIDED;
                count++;
                undecided++;
            }
        }

        void settle(int item, char verdict, int decider) {
            verdicts[item] = verdict;
            deciders[item] = decider;
            undecided--;
            everDecided++;
            if (verdict == REVOKE) {
                everRevoked++;
            }
        }
    }

    private static final class Evidence {
        private static final int SEAL_BITS = 16;
        private static final int SEAL_MASK = 0xFFFF;
        private static final int ROTATION = 5;

        final char[] signs = new char[MOST_ENTRIES];
        final int[] grants = new int[MOST_ENTRIES];
        final int[] days = new int[MOST_ENTRIES];
        final int[] seals = new int[MOST_ENTRIES];
        int count = 0;

        boolean has(int entry) {
            return entry >= 0 && entry < count;
        }

        void add(char sign, int grant, int day) {
            if (count >= MOST_ENTRIES) {
                return;
            }
            int before = count > 0 ? seals[count - 1] : 0;
            signs[count] = sign;
            grants[count] = grant;
            days[count] = day;
            seals[count] = seal(before, count);
            count++;
        }

        private int seal(int before, int entry) {
            int turned = ((before << ROTATION) | (before >>> (SEAL_BITS - ROTATION))) & SEAL_MASK;
            int content = 257 * grants[entry] + 17 * days[entry] + signs[entry];
            return turned ^ (content & SEAL_MASK);
        }

        int replay(int last) {
            int seal = 0;
            for (int entry = 0; entry <= last && entry < count; entry++) {
                seal = seal(seal, entry);
            }
            return seal;
        }
    }
}
