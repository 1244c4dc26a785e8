import java.util.ArrayList;
import java.util.Comparator;
import java.util.LinkedHashSet;
import java.util.List;
import java.util.NoSuchElementException;
import java.util.Set;
import java.util.TreeSet;

/** The document told once more, with sets and lists and as literally as can be, to compare Recertify with. */
public final class Model {
    private static final class Person {
        int department;
        int manager;
        int substitute = -1;
        boolean absent;
    }

    private static final class Group {
        int owner;
        Set<Integer> people = new TreeSet<>();
        Set<Integer> groups = new TreeSet<>();
    }

    private static final class Right {
        int sensitivity;
        int owner;
        boolean vital;
        Set<Integer> denied = new TreeSet<>();
    }

    private static final class Grant {
        int number;
        int right;
        int person = -1;
        int group = -1;
        char state = 'a';
        int due;
        int lastUse;
    }

    private static final class Item {
        Grant grant;
        char verdict = 'u';
        int decider;
    }

    private record Entry(char sign, int grant, int day) {
    }

    private final List<Person> people = new ArrayList<>();
    private final List<Group> groups = new ArrayList<>();
    private final List<Right> rights = new ArrayList<>();
    private final List<Grant> grants = new ArrayList<>();
    private final List<Entry> evidence = new ArrayList<>();
    private List<Item> items = new ArrayList<>();
    private boolean open = false;
    private int deadline;
    private int day = 0;
    private int limit = 300;
    private int grace = 2;
    private int kept = 0;
    private int revoked = 0;

    private static <T> T in(List<T> list, int number) {
        if (number < 0 || number >= list.size()) {
            throw new NoSuchElementException();
        }
        return list.get(number);
    }

    private static void range(int value, int low, int high) {
        if (value < low || value > high) {
            throw new IllegalArgumentException();
        }
    }

    private static void state(boolean good) {
        if (!good) {
            throw new IllegalStateException();
        }
    }

    public int addPerson(int department, int manager) {
        range(department, 0, 3);
        if (manager != -1) {
            in(people, manager);
        }
        state(people.size() < 10);
        Person person = new Person();
        person.department = department;
        person.manager = manager;
        people.add(person);
        return people.size() - 1;
    }

    public boolean setAbsent(int person, boolean isAbsent) {
        boolean before = in(people, person).absent;
        people.get(person).absent = isAbsent;
        return before;
    }

    public int setSubstitute(int person, int substitute) {
        int before = in(people, person).substitute;
        if (substitute != -1) {
            in(people, substitute);
        }
        if (person == substitute) {
            throw new IllegalArgumentException();
        }
        people.get(person).substitute = substitute;
        return before;
    }

    public int addGroup(int owner) {
        in(people, owner);
        state(groups.size() < 8);
        Group group = new Group();
        group.owner = owner;
        groups.add(group);
        return groups.size() - 1;
    }

    public int addMember(int group, int person) {
        in(groups, group);
        in(people, person);
        state(groups.get(group).people.add(person));
        return groups.get(group).people.size();
    }

    public int removeMember(int group, int person) {
        in(groups, group);
        in(people, person);
        state(groups.get(group).people.remove(person));
        return groups.get(group).people.size();
    }

    public int nest(int group, int inner) {
        in(groups, group);
        in(groups, inner);
        if (pathsFrom(inner).stream().anyMatch(path -> path.contains(group))) {
            throw new UnsupportedOperationException();
        }
        state(groups.get(group).groups.add(inner));
        return groups.get(group).groups.size();
    }

    public int addRight(int sensitivity, int owner, boolean isVital) {
        range(sensitivity, 1, 9);
        in(people, owner);
        state(rights.size() < 10);
        Right right = new Right();
        right.sensitivity = sensitivity;
        right.owner = owner;
        right.vital = isVital;
        rights.add(right);
        return rights.size() - 1;
    }

    public int grantPerson(int right, int person) {
        in(rights, right);
        in(people, person);
        int number = grant(right, person, -1);
        rights.get(right).denied.remove(person);
        return number;
    }

    public int grantGroup(int right, int group) {
        in(rights, right);
        in(groups, group);
        return grant(right, -1, group);
    }

    private int grant(int right, int person, int group) {
        for (Grant other : active(right)) {
            state(other.person != person || other.group != group);
        }
        state(grants.size() < 24);
        Grant grant = new Grant();
        grant.number = grants.size();
        grant.right = right;
        grant.person = person;
        grant.group = group;
        grant.lastUse = day;
        grants.add(grant);
        return grant.number;
    }

    public int use(int person, int right) {
        state(holds(person, right));
        int used = 0;
        for (Grant grant : active(right)) {
            if (reached(grant).contains(person)) {
                grant.lastUse = day;
                used++;
            }
        }
        return used;
    }

    public int pass(int days) {
        range(days, 1, 30);
        for (int i = 0; i < days; i++) {
            day++;
            if (open && day == deadline) {
                for (Item item : items) {
                    if (item.verdict == 'u') {
                        decide(item, risk(item.grant) >= limit ? 'r' : 'k', -1);
                    }
                }
            }
            look();
        }
        return day;
    }

    public int setLimit(int limit) {
        range(limit, 0, 999);
        int before = this.limit;
        this.limit = limit;
        return before;
    }

    public int setGrace(int days) {
        range(days, 0, 10);
        int before = grace;
        grace = days;
        return before;
    }

    public int openCampaign(int days) {
        range(days, 1, 30);
        state(!open);
        List<Item> fresh = new ArrayList<>();
        for (Grant grant : grants) {
            if (grant.state == 'a') {
                Item item = new Item();
                item.grant = grant;
                fresh.add(item);
            }
        }
        state(!fresh.isEmpty());
        items = fresh;
        open = true;
        deadline = day + days;
        return items.size();
    }

    public int answer(int person, int item, char verdict) {
        state(open);
        in(people, person);
        in(items, item);
        if (verdict != 'k' && verdict != 'r') {
            throw new IllegalArgumentException();
        }
        Item asked = items.get(item);
        if (reviewerOf(asked.grant.number) != person || asked.verdict != 'u') {
            throw new UnsupportedOperationException();
        }
        decide(asked, verdict, person);
        if (verdict == 'r') {
            look();
        }
        return undecided();
    }

    private void decide(Item item, char verdict, int decider) {
        item.verdict = verdict;
        item.decider = decider;
        record(verdict, item.grant);
        if (verdict == 'r') {
            revoked++;
            item.grant.state = 'w';
            item.grant.due = day + grace;
        } else {
            kept++;
        }
        open = undecided() > 0;
    }

    private void record(char sign, Grant grant) {
        if (evidence.size() < 99) {
            evidence.add(new Entry(sign, grant.number, day));
        }
    }

    private void look() {
        List<Grant> due = new ArrayList<>();
        for (Grant grant : grants) {
            if (grant.state == 'w' && grant.due <= day) {
                due.add(grant);
            }
        }
        due.sort(Comparator.comparingInt((Grant grant) -> grant.due).thenComparingInt(grant -> grant.number));
        for (Grant grant : due) {
            if (!isBlocked(grant.number)) {
                grant.state = 'x';
                if (grant.person != -1) {
                    rights.get(grant.right).denied.add(grant.person);
                }
                record('x', grant);
            }
        }
    }

    public int people() {
        return people.size();
    }

    public int day() {
        return day;
    }

    public int standIn(int person) {
        in(people, person);
        Set<Integer> passed = new LinkedHashSet<>();
        int current = person;
        while (people.get(current).absent) {
            passed.add(current);
            current = people.get(current).substitute;
            if (current == -1 || passed.contains(current)) {
                return -1;
            }
        }
        return current;
    }

    public boolean isMember(int group, int person) {
        in(groups, group);
        in(people, person);
        return allMembers(group).contains(person);
    }

    public int members(int group) {
        in(groups, group);
        return allMembers(group).size();
    }

    private Set<Integer> allMembers(int group) {
        Set<Integer> all = new TreeSet<>(groups.get(group).people);
        for (int inner : groups.get(group).groups) {
            all.addAll(allMembers(inner));
        }
        return all;
    }

    private List<Grant> active(int right) {
        List<Grant> found = new ArrayList<>();
        for (Grant grant : grants) {
            if (grant.right == right && grant.state != 'x') {
                found.add(grant);
            }
        }
        return found;
    }

    private Set<Integer> reached(Grant grant) {
        return grant.group == -1 ? Set.of(grant.person) : allMembers(grant.group);
    }

    private Set<Integer> holders(int right) {
        Set<Integer> found = new TreeSet<>();
        for (Grant grant : active(right)) {
            found.addAll(reached(grant));
        }
        found.removeAll(rights.get(right).denied);
        return found;
    }

    public boolean holds(int person, int right) {
        in(people, person);
        in(rights, right);
        return holders(right).contains(person);
    }

    public boolean holdsByPaths(int person, int right) {
        return holds(person, right);
    }

    public int rightsOf(int person) {
        return Integer.bitCount(rightBits(person));
    }

    public int holdersOf(int right) {
        in(rights, right);
        return holders(right).size();
    }

    public int rightBits(int person) {
        in(people, person);
        int sum = 0;
        int power = 1;
        for (int right = 0; right < rights.size(); right++) {
            sum += holds(person, right) ? power : 0;
            power *= 2;
        }
        return sum;
    }

    public int apart(int one, int other) {
        in(people, one);
        in(people, other);
        int found = 0;
        for (int right = 0; right < rights.size(); right++) {
            found += holds(one, right) != holds(other, right) ? 1 : 0;
        }
        return found;
    }

    public boolean isDenied(int person, int right) {
        in(people, person);
        return in(rights, right).denied.contains(person);
    }

    /** All paths from a group, of whatever length, to whatever group. */
    private List<List<Integer>> pathsFrom(int group) {
        List<List<Integer>> found = new ArrayList<>();
        found.add(List.of(group));
        for (int inner : groups.get(group).groups) {
            for (List<Integer> rest : pathsFrom(inner)) {
                List<Integer> path = new ArrayList<>();
                path.add(group);
                path.addAll(rest);
                found.add(path);
            }
        }
        return found;
    }

    /** The paths on which active grants reach a person; that of a grant to the person is empty. */
    private List<List<Integer>> pathsTo(int person, int right) {
        in(people, person);
        in(rights, right);
        List<List<Integer>> found = new ArrayList<>();
        for (Grant grant : active(right)) {
            if (grant.person == person) {
                found.add(List.of());
            }
            if (grant.group != -1) {
                for (List<Integer> path : pathsFrom(grant.group)) {
                    if (groups.get(path.get(path.size() - 1)).people.contains(person)) {
                        found.add(path);
                    }
                }
            }
        }
        return found;
    }

    private List<Integer> bestPath(int person, int right) {
        List<List<Integer>> all = pathsTo(person, right);
        state(!all.isEmpty());
        all.sort(Comparator.comparingInt((List<Integer> path) -> path.size()).thenComparing(Object::toString));
        return all.get(0);
    }

    public int paths(int person, int right) {
        return pathsTo(person, right).size();
    }

    public int pathLength(int person, int right) {
        return bestPath(person, right).size();
    }

    public int pathAt(int person, int right, int index) {
        List<Integer> path = bestPath(person, right);
        if (index < 0 || index >= path.size()) {
            throw new IndexOutOfBoundsException();
        }
        return path.get(index);
    }

    private int risk(Grant grant) {
        int greatest = 0;
        for (int person : reached(grant)) {
            greatest = Math.max(greatest, riskFor(person, grant.right));
        }
        return day - grant.lastUse >= 30 ? greatest + 50 : greatest;
    }

    public int riskOf(int grant) {
        state(in(grants, grant).state != 'x');
        return risk(grants.get(grant));
    }

    public int riskFor(int person, int right) {
        in(people, person);
        in(rights, right);
        int peers = 0;
        int without = 0;
        for (int other = 0; other < people.size(); other++) {
            if (other != person && people.get(other).department == people.get(person).department) {
                peers++;
                without += holds(other, right) ? 0 : 1;
            }
        }
        int full = 100 * rights.get(right).sensitivity;
        return peers == 0 ? full : full * without / peers;
    }

    public int reviewerOf(int grant) {
        Grant asked = in(grants, grant);
        List<Integer> order = new ArrayList<>();
        if (asked.group != -1) {
            order.add(groups.get(asked.group).owner);
        } else if (people.get(asked.person).manager != -1) {
            order.add(people.get(asked.person).manager);
        }
        order.add(rights.get(asked.right).owner);
        for (int person = 0; person < people.size(); person++) {
            order.add(person);
        }
        for (int person : order) {
            int found = standIn(person);
            if (found != -1 && found != asked.person) {
                return found;
            }
        }
        return -1;
    }

    public int grants() {
        return grants.size();
    }

    public char stateOf(int grant) {
        return in(grants, grant).state;
    }

    public int dueDay(int grant) {
        state(in(grants, grant).state == 'w');
        return grants.get(grant).due;
    }

    public int lastUse(int grant) {
        return in(grants, grant).lastUse;
    }

    /** Ends the grant for a moment, and looks. */
    public boolean isBlocked(int grant) {
        Grant asked = in(grants, grant);
        Right right = rights.get(asked.right);
        if (asked.state == 'x' || !right.vital) {
            return false;
        }
        char before = asked.state;
        asked.state = 'x';
        Set<Integer> left = holders(asked.right);
        left.remove(asked.person);
        asked.state = before;
        return left.isEmpty();
    }

    public int items() {
        return items.size();
    }

    public boolean isOpen() {
        return open;
    }

    public int undecided() {
        int found = 0;
        for (Item item : items) {
            found += item.verdict == 'u' ? 1 : 0;
        }
        return found;
    }

    public int grantOf(int item) {
        return in(items, item).grant.number;
    }

    public char verdict(int item) {
        return in(items, item).verdict;
    }

    public int decider(int item) {
        state(in(items, item).verdict != 'u');
        return items.get(item).decider;
    }

    public int nextItem(int person) {
        in(people, person);
        int best = -1;
        for (int item = items.size() - 1; item >= 0; item--) {
            Item asked = items.get(item);
            boolean isTheirs = asked.verdict == 'u' && reviewerOf(asked.grant.number) == person;
            if (isTheirs && (best == -1 || risk(asked.grant) >= risk(items.get(best).grant))) {
                best = item;
            }
        }
        state(open && best != -1);
        return best;
    }

    public int entries() {
        return evidence.size();
    }

    public char signAt(int entry) {
        return in(evidence, entry).sign;
    }

    public int sealAt(int entry) {
        Entry last = in(evidence, entry);
        int before = entry == 0 ? 0 : sealAt(entry - 1);
        int turned = before * 32 % 65536 + before / 2048;
        return turned ^ (257 * last.grant + 17 * last.day + last.sign) % 65536;
    }

    public int sealByReplay(int entry) {
        return sealAt(entry);
    }

    public long trace() {
        long trace = 0;
        for (int entry = 0; entry < evidence.size(); entry++) {
            trace = 31 * trace + sealAt(entry);
        }
        return trace;
    }

    public float revokedShare() {
        if (kept + revoked == 0) {
            throw new ArithmeticException();
        }
        return (float) revoked / (float) (kept + revoked);
    }

    public double meanRisk() {
        int sum = 0;
        int active = 0;
        for (Grant grant : grants) {
            if (grant.state != 'x') {
                sum += risk(grant);
                active++;
            }
        }
        if (active == 0) {
            throw new ArithmeticException();
        }
        return (double) sum / (double) active;
    }
}
