/**
 * What a desk answers to everything that it can be asked, told as text, to find out whether two desks are alike, or
 * one is as before. What only a change answers is told by making the change and undoing it.
 */
final class Snapshot {
    private final Recertify desk;
    private final StringBuilder told = new StringBuilder();

    private Snapshot(Recertify desk) {
        this.desk = desk;
    }

    /** Looks at the numbers below the bounds alone, to need few calls, whether there is such a number or not. */
    static String of(Recertify desk, int bound, int rightBound) {
        Snapshot snapshot = new Snapshot(desk);
        snapshot.tellWhole();
        for (int number = 0; number < bound; number++) {
            snapshot.tellPerson(number);
            snapshot.tellGroup(number, bound);
            snapshot.tellGrant(number);
            snapshot.tellItem(number);
            snapshot.tellEntry(number);
            for (int right = 0; right < rightBound; right++) {
                snapshot.tellHolding(number, right);
            }
        }
        for (int right = 0; right < rightBound; right++) {
            int number = right;
            snapshot.tell("holdersOf", () -> desk.holdersOf(number));
        }
        return snapshot.told.toString();
    }

    private void tell(String what, Check.Call call) {
        Object answer;
        try {
            answer = call.run();
        } catch (RuntimeException e) {
            answer = e.getClass().getSimpleName();
        }
        told.append(what).append(' ').append(answer).append('\n');
    }

    private void tellWhole() {
        tell("people", desk::people);
        tell("day", desk::day);
        tell("grants", desk::grants);
        tell("items", desk::items);
        tell("isOpen", desk::isOpen);
        tell("undecided", desk::undecided);
        tell("entries", desk::entries);
        tell("trace", desk::trace);
        tell("revokedShare", desk::revokedShare);
        tell("meanRisk", desk::meanRisk);
        int limit = desk.setLimit(0);
        int grace = desk.setGrace(0);
        desk.setLimit(limit);
        desk.setGrace(grace);
        told.append("limit ").append(limit).append(", grace ").append(grace).append('\n');
    }

    private void tellPerson(int person) {
        tell("standIn " + person, () -> desk.standIn(person));
        tell("rightBits " + person, () -> desk.rightBits(person));
        tell("nextItem " + person, () -> desk.nextItem(person));
        tell("absent " + person, () -> {
            boolean isAbsent = desk.setAbsent(person, true);
            desk.setAbsent(person, isAbsent);
            return isAbsent;
        });
        tell("substitute " + person, () -> {
            int substitute = desk.setSubstitute(person, -1);
            desk.setSubstitute(person, substitute);
            return substitute;
        });
    }

    private void tellGroup(int group, int people) {
        tell("members " + group, () -> desk.members(group));
        for (int person = 0; person < people; person++) {
            int member = person;
            tell("isMember " + group + " " + person, () -> desk.isMember(group, member));
        }
    }

    private void tellHolding(int person, int right) {
        tell("holds " + person + " " + right, () -> desk.holds(person, right));
        tell("isDenied", () -> desk.isDenied(person, right));
        tell("paths", () -> desk.paths(person, right));
        tell("pathLength", () -> desk.pathLength(person, right));
        tell("riskFor", () -> desk.riskFor(person, right));
    }

    private void tellGrant(int grant) {
        tell("stateOf " + grant, () -> desk.stateOf(grant));
        tell("riskOf", () -> desk.riskOf(grant));
        tell("reviewerOf", () -> desk.reviewerOf(grant));
        tell("dueDay", () -> desk.dueDay(grant));
        tell("lastUse", () -> desk.lastUse(grant));
        tell("isBlocked", () -> desk.isBlocked(grant));
    }

    private void tellItem(int item) {
        tell("grantOf " + item, () -> desk.grantOf(item));
        tell("verdict", () -> desk.verdict(item));
        tell("decider", () -> desk.decider(item));
    }

    private void tellEntry(int entry) {
        tell("signAt " + entry, () -> desk.signAt(entry));
        tell("sealAt", () -> desk.sealAt(entry));
    }
}
