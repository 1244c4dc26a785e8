import java.util.NoSuchElementException;

/** The sentences under "Campaigns" that name a boundary case, one by one, and those on days, limit and grace. */
final class CampaignEdgesTest {
    private final Check check = new Check();

    /** Person 0 reviews the grants of the right 0, of a sensitivity, to the people from 1. */
    private static Recertify withGrants(int count, int sensitivity) {
        Recertify desk = Desks.withPeople(count + 1);
        desk.addRight(sensitivity, 0, false);
        for (int person = 1; person <= count; person++) {
            desk.grantPerson(0, person);
        }
        return desk;
    }

    private void daysThatPass() {
        check.sentence("the number of days, 1 to 30");
        Recertify desk = new Recertify();
        int[] wrong = {Integer.MIN_VALUE, -1, 0, 31, Integer.MAX_VALUE};
        for (int days : wrong) {
            check.fails("pass " + days, IllegalArgumentException.class, () -> desk.pass(days));
            check.is("day", desk.day(), 0);
        }
        int day = 0;
        for (int days = 1; days <= 30; days++) {
            day += days;
            check.is("pass " + days, desk.pass(days), day);
            check.is("day after " + days, desk.day(), day);
        }
    }

    private void limits() {
        check.sentence("the limit, 0 to 999");
        Recertify desk = new Recertify();
        int[] wrong = {Integer.MIN_VALUE, -1, 1000, Integer.MAX_VALUE};
        for (int limit : wrong) {
            check.fails("limit " + limit, IllegalArgumentException.class, () -> desk.setLimit(limit));
        }
        check.is("300 at first", desk.setLimit(0), 300);
        for (int limit : wrong) {
            check.fails("limit " + limit, IllegalArgumentException.class, () -> desk.setLimit(limit));
        }
        check.is("lowest", desk.setLimit(999), 0);
        check.is("highest", desk.setLimit(1), 999);
    }

    private void graces() {
        check.sentence("the number of days, 0 to 10");
        Recertify desk = new Recertify();
        int[] wrong = {Integer.MIN_VALUE, -1, 11, Integer.MAX_VALUE};
        for (int grace : wrong) {
            check.fails("grace " + grace, IllegalArgumentException.class, () -> desk.setGrace(grace));
        }
        check.is("2 at first", desk.setGrace(0), 2);
        for (int grace : wrong) {
            check.fails("grace " + grace, IllegalArgumentException.class, () -> desk.setGrace(grace));
        }
        check.is("lowest", desk.setGrace(10), 0);
        check.is("highest", desk.setGrace(1), 10);
    }

    private void daysToTheDeadline() {
        check.sentence("how many days after this day its deadline is, 1 to 30");
        int[] wrong = {Integer.MIN_VALUE, -1, 0, 31, Integer.MAX_VALUE};
        Recertify refused = withGrants(1, 1);
        for (int days : wrong) {
            check.fails("open " + days, IllegalArgumentException.class, () -> refused.openCampaign(days));
        }
        check.is("not open", refused.isOpen(), false);
        check.is("no items", refused.items(), 0);
        for (int days = 1; days <= 30; days++) {
            Recertify desk = withGrants(1, 1);
            desk.pass(3);
            check.is("open " + days, desk.openCampaign(days), 1);
            if (days > 1) {
                desk.pass(days - 1);
            }
            check.is("a day before the deadline of " + days, desk.isOpen(), true);
            check.is("undecided a day before", desk.verdict(0), 'u');
            desk.pass(1);
            check.is("on the deadline of " + days, desk.isOpen(), false);
            check.is("decided by silence", desk.decider(0), -1);
        }
    }

    private void itemsOfActiveGrantsOnly() {
        check.sentence("A campaign has an item for each grant that is active and does not wait for its end when the "
            + "campaign is opened, in the order of the grants, with numbers from 0");
        Recertify desk = withGrants(6, 1);
        desk.openCampaign(9);
        desk.setGrace(0);
        desk.answer(0, 0, 'r');
        desk.answer(0, 3, 'r');
        desk.setGrace(10);
        desk.answer(0, 5, 'r');
        desk.answer(0, 1, 'r');
        desk.answer(0, 2, 'k');
        desk.answer(0, 4, 'k');
        desk.grantPerson(0, 1);
        check.is("two kept ones and a new one", desk.openCampaign(9), 3);
        int[] due = {2, 4, 6};
        for (int item = 0; item < 3; item++) {
            check.is("grant of item " + item, desk.grantOf(item), due[item]);
        }
        check.fails("item 3", NoSuchElementException.class, () -> desk.grantOf(3));
        desk.grantPerson(0, 4);
        check.is("one that is made later has none", desk.items(), 3);
    }

    private void twentyFourItems() {
        check.sentence("Returns the number of items");
        Recertify desk = Desks.withTwentyFourGrants();
        check.is("as many as can be", desk.openCampaign(30), 24);
        for (int item = 0; item < 24; item++) {
            check.is("grant", desk.grantOf(item), item);
            check.is("undecided", desk.undecided(), 24 - item);
            check.is("answer", desk.answer(desk.reviewerOf(item), item, 'k'), 23 - item);
        }
        check.fails("item 24", NoSuchElementException.class, () -> desk.grantOf(24));
        check.is("closed", desk.isOpen(), false);
    }

    private void noItems() {
        check.sentence("or it would have no items");
        Recertify none = Desks.withPeople(1);
        check.fails("no grants", IllegalStateException.class, () -> none.openCampaign(1));

        Recertify desk = Desks.withTwentyFourGrants();
        desk.setLimit(0);
        desk.setGrace(10);
        desk.openCampaign(1);
        desk.pass(1);
        check.fails("all 24 wait", IllegalStateException.class, () -> desk.openCampaign(1));
        desk.pass(9);
        check.is("they wait until the day before", desk.stateOf(23), 'w');
        desk.pass(1);
        check.is("then they end", desk.stateOf(23), 'x');
        check.fails("all 24 have ended", IllegalStateException.class, () -> desk.openCampaign(1));
        check.is("the latest campaign stays", desk.items(), 24);
        check.is("with its verdicts", desk.verdict(23), 'r');
        check.is("and is not open", desk.isOpen(), false);
    }

    private void onlyTheLastGrantIsActive() {
        check.sentence("if a campaign is open, or it would have no items");
        Recertify desk = Desks.withTwentyFourGrants();
        desk.setGrace(0);
        desk.openCampaign(30);
        for (int item = 0; item < 23; item++) {
            desk.answer(desk.reviewerOf(item), item, 'r');
            check.fails("open", IllegalStateException.class, () -> desk.openCampaign(1));
        }
        desk.answer(desk.reviewerOf(23), 23, 'k');
        check.is("one item is enough", desk.openCampaign(1), 1);
        check.is("it is of the last grant", desk.grantOf(0), 23);
    }

    private void answeredByReviewerOfThisTime() {
        check.sentence("An item is undecided until it is answered by the reviewer of its grant, as told at this time");
        Recertify desk = withGrants(2, 1);
        desk.openCampaign(9);
        check.is("at first", desk.reviewerOf(0), 0);
        desk.setAbsent(0, true);
        check.fails("no longer the reviewer", UnsupportedOperationException.class, () -> desk.answer(0, 0, 'k'));
        check.fails("never for one's own grant", UnsupportedOperationException.class, () -> desk.answer(1, 0, 'k'));
        check.is("undecided", desk.undecided(), 2);
        check.is("the reviewer of now", desk.answer(2, 0, 'k'), 1);
        check.is("decider", desk.decider(0), 2);
        desk.setAbsent(0, false);
        check.fails("decided, and the reviewer again", UnsupportedOperationException.class,
            () -> desk.answer(0, 0, 'k'));
        check.is("decider stays", desk.decider(0), 2);
    }

    private void everyOtherVerdict() {
        check.sentence("if there is no such verdict");
        Recertify desk = withGrants(2, 1);
        desk.openCampaign(9);
        for (char verdict = 0; verdict < 256; verdict++) {
            char given = verdict;
            if (verdict != 'k' && verdict != 'r') {
                check.fails("verdict " + (int) verdict, IllegalArgumentException.class,
                    () -> desk.answer(0, 0, given));
            }
        }
        char[] wide = {'k' + 256, 'r' + 256, '\uffff'};
        for (char verdict : wide) {
            check.fails("verdict " + (int) verdict, IllegalArgumentException.class, () -> desk.answer(0, 0, verdict));
        }
        check.is("undecided", desk.verdict(0), 'u');
    }

    private void closedWithoutUndecidedItems() {
        check.sentence("A campaign is closed when it has no undecided items any more");
        char[] verdicts = {'k', 'r'};
        for (char verdict : verdicts) {
            Recertify desk = withGrants(2, 9);
            desk.openCampaign(2);
            desk.answer(0, 1, verdict);
            check.is("one is left", desk.isOpen(), true);
            check.is("none is left", desk.answer(0, 0, verdict), 0);
            check.is("closed", desk.isOpen(), false);
            check.is("undecided", desk.undecided(), 0);
            check.fails("no more answers", IllegalStateException.class, () -> desk.answer(0, 0, verdict));
            check.fails("nothing to answer next", IllegalStateException.class, () -> desk.nextItem(0));
        }
    }

    private void deadlineOfClosedCampaign() {
        check.sentence("or when the day begins that is its deadline");
        Recertify desk = withGrants(2, 9);
        desk.openCampaign(2);
        desk.answer(0, 0, 'k');
        desk.answer(0, 1, 'k');
        check.is("the next one on the same day", desk.openCampaign(4), 2);
        desk.pass(2);
        check.is("the deadline of the one before closes nothing", desk.undecided(), 2);
        desk.pass(1);
        check.is("a day before its own", desk.undecided(), 2);
        desk.pass(1);
        check.is("its own", desk.undecided(), 0);
        check.is("by silence", desk.decider(1), -1);
        desk.pass(10);
        check.is("days after it decide nothing", desk.entries(), 6);

        Recertify shorter = withGrants(1, 1);
        shorter.openCampaign(9);
        shorter.answer(0, 0, 'k');
        shorter.openCampaign(1);
        shorter.pass(1);
        check.is("an earlier deadline than that of the one before", shorter.isOpen(), false);
        check.is("the next one on the day of the deadline", shorter.openCampaign(1), 1);
        check.is("is open", shorter.isOpen(), true);
    }

    private void daysBeyondTheDeadlineInOneCall() {
        check.sentence("Whenever a day begins");
        Recertify desk = withGrants(2, 9);
        desk.openCampaign(5);
        desk.setGrace(10);
        check.is("day", desk.pass(30), 30);
        check.is("decided on the deadline", desk.sealAt(0), 17 * 5 + 'r');
        check.is("ended on the due day", desk.entries(), 4);
        int before = desk.sealAt(1);
        int turned = (before * 32 & 65535) + before / 2048;
        check.is("seal of the due day", desk.sealAt(2), turned ^ 17 * 15 + 'x');
    }

    private void silenceAtTheLimit() {
        check.sentence("'r' if the risk of its grant then is not less than the limit, which is 300 at first, and "
            + "otherwise 'k'");
        int[][] risks = {{0, 0}, {1, 0}, {0, 100}, {100, 100}, {101, 100}, {99, 100}, {899, 900}, {900, 900},
            {901, 900}, {999, 900}};
        for (int[] pair : risks) {
            Recertify desk = pair[1] == 0 ? Desks.withGroups(2, 1) : withGrants(1, pair[1] / 100);
            if (pair[1] == 0) {
                desk.addRight(9, 0, false);
                desk.grantGroup(0, 0);
            }
            desk.setLimit(pair[0]);
            desk.openCampaign(1);
            check.is("risk", desk.riskOf(0), pair[1]);
            desk.pass(1);
            check.is("limit " + pair[0] + ", risk " + pair[1], desk.verdict(0), pair[1] >= pair[0] ? 'r' : 'k');
        }
        Recertify below = withGrants(1, 2);
        below.pass(30);
        check.is("risk at the first limit", below.riskOf(0), 250);
        below.openCampaign(1);
        below.pass(1);
        check.is("250 is less than the first limit", below.verdict(0), 'k');
        Recertify at = withGrants(1, 3);
        at.openCampaign(1);
        at.pass(1);
        check.is("300 is not less than the first limit", at.verdict(0), 'r');
    }

    private void silenceOnTheThirtiethDay() {
        check.sentence("the risk of its grant then");
        Recertify desk = withGrants(1, 1);
        desk.setLimit(150);
        desk.openCampaign(29);
        desk.pass(29);
        check.is("29 days without use", desk.verdict(0), 'k');
        desk.openCampaign(1);
        desk.pass(1);
        check.is("30 days without use", desk.verdict(0), 'r');
    }

    private void silenceInTheOrderOfNumbers() {
        check.sentence("then each undecided item, in the order of numbers, is decided by silence");
        Recertify desk = Desks.withPeople(2);
        int[] sensitivities = {9, 1, 5, 2};
        for (int sensitivity : sensitivities) {
            desk.grantPerson(desk.addRight(sensitivity, 0, false), 1);
        }
        desk.openCampaign(1);
        desk.answer(0, 2, 'k');
        desk.pass(1);
        String signs = "";
        for (int entry = 0; entry < desk.entries(); entry++) {
            signs += desk.signAt(entry);
        }
        check.is("signs", signs, "krkk");
        check.is("an answer of before stays", desk.verdict(2), 'k');
        check.is("and its decider", desk.decider(2), 0);
        int seal = 257 * 2 + 'k';
        int[] grants = {0, 1, 3};
        for (int entry = 1; entry < 4; entry++) {
            seal = ((seal << 5 | seal >> 11) & 65535) ^ 257 * grants[entry - 1] + 17 + desk.signAt(entry);
            check.is("seal " + entry, desk.sealAt(entry), seal);
        }
    }

    private void nextItemOfMany() {
        check.sentence("that with the greatest risk of its grant, of several the one with the lowest number, of "
            + "those whose reviewer is the person");
        Recertify desk = Desks.withTwentyFourGrants();
        desk.openCampaign(9);
        check.is("all hold the rights 0 and 1", desk.riskOf(0), 0);
        check.is("six of nine peers do not hold the right 2", desk.riskOf(23), 66);
        int[] ofPersonZero = {21, 22, 23, 1, 2, 3, 4, 5, 6, 7, 8, 9, 11, 12, 13, 14, 15, 16, 17, 18, 19};
        for (int item : ofPersonZero) {
            check.is("what person 0 should answer next", desk.nextItem(0), item);
            desk.answer(0, item, 'k');
        }
        check.fails("none is left", IllegalStateException.class, () -> desk.nextItem(0));
        int[] ofPersonOne = {20, 0, 10};
        for (int item : ofPersonOne) {
            check.is("what person 1 should answer next", desk.nextItem(1), item);
            desk.answer(1, item, 'k');
        }
        check.fails("closed", IllegalStateException.class, () -> desk.nextItem(1));

        Recertify groups = Desks.withGroups(1, 3);
        groups.addRight(1, 0, false);
        for (int group = 0; group < 3; group++) {
            groups.grantGroup(0, group);
        }
        groups.openCampaign(9);
        check.is("risks of 0: the lowest number", groups.nextItem(0), 0);
        groups.addMember(2, 0);
        check.is("a greater risk at the end", groups.nextItem(0), 2);
        groups.addMember(1, 0);
        check.is("two of the same", groups.nextItem(0), 1);
    }

    private void shareOfAllCampaigns() {
        check.sentence("their number divided by that of all decided items, both converted to float");
        Recertify desk = withGrants(3, 1);
        check.fails("none", ArithmeticException.class, desk::revokedShare);
        desk.openCampaign(1);
        check.fails("none of an open campaign", ArithmeticException.class, desk::revokedShare);
        desk.answer(0, 0, 'r');
        check.is("all", desk.revokedShare(), 1.0f);
        desk.answer(0, 1, 'k');
        desk.answer(0, 2, 'k');
        check.is("one third", desk.revokedShare(), 1.0f / 3.0f);
        desk.openCampaign(1);
        check.is("undecided ones do not count", desk.revokedShare(), 1.0f / 3.0f);
        desk.answer(0, 0, 'k');
        check.is("one fourth", desk.revokedShare(), 0.25f);
        desk.pass(1);
        check.is("one fifth", desk.revokedShare(), 0.2f);
    }

    public static void main(String[] args) {
        CampaignEdgesTest test = new CampaignEdgesTest();
        test.daysThatPass();
        test.limits();
        test.graces();
        test.daysToTheDeadline();
        test.itemsOfActiveGrantsOnly();
        test.twentyFourItems();
        test.noItems();
        test.onlyTheLastGrantIsActive();
        test.answeredByReviewerOfThisTime();
        test.everyOtherVerdict();
        test.closedWithoutUndecidedItems();
        test.deadlineOfClosedCampaign();
        test.daysBeyondTheDeadlineInOneCall();
        test.silenceAtTheLimit();
        test.silenceOnTheThirtiethDay();
        test.silenceInTheOrderOfNumbers();
        test.nextItemOfMany();
        test.shareOfAllCampaigns();
        test.check.end();
    }
}
