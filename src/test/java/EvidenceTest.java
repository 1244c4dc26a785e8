import java.util.NoSuchElementException;

/** Promises 48 to 52. */
final class EvidenceTest {
    private final Check check = new Check();

    private static int seal(int before, int grant, int day, char sign) {
        String bits = String.format("%16s", Integer.toBinaryString(before)).replace(' ', '0');
        int turned = Integer.parseInt(bits.substring(5) + bits.substring(0, 5), 2);
        return turned ^ (257 * grant + 17 * day + sign) % 65536;
    }

    private void checkEntry(Recertify desk, int entry, char sign, int grant, int day) {
        int before = entry == 0 ? 0 : desk.sealAt(entry - 1);
        check.is("49 sign " + entry, desk.signAt(entry), sign);
        check.is("50 seal " + entry, desk.sealAt(entry), seal(before, grant, day, sign));
        check.is("51 seal " + entry, desk.sealByReplay(entry), seal(before, grant, day, sign));
    }

    private void checkNoEntry(Recertify desk, int entry) {
        check.fails("49 entry " + entry, NoSuchElementException.class, () -> desk.signAt(entry));
        check.fails("50 entry " + entry, NoSuchElementException.class, () -> desk.sealAt(entry));
        check.fails("51 entry " + entry, NoSuchElementException.class, () -> desk.sealByReplay(entry));
    }

    private void checkTrace(Recertify desk) {
        long trace = 0;
        for (int entry = 0; entry < desk.entries(); entry++) {
            trace = trace * 31 + desk.sealAt(entry);
        }
        check.is("52 trace of " + desk.entries(), desk.trace(), trace);
    }

    private void promise48To52Entries() {
        Recertify desk = Desks.withRights(4, 1);
        desk.addRight(9, 0, false);
        for (int person = 1; person < 4; person++) {
            desk.grantPerson(0, person);
        }
        desk.grantPerson(1, 3);
        check.is("48 none", desk.entries(), 0);
        check.is("52 none", desk.trace(), 0L);
        checkNoEntry(desk, 0);
        desk.pass(30);
        desk.openCampaign(2);
        desk.setGrace(1);
        desk.answer(0, 2, 'r');
        desk.answer(0, 1, 'k');
        check.is("48 decided", desk.entries(), 2);
        desk.pass(1);
        check.is("48 ended", desk.entries(), 3);
        desk.pass(1);
        check.is("48 silence", desk.entries(), 5);
        desk.pass(1);
        check.is("48 ended again", desk.entries(), 6);
        checkEntry(desk, 0, 'r', 2, 30);
        checkEntry(desk, 1, 'k', 1, 30);
        checkEntry(desk, 2, 'x', 2, 31);
        checkEntry(desk, 3, 'k', 0, 32);
        checkEntry(desk, 4, 'r', 3, 32);
        checkEntry(desk, 5, 'x', 3, 33);
        checkNoEntry(desk, 6);
        checkNoEntry(desk, -1);
        checkTrace(desk);
    }

    private void promise48To52SealOfManyDays() {
        Recertify desk = Desks.withRights(2, 1);
        desk.grantPerson(0, 1);
        for (int month = 0; month < 140; month++) {
            desk.pass(30);
        }
        desk.openCampaign(1);
        desk.answer(0, 0, 'k');
        check.is("50 sum above 16 bits", 17 * 4200 > 65536, true);
        checkEntry(desk, 0, 'k', 0, 4200);
    }

    private void promise48To52Full() {
        Recertify desk = Desks.withRights(10, 3);
        for (int grant = 0; grant < 24; grant++) {
            desk.grantPerson(grant / 10, grant % 10);
        }
        for (int campaign = 0; campaign < 4; campaign++) {
            desk.openCampaign(1);
            desk.pass(1);
        }
        check.is("48 four campaigns", desk.entries(), 96);
        checkTrace(desk);
        desk.openCampaign(1);
        desk.answer(1, 0, 'k');
        desk.answer(0, 1, 'k');
        desk.answer(0, 2, 'k');
        check.is("48 full", desk.entries(), 99);
        long full = desk.trace();
        desk.answer(0, 3, 'r');
        desk.pass(2);
        check.is("48 more are left out", desk.entries(), 99);
        check.is("52 more are left out", desk.trace(), full);
        check.is("48 what happens goes on", desk.stateOf(3), 'x');
        checkEntry(desk, 95, 'k', 23, 4);
        checkEntry(desk, 98, 'k', 2, 4);
        checkNoEntry(desk, 99);
        checkTrace(desk);
    }

    public static void main(String[] args) {
        EvidenceTest test = new EvidenceTest();
        test.promise48To52Entries();
        test.promise48To52SealOfManyDays();
        test.promise48To52Full();
        test.check.end();
    }
}
