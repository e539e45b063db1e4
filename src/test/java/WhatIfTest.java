/** Promises 29 and 30: what if. */
public final class WhatIfTest {
    private static final Class<IllegalArgumentException> ARGUMENT = IllegalArgumentException.class;
    private static final Class<IllegalStateException> STATE = IllegalStateException.class;

    private final Due due = new Due();

    private WhatIfTest() {
    }

    public static void main(String[] args) {
        WhatIfTest test = new WhatIfTest();
        test.promise29Counts();
        test.promise29AsPlayedThrough();
        test.promise29LeavesAChosenFailure();
        test.promise29CountsWhatIsStartable();
        test.promise29Refuses();
        test.promise30();
        test.promise30AsPlayedThrough();
        test.due.end("WhatIfTest");
    }

    private void promise29Counts() {
        Bootstay x = Devices.withTransfer(2, 0, 4, 5, 6);
        String before = Devices.shown(x) + Devices.image(x, 0, 24) + Devices.image(x, 1, 24);
        due.same("safeFinish(1)", x.safeFinish(1), 10);
        due.same("safeFinish(3)", x.safeFinish(3), 10);
        due.same("nothing changes", Devices.shown(x) + Devices.image(x, 0, 24) + Devices.image(x, 1, 24), before);
        due.same("finish() then", x.finish(2), true);
        due.same("tries()", x.tries(), 2);
        Bootstay y = Devices.updated(2, 3, 4);
        Devices.transfer(y, 3, 3, 5, 6);
        due.same("safeFinish() for slot 0", y.safeFinish(2), 10);
    }

    private void promise29AsPlayedThrough() {
        int safe = 0;
        int writes = 0;
        for (int done = 0; done < 20; done++) {
            Bootstay x = Devices.withTransfer(2, 0, 4, 5, 6);
            x.failAfter(done);
            if (!x.finish(2)) {
                writes++;
                safe += x.isStartable(x.switchOn()) ? 1 : 0;
            }
        }
        due.same("the writes of finish()", writes, 10);
        due.same("safeFinish()", Devices.withTransfer(2, 0, 4, 5, 6).safeFinish(2), safe);
    }

    private void promise29LeavesAChosenFailure() {
        Bootstay x = Devices.withTransfer(2, 0, 4, 5, 6);
        x.failAfter(3);
        due.same("safeFinish() with a failure chosen", x.safeFinish(1), 10);
        int before = x.writes();
        due.same("finish() meets the failure", x.finish(1), false);
        due.same("writes()", x.writes() - before, 4);
    }

    /** No run of calls brings a slot about that is confirmed and not startable: here it is broken by hand. */
    private void promise29CountsWhatIsStartable() {
        Bootstay broken = Devices.withTransfer(2, 0, 4, 5, 6);
        Inside.setSlot(broken, 0, Inside.MARK, 0);
        due.same("safeFinish() when slot 0 is not startable", broken.safeFinish(1), 0);
        due.same("wouldStart() then", broken.wouldStart(), 0);
        // With a trial due, slot 1 starts once its mark is written: at the last five of the ten writes.
        Inside.setValid(broken, 0, 1, 6, 0);
        String before = Devices.joined(Inside.words(broken));
        due.same("safeFinish() with a trial due", broken.safeFinish(1), 5);
        due.same("the flash then", Devices.joined(Inside.words(broken)), before);
        Inside.setSlot(broken, 0, Inside.MARK, 1);
        due.same("safeFinish() when slot 0 is startable again", broken.safeFinish(3), 10);
    }

    private void promise29Refuses() {
        Bootstay x = Devices.on();
        int[] wrong = {0, 4, -1, Integer.MIN_VALUE, Integer.MAX_VALUE};
        for (int tries : wrong) {
            due.refused("safeFinish(" + tries + ") without a transfer", x, ARGUMENT, () -> x.safeFinish(tries));
        }
        due.refused("safeFinish() without a transfer", x, STATE, () -> x.safeFinish(1));
        x.offer(2, 2, Devices.hashOf(5, 6), 0);
        x.put(5);
        due.refused("safeFinish() before the last byte", x, STATE, () -> x.safeFinish(1));
        x.put(7);
        due.refused("safeFinish() with another hash", x, STATE, () -> x.safeFinish(1));
        due.refused("safeFinish(4) with another hash", x, ARGUMENT, () -> x.safeFinish(4));
        Bootstay off = new Bootstay();
        due.refused("safeFinish() when off", off, STATE, () -> off.safeFinish(1));
        Bootstay done = Devices.withTrialDue(1, 2, 0, 4);
        due.refused("safeFinish() behind finish()", done, STATE, () -> done.safeFinish(1));
    }

    private void promise30() {
        Bootstay x = new Bootstay();
        due.same("wouldStart() of a new device", x.wouldStart(), 0);
        x.failAfter(0);
        due.same("wouldStart() with a failure chosen", x.wouldStart(), 0);
        x.failAfter(-1);
        x.switchOn();
        Devices.transfer(x, 2, 0, 4);
        due.same("wouldStart() before finish()", x.wouldStart(), 0);
        x.finish(1);
        x.failAfter(0);
        due.same("wouldStart() with a trial due", x.wouldStart(), 1);
        x.failAfter(-1);
        due.same("wouldStart() changes nothing", x.isOn() && x.tries() == 1, true);
        x.switchOff();
        due.same("wouldStart() when off", x.wouldStart(), 1);
        x.switchOn();
        due.same("wouldStart() with no tries left", x.wouldStart(), 0);
        x.confirm();
        due.same("wouldStart() when confirmed", x.wouldStart(), 1);
    }

    private void promise30AsPlayedThrough() {
        Bootstay x = Devices.updated(2, 3, 4);
        Devices.transfer(x, 3, 4, 5, 6);
        x.finish(3);
        for (int start = 0; start < 6; start++) {
            int would = x.wouldStart();
            x.switchOff();
            due.same("wouldStart() when off", x.wouldStart(), would);
            due.same("switchOn() as foretold", x.switchOn(), would);
        }
    }
}
