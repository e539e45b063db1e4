/** Promises 1 to 8: a new object, and power. */
public final class PowerTest {
    private static final Class<IllegalArgumentException> ARGUMENT = IllegalArgumentException.class;
    private static final Class<IllegalStateException> STATE = IllegalStateException.class;

    private final Due due = new Due();

    private PowerTest() {
    }

    public static void main(String[] args) {
        PowerTest test = new PowerTest();
        test.promise1NewDevice();
        test.promise1FailureIsNotChosen();
        test.promise2StartsTheConfirmedSlot();
        test.promise2CountsTheTriesDown();
        test.promise2StartsAsOftenAsThereAreTries();
        test.promise2FallsBack();
        test.promise2CounterTooLow();
        test.promise2FailsOnTheWay();
        test.promise2TornFallback();
        test.promise2WithoutAWriteMeetsNoFailure();
        test.promise3SwitchesOff();
        test.promise3WritesNothing();
        test.promise4ChoosesAWrite();
        test.promise4ChoiceIsReplaced();
        test.promise4OutOfRange();
        test.promise4EdgeOfTheRange();
        test.promise4LeastOfTheRange();
        test.promise4ChoiceOutlastsQuestions();
        test.promises5And6And7();
        test.promise8CountsWrites();
        test.due.end("PowerTest");
    }

    private void promise1NewDevice() {
        Bootstay x = new Bootstay();
        due.same("a new device", Devices.shown(x), "on false running -1 on trial false writes 0 to come -1 draft 17"
                + " startable true false versions 1 0 record 0 valid true false confirmed 0 tries 0 counter 0"
                + " would start 0");
        due.same("slot 0", Devices.image(x, 0, 24), "1 2 3 4 5 6 7 8 0 0 0 0 0 0 0 0 0 0 0 0 0 0 0 0");
        due.same("slot 1", Devices.image(x, 1, 24), "0 0 0 0 0 0 0 0 0 0 0 0 0 0 0 0 0 0 0 0 0 0 0 0");
    }

    private void promise1FailureIsNotChosen() {
        Bootstay x = Devices.on();
        boolean on = true;
        for (int k = 0; k < 300; k++) {
            on &= x.offer(2, 1, 0, 0);
        }
        due.same("300 offers without a failure", on, true);
    }

    private void promise2StartsTheConfirmedSlot() {
        Bootstay x = new Bootstay();
        due.same("switchOn()", x.switchOn(), 0);
        due.same("writes without a trial due", x.writes(), 0);
        due.refused("switchOn() when on", x, STATE, x::switchOn);
        Bootstay y = Devices.updated(7, 3, 9, 8);
        y.switchOff();
        int before = y.writes();
        due.same("switchOn() of slot 1", y.switchOn(), 1);
        due.same("writes of switchOn()", y.writes() - before, 0);
    }

    private void promise2CountsTheTriesDown() {
        Bootstay x = Devices.withTrialDue(3, 2, 0, 4, 5);
        for (int left = 2; left >= 0; left--) {
            x.switchOff();
            int before = x.writes();
            int record = x.record();
            due.same("switchOn() on trial", x.switchOn(), 1);
            due.same("tries()", x.tries(), left);
            due.same("isOnTrial()", x.isOnTrial(), true);
            due.same("confirmed()", x.confirmed(), 0);
            due.same("writes of switchOn()", x.writes() - before, 5);
            due.same("record()", x.record(), 1 - record);
        }
        due.refused("offer() with no tries left, the trial being due", x, STATE, () -> x.offer(9, 1, 0, 0));
    }

    private void promise2StartsAsOftenAsThereAreTries() {
        for (int tries = 1; tries <= 3; tries++) {
            Bootstay x = Devices.withTrialDue(tries, 2, 0, 4, 5);
            int trials = 0;
            for (int start = 0; start < 6; start++) {
                x.switchOff();
                trials += x.switchOn() == 1 ? 1 : 0;
                due.same("tries() behind start " + start, x.tries(), Math.max(0, tries - start - 1));
            }
            due.same("starts of slot 1 with " + tries + " tries", trials, tries);
        }
    }

    private void promise2FallsBack() {
        Bootstay x = Devices.onTrial(1, 2, 0, 4, 5);
        x.switchOff();
        due.same("switchOn() with no tries left", x.switchOn(), 0);
        due.same("after the fallback", Devices.shown(x), "on true running 0 on trial false writes 23 to come -1"
                + " draft 17 startable true true versions 1 2 record 1 valid true true confirmed 0 tries 0 counter 0"
                + " would start 0");
        due.same("offer() after the fallback", x.offer(2, 1, 0, 0), true);
        x.switchOff();
        due.same("switchOn() after the fallback", x.switchOn(), 0);
    }

    /** The counter is kept by a fallback, and a counter as great as that of the record is enough. */
    private void promise2CounterTooLow() {
        Bootstay x = Devices.updated(2, 5, 4, 5);
        Devices.transfer(x, 3, 5, 6, 7, 8);
        x.finish(2);
        x.switchOff();
        due.same("switchOn() with the same counter", x.switchOn(), 0);
        due.same("counter() on trial", x.counter(), 5);
        due.same("confirmed() on trial", x.confirmed(), 1);
        x.switchOff();
        x.switchOn();
        x.switchOff();
        due.same("switchOn() falls back to slot 1", x.switchOn(), 1);
        due.same("counter() after the fallback", x.counter(), 5);
        due.same("confirmed() after the fallback", x.confirmed(), 1);
        due.same("isOnTrial() after the fallback", x.isOnTrial(), false);
    }

    private void promise2FailsOnTheWay() {
        for (int done = 0; done < 5; done++) {
            Bootstay x = Devices.withTrialDue(2, 2, 0, 4, 5);
            x.switchOff();
            x.failAfter(done);
            int before = x.writes();
            due.same("switchOn() failing after " + done, x.switchOn(), Bootstay.NONE);
            due.same("isOn()", x.isOn(), false);
            due.same("running()", x.running(), Bootstay.NONE);
            due.same("writes()", x.writes() - before, done + 1);
            due.same("tries() are not used up", x.tries(), 2);
            due.same("record()", x.record(), 1);
            due.same("isValid(0)", x.isValid(0), false);
            due.same("switchOn() again", x.switchOn(), 1);
            due.same("tries()", x.tries(), 1);
        }
        Bootstay x = Devices.withTrialDue(2, 2, 0, 4, 5);
        x.switchOff();
        x.failAfter(5);
        due.same("switchOn() with the failure behind it", x.switchOn(), 1);
        due.same("confirm() meets the failure", x.confirm(), false);
    }

    private void promise2TornFallback() {
        Bootstay x = Devices.onTrial(1, 2, 0, 4, 5);
        x.switchOff();
        x.failAfter(4);
        due.same("switchOn() failing at the fallback", x.switchOn(), Bootstay.NONE);
        due.same("the trial is still due", x.wouldStart(), 0);
        due.same("switchOn() again", x.switchOn(), 0);
        due.same("offer()", x.offer(2, 1, 0, 0), true);
    }

    private void promise2WithoutAWriteMeetsNoFailure() {
        Bootstay x = new Bootstay();
        x.failAfter(0);
        due.same("switchOn() without a trial due", x.switchOn(), 0);
        due.same("the choice is still there", x.offer(2, 1, 0, 0), false);
    }

    private void promise3WritesNothing() {
        Bootstay x = Devices.withTransfer(2, 0, 4, 5);
        Devices.drafts(x, 6);
        String words = Devices.joined(Inside.words(x));
        x.failAfter(0);
        due.same("switchOff() with a failure chosen", x.switchOff(), 0);
        due.same("writes()", x.writes(), 3);
        due.same("the flash", Devices.joined(Inside.words(x)), words);
        due.same("the draft", x.draftHash(), Devices.hashOf(6));
    }

    private void promise3SwitchesOff() {
        Bootstay x = new Bootstay();
        due.refused("switchOff() when off", x, STATE, x::switchOff);
        x.switchOn();
        due.same("switchOff()", x.switchOff(), 0);
        due.same("isOn()", x.isOn(), false);
        Bootstay y = Devices.onTrial(1, 2, 0, 4);
        due.same("switchOff() of slot 1", y.switchOff(), 1);
        due.refused("switchOff() again", y, STATE, y::switchOff);
        Bootstay z = Devices.withTransfer(2, 0, 4, 5);
        z.switchOff();
        due.same("toCome() after switchOff()", z.toCome(), Bootstay.NONE);
        z.switchOn();
        due.same("toCome() after switchOn()", z.toCome(), Bootstay.NONE);
        due.refused("finish() of a lost transfer", z, STATE, () -> z.finish(1));
        due.same("the bytes in flash stay", Devices.image(z, 1, 3), "4 5 0");
    }

    private void promise4ChoosesAWrite() {
        Bootstay x = Devices.on();
        x.failAfter(1);
        due.same("offer(), done before the failure", x.offer(2, 2, 0, 0), true);
        due.same("put() at the failure", x.put(3), false);
        due.same("isOn()", x.isOn(), false);
        due.same("toCome()", x.toCome(), Bootstay.NONE);
        x.switchOn();
        x.offer(2, 4, 0, 0);
        due.same("nothing is chosen any more", x.put(3) && x.put(4) && x.put(5) && x.put(6), true);
        x.failAfter(0);
        x.switchOff();
        x.switchOn();
        due.same("a choice outlasts switchOff()", x.offer(2, 2, 0, 0), false);
    }

    private void promise4ChoiceIsReplaced() {
        Bootstay x = Devices.on();
        x.failAfter(0);
        x.failAfter(2);
        due.same("a later failure", x.offer(2, 9, 0, 0) && x.put(1), true);
        due.same("at its write", x.put(1), false);
        x.switchOn();
        x.failAfter(0);
        x.failAfter(-1);
        due.same("no failure", x.offer(2, 9, 0, 0), true);
        x.failAfter(5);
        x.failAfter(0);
        due.same("a sooner failure", x.put(1), false);
    }

    private void promise4OutOfRange() {
        int[] wrong = {-2, 1001, Integer.MIN_VALUE, Integer.MAX_VALUE};
        for (int writes : wrong) {
            Bootstay x = Devices.on();
            x.failAfter(0);
            due.same("failAfter(" + writes + ")", Due.answer(() -> fails(x, writes)), "throws " + ARGUMENT.getSimpleName());
            due.same("the choice stays", x.offer(2, 1, 0, 0), false);
        }
    }

    private static Object fails(Bootstay x, int writes) {
        x.failAfter(writes);
        return "done";
    }

    private void promise4EdgeOfTheRange() {
        Bootstay x = Devices.on();
        x.failAfter(1000);
        int done = 0;
        // 25 writes a round of seven calls or so: the failure comes well before the 512th call.
        for (int round = 0; round < 60 && x.isOn(); round++) {
            Devices.offerAndCopy(x);
            done = x.writes();
        }
        due.same("writes() when 1000 were done before the failure", done, 1001);
    }

    private void promise4LeastOfTheRange() {
        Bootstay x = Devices.on();
        x.failAfter(-1);
        due.same("failAfter(-1) with none chosen", x.offer(2, 1, 0, 0), true);
        x.failAfter(0);
        due.same("failAfter(0) fails at the next write", x.put(1), false);
        due.same("writes()", x.writes(), 2);
        x.switchOn();
        x.failAfter(1);
        due.same("failAfter(1) lets one write be done", x.offer(2, 1, 0, 0), true);
        due.same("and fails at the one behind it", x.put(1), false);
    }

    private void promise4ChoiceOutlastsQuestions() {
        Bootstay x = Devices.withTransfer(2, 0, 4, 5);
        x.failAfter(0);
        x.wouldStart();
        x.safeFinish(1);
        x.isStartable(1);
        x.deltaPieces(0);
        due.same("the first write fails", x.finish(1), false);
    }

    private void promises5And6And7() {
        Bootstay x = new Bootstay();
        due.same("isOn() of a new device", x.isOn(), false);
        due.same("running() of a new device", x.running(), Bootstay.NONE);
        due.same("isOnTrial() of a new device", x.isOnTrial(), false);
        x.switchOn();
        due.same("isOn()", x.isOn(), true);
        due.same("running()", x.running(), 0);
        due.same("isOnTrial() of the confirmed slot", x.isOnTrial(), false);
        Devices.transfer(x, 2, 0, 6);
        x.finish(1);
        due.same("running() with a trial due", x.running(), 0);
        due.same("isOnTrial() with a trial due", x.isOnTrial(), false);
        x.switchOff();
        due.same("running() when off", x.running(), Bootstay.NONE);
        due.same("isOnTrial() when off, a trial being due", x.isOnTrial(), false);
        x.switchOn();
        due.same("running() on trial", x.running(), 1);
        due.same("isOnTrial() on trial", x.isOnTrial(), true);
        x.switchOff();
        due.same("isOnTrial() when off, between trials", x.isOnTrial(), false);
        Bootstay y = Devices.updated(2, 0, 6);
        due.same("running() when confirmed", y.running(), 1);
        due.same("isOnTrial() when confirmed", y.isOnTrial(), false);
        y.switchOff();
        due.same("isOnTrial() when off, slot 1 being confirmed", y.isOnTrial(), false);
    }

    private void promise8CountsWrites() {
        Bootstay x = Devices.on();
        due.same("writes() at first", x.writes(), 0);
        x.offer(2, 3, Devices.hashOf(1, 2, 9), 0);
        due.same("writes() after offer()", x.writes(), 1);
        x.copy(0, 2);
        due.same("writes() after copy()", x.writes(), 3);
        x.put(9);
        due.same("writes() after put()", x.writes(), 4);
        x.safeFinish(1);
        x.wouldStart();
        due.same("writes() after asking what if", x.writes(), 4);
        x.finish(1);
        due.same("writes() after finish()", x.writes(), 14);
        x.switchOff();
        x.switchOn();
        due.same("writes() after switchOn()", x.writes(), 19);
        x.failAfter(2);
        x.confirm();
        due.same("writes() counts the failing one", x.writes(), 22);
    }
}
