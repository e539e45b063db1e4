/** Promises 9 to 14: updates. */
public final class UpdatesTest {
    private static final Class<IllegalArgumentException> ARGUMENT = IllegalArgumentException.class;
    private static final Class<IllegalStateException> STATE = IllegalStateException.class;

    private final Due due = new Due();

    private UpdatesTest() {
    }

    public static void main(String[] args) {
        UpdatesTest test = new UpdatesTest();
        test.promise9Offers();
        test.promise9ReplacesATransfer();
        test.promise9ClearsTheMark();
        test.promise9Fails();
        test.promise9OutOfRange();
        test.promise9EdgesOfTheRanges();
        test.promise9NotNow();
        test.promise9TooOld();
        test.promise9AtTheGreatest();
        test.promise10Puts();
        test.promise10Fails();
        test.promise10Refuses();
        test.promise11Copies();
        test.promise11CopiesByTheLength();
        test.promise11CopiesTheLastPlace();
        test.promise11Fails();
        test.promise11Refuses();
        test.promise12Finishes();
        test.promise12FailsAtEachWrite();
        test.promise12TearsWords();
        test.promise12Refuses();
        test.promise12CountsTheBytesOfThisTransfer();
        test.promise12EdgesOfTheRanges();
        test.promise12GoesOnFromAWrongHash();
        test.promise13Confirms();
        test.promise13KeepsTheGreaterCounter();
        test.promise13CounterOfTheRecordIsGreater();
        test.promise13FailsAtEachWrite();
        test.promise13Refuses();
        test.promise14();
        test.due.end("UpdatesTest");
    }

    private void promise9Offers() {
        Bootstay x = Devices.on();
        due.same("offer()", x.offer(2, 3, 77, 4), true);
        due.same("after offer()", Devices.shown(x), "on true running 0 on trial false writes 1 to come 3 draft 17"
                + " startable true false versions 1 0 record 0 valid true false confirmed 0 tries 0 counter 0"
                + " would start 0");
    }

    private void promise9ReplacesATransfer() {
        Bootstay x = Devices.on();
        x.offer(9, 24, 1, 9);
        x.put(50);
        x.put(51);
        due.same("offer() in place of another", x.offer(2, 2, Devices.hashOf(60, 61), 0), true);
        due.same("toCome()", x.toCome(), 2);
        x.put(60);
        x.put(61);
        due.same("the bytes begin anew", Devices.image(x, 1, 3), "60 61 0");
        due.same("finish() by the later offer", x.finish(1), true);
        due.same("version(1)", x.version(1), 2);
    }

    private void promise9ClearsTheMark() {
        Bootstay x = Devices.updated(2, 0, 4, 5);
        due.same("slot 0 is startable", x.isStartable(0), true);
        x.offer(3, 1, 0, 0);
        due.same("slot 0 after the offer", x.isStartable(0), false);
        due.same("the running slot after the offer", x.isStartable(1), true);
        due.same("version(0) after the offer", x.version(0), 1);
        due.same("the image after the offer", Devices.image(x, 0, 8), Devices.joined(Devices.NEW_IMAGE));
    }

    private void promise9Fails() {
        Bootstay x = Devices.updated(2, 0, 4, 5);
        x.failAfter(0);
        due.same("offer() at the failure", x.offer(3, 1, 0, 0), false);
        due.same("after the failure", Devices.shown(x), "on false running -1 on trial false writes 24 to come -1"
                + " draft 17 startable false true versions 1 2 record 1 valid true true confirmed 1 tries 0 counter 0"
                + " would start 1");
        Bootstay y = Devices.withTransfer(2, 0, 4, 5);
        y.failAfter(0);
        y.offer(3, 1, 0, 0);
        due.same("the transfer before it is lost too", y.toCome(), Bootstay.NONE);
    }

    private void promise9OutOfRange() {
        int[][] wrong = {
            {0, 1, 0, 0}, {10000, 1, 0, 0}, {-1, 1, 0, 0}, {2, 0, 0, 0}, {2, 25, 0, 0}, {2, -1, 0, 0},
            {2, 1, -1, 0}, {2, 1, 65521, 0}, {2, 1, 0, -1}, {2, 1, 0, 10000},
            {Integer.MIN_VALUE, 1, 0, 0}, {2, Integer.MAX_VALUE, 0, 0}, {2, 1, Integer.MIN_VALUE, 0},
            {2, 1, 0, Integer.MAX_VALUE}, {1, 0, 0, 0}};
        for (int[] w : wrong) {
            Bootstay x = Devices.withTransfer(2, 0, 4, 5);
            due.refused("offer(" + Devices.joined(w) + ")", x, ARGUMENT, () -> x.offer(w[0], w[1], w[2], w[3]));
        }
        Bootstay off = new Bootstay();
        due.refused("offer() out of range when off", off, ARGUMENT, () -> off.offer(2, 1, 0, 10000));
        Bootstay trial = Devices.withTrialDue(1, 2, 0, 4);
        due.refused("offer() out of range, a trial being due", trial, ARGUMENT, () -> trial.offer(2, 1, -1, 0));
    }

    private void promise9EdgesOfTheRanges() {
        Bootstay x = Devices.on();
        due.same("the greatest offer", x.offer(9999, 24, 65520, 9999), true);
        due.same("toCome()", x.toCome(), 24);
        due.same("the least offer above version 1", x.offer(2, 1, 0, 0), true);
        due.same("toCome()", x.toCome(), 1);
    }

    private void promise9NotNow() {
        Bootstay off = new Bootstay();
        due.refused("offer() when off", off, STATE, () -> off.offer(2, 1, 0, 0));
        Bootstay ready = Devices.withTrialDue(2, 2, 0, 4);
        due.refused("offer() behind finish()", ready, STATE, () -> ready.offer(3, 1, 0, 0));
        Bootstay trial = Devices.onTrial(2, 2, 0, 4);
        due.refused("offer() on trial", trial, STATE, () -> trial.offer(3, 1, 0, 0));
        trial.confirm();
        due.same("offer() when confirmed", trial.offer(3, 1, 0, 0), true);
    }

    private void promise9TooOld() {
        Bootstay x = Devices.updated(5, 3, 4);
        due.refused("offer() of the running version", x, STATE, () -> x.offer(5, 1, 0, 3));
        due.refused("offer() of an older version", x, STATE, () -> x.offer(4, 1, 0, 3));
        due.refused("offer() of an older counter", x, STATE, () -> x.offer(6, 1, 0, 2));
        due.same("offer() of the same counter", x.offer(6, 1, 0, 3), true);
        due.refused("a refused offer leaves the transfer", x, STATE, () -> x.offer(5, 7, 0, 3));
        due.same("offer() of a greater counter", x.offer(6, 1, 0, 4), true);
        Bootstay back = Devices.onTrial(1, 5, 3, 4);
        back.switchOff();
        back.switchOn();
        due.same("the version of the slot that does not run is no bar", back.offer(2, 1, 0, 0), true);
    }

    /** No version is above 9999, and no counter is below 0. */
    private void promise9AtTheGreatest() {
        Bootstay x = Devices.updated(9998, 9999, 4);
        due.refused("offer() of the counter 9998", x, STATE, () -> x.offer(9999, 1, 0, 9998));
        due.refused("offer() of the version 9998", x, STATE, () -> x.offer(9998, 1, 0, 9999));
        due.same("offer() of the version 9999", x.offer(9999, 1, Devices.hashOf(5), 9999), true);
        x.put(5);
        x.finish(1);
        x.switchOff();
        x.switchOn();
        x.confirm();
        due.same("version(0)", x.version(0), 9999);
        due.same("counter()", x.counter(), 9999);
        due.refused("offer() of the version 9999 again", x, STATE, () -> x.offer(9999, 1, 0, 9999));
        due.refused("offer() of the version 10000", x, ARGUMENT, () -> x.offer(10000, 1, 0, 9999));
    }

    private void promise10Puts() {
        Bootstay x = Devices.on();
        x.offer(2, 24, 0, 0);
        int[] bytes = Devices.bytes(24, 240);
        boolean on = true;
        for (int value : bytes) {
            on &= x.put(value);
        }
        due.same("put()", on, true);
        due.same("the bytes", Devices.image(x, 1, 24), Devices.joined(bytes));
        due.same("the running slot", Devices.image(x, 0, 9), "1 2 3 4 5 6 7 8 0");
        due.same("writes()", x.writes(), 25);
        due.refused("put() when all have come", x, STATE, () -> x.put(0));
        Bootstay y = Devices.updated(2, 0, 7);
        y.offer(3, 2, 0, 0);
        y.put(99);
        due.same("put() goes to slot 0 when slot 1 runs", y.imageByte(0, 0), 99);
        due.same("slot 1", y.imageByte(1, 0), 7);
    }

    private void promise10Fails() {
        Bootstay x = Devices.withTransfer(2, 0, 0xF0, 0xCC);
        x.offer(2, 3, 0, 0);
        x.failAfter(1);
        due.same("put() before the failure", x.put(0xAA), true);
        due.same("put() at the failure", x.put(0xAA), false);
        due.same("the words", Devices.image(x, 1, 3), "170 136 0");
        due.same("isOn()", x.isOn(), false);
        due.same("toCome()", x.toCome(), Bootstay.NONE);
        due.refused("put() then", x, STATE, () -> x.put(1));
    }

    private void promise10Refuses() {
        Bootstay x = Devices.on();
        due.refused("put() without a transfer", x, STATE, () -> x.put(0));
        x.offer(2, 2, 0, 0);
        int[] wrong = {-1, 256, Integer.MIN_VALUE, Integer.MAX_VALUE};
        for (int value : wrong) {
            due.refused("put(" + value + ")", x, ARGUMENT, () -> x.put(value));
        }
        due.same("put(0)", x.put(0), true);
        due.same("put(255)", x.put(255), true);
        due.same("the bytes", Devices.image(x, 1, 2), "0 255");
        due.refused("put(256) when all have come", x, ARGUMENT, () -> x.put(256));
        Bootstay off = new Bootstay();
        due.refused("put(-1) when off", off, ARGUMENT, () -> off.put(-1));
        due.refused("put() when off", off, STATE, () -> off.put(1));
    }

    private void promise11Copies() {
        Bootstay x = Devices.on();
        x.offer(2, 12, 0, 0);
        x.put(100);
        due.same("copy() of a middle", x.copy(2, 3), 3);
        due.same("toCome()", x.toCome(), 8);
        due.same("writes()", x.writes(), 5);
        due.same("copy() of the whole image", x.copy(0, 8), 8);
        due.same("the bytes", Devices.image(x, 1, 13), "100 3 4 5 1 2 3 4 5 6 7 8 0");
        due.same("toCome() when all have come", x.toCome(), 0);
    }

    private void promise11CopiesByTheLength() {
        Bootstay x = Devices.updated(2, 0, Devices.bytes(24, 30));
        x.offer(3, 24, 0, 0);
        due.same("copy() of 24 bytes", x.copy(0, 24), 24);
        due.same("the bytes in slot 0", Devices.image(x, 0, 24), Devices.joined(Devices.bytes(24, 30)));
        x.offer(3, 1, 0, 0);
        due.same("copy() of the last place", x.copy(23, 1), 1);
        Bootstay y = Devices.updated(2, 0, 7);
        y.offer(3, 24, 0, 0);
        due.refused("copy() beyond a length of 1", y, ARGUMENT, () -> y.copy(1, 1));
        due.refused("copy() over the end of a length of 1", y, ARGUMENT, () -> y.copy(0, 2));
        due.same("copy() up to a length of 1", y.copy(0, 1), 1);
    }

    private void promise11CopiesTheLastPlace() {
        Bootstay x = Devices.on();
        x.offer(2, 3, 0, 0);
        due.refused("copy() of the place behind the last", x, ARGUMENT, () -> x.copy(8, 1));
        due.refused("copy() over the end", x, ARGUMENT, () -> x.copy(7, 2));
        due.same("copy() of the last place", x.copy(7, 1), 1);
        due.same("copy() of the first place", x.copy(0, 1), 1);
        due.same("the bytes", Devices.image(x, 1, 3), "8 1 0");
        due.same("toCome()", x.toCome(), 1);
    }

    private void promise11Fails() {
        Bootstay x = Devices.withTransfer(2, 0, 255, 255, 255, 254, 255);
        x.offer(2, 6, 0, 0);
        x.failAfter(3);
        due.same("copy() with a failure on the way", x.copy(2, 5), 3);
        due.same("the words", Devices.image(x, 1, 6), "3 4 5 6 255 0");
        due.same("isOn()", x.isOn(), false);
        due.same("toCome()", x.toCome(), Bootstay.NONE);
        due.same("writes()", x.writes(), 11);
        Bootstay y = Devices.on();
        y.offer(2, 6, 0, 0);
        y.failAfter(0);
        due.same("copy() failing at once", y.copy(0, 6), 0);
        y.switchOn();
        y.offer(2, 6, 0, 0);
        y.failAfter(5);
        due.same("copy() failing at its last write", y.copy(0, 6), 5);
        y.switchOn();
        y.offer(2, 6, 0, 0);
        y.failAfter(6);
        due.same("copy() with the failure behind it", y.copy(0, 6), 6);
        due.same("isOn()", y.isOn(), true);
    }

    private void promise11Refuses() {
        int[][] wrong = {{-1, 1}, {24, 1}, {0, 0}, {0, 25}, {0, -1}, {0, 9}, {8, 1}, {7, 2}, {23, 24},
            {Integer.MAX_VALUE, 1}, {1, Integer.MAX_VALUE}, {Integer.MIN_VALUE, 1}, {1, Integer.MIN_VALUE}};
        for (int[] w : wrong) {
            Bootstay on = Devices.on();
            due.refused("copy(" + Devices.joined(w) + ") without a transfer", on, ARGUMENT, () -> on.copy(w[0], w[1]));
        }
        Bootstay x = Devices.on();
        due.refused("copy() without a transfer", x, STATE, () -> x.copy(0, 8));
        x.offer(2, 4, 0, 0);
        due.refused("copy() of more than the image has", x, ARGUMENT, () -> x.copy(6, 3));
        due.refused("copy() of more than are to come", x, STATE, () -> x.copy(0, 5));
        due.same("copy() of all that are to come", x.copy(0, 4), 4);
        due.refused("copy() when all have come", x, STATE, () -> x.copy(0, 1));
        Bootstay off = new Bootstay();
        due.refused("copy(23, 24) when off", off, STATE, () -> off.copy(23, 24));
        due.refused("copy(24, 24) when off", off, ARGUMENT, () -> off.copy(24, 24));
        due.refused("copy(0, 25) when off", off, ARGUMENT, () -> off.copy(0, 25));
    }

    private void promise12Finishes() {
        Bootstay x = Devices.withTransfer(9, 4, 7, 8, 9);
        due.same("finish()", x.finish(3), true);
        due.same("after finish()", Devices.shown(x), "on true running 0 on trial false writes 14 to come -1 draft 17"
                + " startable true true versions 1 9 record 1 valid true true confirmed 0 tries 3 counter 0"
                + " would start 1");
        due.refused("finish() again", x, STATE, () -> x.finish(3));
        due.refused("put() behind finish()", x, STATE, () -> x.put(1));
        Bootstay y = Devices.updated(2, 6, 7);
        Devices.transfer(y, 3, 8, Devices.bytes(24, 200));
        due.same("finish() of 24 bytes for slot 0", y.finish(1), true);
        due.same("version(0)", y.version(0), 3);
        due.same("confirmed()", y.confirmed(), 1);
        due.same("counter() stays", y.counter(), 6);
        due.same("tries()", y.tries(), 1);
        due.same("wouldStart()", y.wouldStart(), 0);
    }

    /** The slot is complete once its mark is written; the trial is due only behind the last write. */
    private void promise12FailsAtEachWrite() {
        for (int done = 0; done < 10; done++) {
            Bootstay x = Devices.withTransfer(9, 4, 7, 8, 9);
            x.failAfter(done);
            due.same("finish() failing after " + done, x.finish(2), false);
            due.same("after the failure", Devices.shown(x), "on false running -1 on trial false writes "
                    + (5 + done) + " to come -1 draft 17 startable true " + (done >= 5) + " versions 1 "
                    + (done >= 1 ? 9 : 0) + " record 0 valid true false confirmed 0 tries 0 counter 0 would start 0");
            due.same("switchOn() then", x.switchOn(), 0);
            due.refused("finish() of the lost transfer", x, STATE, () -> x.finish(2));
        }
        Bootstay x = Devices.withTransfer(9, 4, 7, 8, 9);
        x.failAfter(10);
        due.same("finish() with the failure behind it", x.finish(2), true);
        x.switchOff();
        due.same("switchOn() meets the failure", x.switchOn(), Bootstay.NONE);
    }

    private void promise12TearsWords() {
        Bootstay x = Devices.onTrial(1, 12, 5, 7);
        x.switchOff();
        x.switchOn();
        Devices.transfer(x, 10, 3, 8, 9);
        x.failAfter(0);
        x.finish(1);
        due.same("the torn version", x.version(1), 12 & 10);
        due.same("isStartable(1)", x.isStartable(1), false);
        due.same("the image stays", Devices.image(x, 1, 2), "8 9");
    }

    private void promise12Refuses() {
        Bootstay x = Devices.on();
        int[] wrong = {0, 4, -1, Integer.MIN_VALUE, Integer.MAX_VALUE};
        for (int tries : wrong) {
            due.refused("finish(" + tries + ") without a transfer", x, ARGUMENT, () -> x.finish(tries));
        }
        due.refused("finish() without a transfer", x, STATE, () -> x.finish(1));
        x.offer(2, 2, Devices.hashOf(5, 6), 0);
        due.refused("finish() before the bytes", x, STATE, () -> x.finish(1));
        x.put(5);
        due.refused("finish() before the last byte", x, STATE, () -> x.finish(1));
        x.put(7);
        due.refused("finish() with another hash", x, STATE, () -> x.finish(1));
        due.refused("finish(4) with another hash", x, ARGUMENT, () -> x.finish(4));
        due.same("the transfer goes on", x.toCome(), 0);
        Bootstay off = new Bootstay();
        due.refused("finish() when off", off, STATE, () -> off.finish(1));
        due.refused("finish(0) when off", off, ARGUMENT, () -> off.finish(0));
        // What an earlier transfer left behind the last byte is no part of the image.
        Bootstay longBefore = Devices.withTransfer(2, 0, Devices.bytes(24, 90));
        Devices.transfer(longBefore, 2, 0, 1);
        due.same("finish() over a longer image", longBefore.finish(1), true);
        due.same("isStartable(1)", longBefore.isStartable(1), true);
    }

    /** The right bytes of an earlier transfer still stand in the slot, but they have not come in this one. */
    private void promise12CountsTheBytesOfThisTransfer() {
        Bootstay x = Devices.withTransfer(2, 0, 5, 6);
        x.offer(2, 2, Devices.hashOf(5, 6), 0);
        due.refused("finish() before the bytes have come again", x, STATE, () -> x.finish(1));
        due.refused("safeFinish() before the bytes have come again", x, STATE, () -> x.safeFinish(1));
        x.put(5);
        due.refused("finish() before the last byte has come again", x, STATE, () -> x.finish(1));
        x.put(6);
        due.same("finish() when they have", x.finish(1), true);
    }

    /** The least update and the greatest one, each with the least and the greatest number of tries. */
    private void promise12EdgesOfTheRanges() {
        int[] edges = {1, 3};
        for (int tries : edges) {
            Bootstay least = Devices.withTransfer(2, 0, 0);
            due.same("finish(" + tries + ") of a byte", least.finish(tries), true);
            due.same("the words", Inside.slotWords(least, 1), "1 2 1 528 0");
            due.same("tries()", least.tries(), tries);
            Bootstay greatest = Devices.withTransfer(9999, 9999, Devices.bytes(24, 232));
            due.same("finish(" + tries + ") of 24 bytes", greatest.finish(tries), true);
            due.same("the words", Inside.slotWords(greatest, 1),
                    "1 9999 24 " + Devices.hashOf(Devices.bytes(24, 232)) + " 9999");
            due.same("tries()", greatest.tries(), tries);
            due.same("counter() is that of the record in force", greatest.counter(), 0);
        }
    }

    private void promise12GoesOnFromAWrongHash() {
        Bootstay x = Devices.on();
        x.offer(2, 1, Devices.hashOf(4) + 1, 0);
        x.put(4);
        due.refused("finish() with a hash that is 1 too small", x, STATE, () -> x.finish(1));
        due.refused("put() then", x, STATE, () -> x.put(5));
        Devices.transfer(x, 2, 0, 4);
        due.same("finish() of the next offer", x.finish(1), true);
    }

    private void promise13Confirms() {
        Bootstay x = Devices.onTrial(3, 2, 4, 7);
        int before = x.writes();
        due.same("confirm()", x.confirm(), true);
        due.same("writes of confirm()", x.writes() - before, 5);
        due.same("after confirm()", Devices.shown(x), "on true running 1 on trial false writes 22 to come -1 draft 17"
                + " startable true true versions 1 2 record 1 valid true true confirmed 1 tries 0 counter 4"
                + " would start 1");
        x.switchOff();
        due.same("switchOn() behind confirm()", x.switchOn(), 1);
        Bootstay last = Devices.onTrial(1, 2, 4, 7);
        due.same("confirm() with no tries left", last.confirm(), true);
        due.same("confirmed()", last.confirmed(), 1);
    }

    private void promise13KeepsTheGreaterCounter() {
        Bootstay x = Devices.updated(2, 9999, 7);
        due.same("counter() of the slot", x.counter(), 9999);
        Devices.transfer(x, 3, 9999, 8);
        x.finish(1);
        x.switchOff();
        x.switchOn();
        due.same("confirm() of slot 0", x.confirm(), true);
        due.same("counter() stays", x.counter(), 9999);
        due.same("confirmed()", x.confirmed(), 0);
    }

    /** No run of calls brings it about: the counter of the slot is never below that of the record. */
    private void promise13CounterOfTheRecordIsGreater() {
        int[][] counters = {{4, 5, 5}, {5, 5, 5}, {6, 5, 6}, {0, 0, 0}, {9999, 0, 9999}, {0, 9999, 9999}};
        for (int[] c : counters) {
            Bootstay x = Devices.onTrial(2, 2, 0, 7);
            Inside.setSlot(x, 1, Inside.COUNTER, c[0]);
            Inside.setValid(x, 0, 3, 6, c[1]);
            due.same("confirm()", x.confirm(), true);
            due.same("counter() of " + c[0] + " and " + c[1], x.counter(), c[2]);
        }
    }

    private void promise13FailsAtEachWrite() {
        for (int done = 0; done < 5; done++) {
            Bootstay x = Devices.onTrial(2, 2, 4, 7);
            x.failAfter(done);
            due.same("confirm() failing after " + done, x.confirm(), false);
            due.same("after the failure", Devices.shown(x), "on false running -1 on trial false writes " + (18 + done)
                    + " to come -1 draft 17 startable true true versions 1 2 record 0 valid true false confirmed 0"
                    + " tries 1 counter 0 would start 1");
        }
    }

    private void promise13Refuses() {
        Bootstay x = new Bootstay();
        due.refused("confirm() when off", x, STATE, x::confirm);
        x.switchOn();
        due.refused("confirm() of the confirmed slot", x, STATE, x::confirm);
        Devices.transfer(x, 2, 0, 7);
        x.finish(1);
        due.refused("confirm() before the trial", x, STATE, x::confirm);
        x.switchOff();
        due.refused("confirm() when off, a trial being due", x, STATE, x::confirm);
        x.switchOn();
        x.confirm();
        due.refused("confirm() again", x, STATE, x::confirm);
    }

    private void promise14() {
        Bootstay x = new Bootstay();
        due.same("toCome() when off", x.toCome(), Bootstay.NONE);
        x.switchOn();
        due.same("toCome() without a transfer", x.toCome(), Bootstay.NONE);
        x.offer(2, 24, 0, 0);
        due.same("toCome() at first", x.toCome(), 24);
        x.put(1);
        due.same("toCome() behind put()", x.toCome(), 23);
        x.copy(0, 8);
        due.same("toCome() behind copy()", x.toCome(), 15);
        x.offer(2, 1, Devices.hashOf(1), 0);
        x.put(1);
        due.same("toCome() when all have come", x.toCome(), 0);
        x.finish(1);
        due.same("toCome() behind finish()", x.toCome(), Bootstay.NONE);
    }
}
