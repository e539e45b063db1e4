import java.util.Arrays;

/**
 * The document's 'Terms', up to their boundaries. No run of calls brings about most of these states, so that the words
 * of the flash are set and looked at by Inside.
 */
public final class TermsTest {
    private static final Class<IllegalStateException> STATE = IllegalStateException.class;

    /** Words of slot 1 before the update, and those that the update brings: each pair has bits apart and in common. */
    private static final int[] OLD = {0, 12, 3, 52139, 5};
    private static final int[] IMAGE = {8, 9};

    private final Due due = new Due();

    private TermsTest() {
    }

    public static void main(String[] args) {
        TermsTest test = new TermsTest();
        test.newDeviceSlots();
        test.newDeviceRecords();
        test.powerTearsAWord();
        test.powerTearsFinish();
        test.powerTearsARecord();
        test.powerTearsTheMark();
        test.powerTearsCopies();
        test.powerFailsOnce();
        test.flashStaysWhenOff();
        test.slotMark();
        test.slotLength();
        test.slotHash();
        test.slotHashOfTheFirstBytesAlone();
        test.hashWrapsAround();
        test.hashWrappedAroundCanBeFinished();
        test.recordCheck();
        test.recordCheckWrapsAround();
        test.recordInForce();
        test.recordSequenceRises();
        test.recordStates();
        test.recordsStayValid();
        test.startWithoutATrial();
        test.startWithoutTries();
        test.startOfASlotThatIsNot();
        test.startWithACounterBelow();
        test.startWithTheLastTry();
        test.offerWithoutATrialAlone();
        test.trialIsOfTheOtherSlot();
        test.due.end("TermsTest");
    }

    // A new device

    private void newDeviceSlots() {
        int[] words = Inside.words(new Bootstay());
        due.same("the words of slot 0", Devices.joined(Arrays.copyOf(words, 29)),
                "1 1 8 " + Devices.hashOf(Devices.NEW_IMAGE) + " 0 1 2 3 4 5 6 7 8 0 0 0 0 0 0 0 0 0 0 0 0 0 0 0 0");
        due.same("the words of slot 1", Devices.joined(Arrays.copyOfRange(words, 29, 58)),
                "0 0 0 0 0 0 0 0 0 0 0 0 0 0 0 0 0 0 0 0 0 0 0 0 0 0 0 0 0");
    }

    private void newDeviceRecords() {
        Bootstay x = new Bootstay();
        due.same("record 0", Inside.record(x, 0), "8 1 0 0");
        due.same("record 1", Inside.record(x, 1), "0 0 0 0");
    }

    // Flash and power

    /** The word becomes the bitwise AND of what it was and what was to be written. */
    private void powerTearsAWord() {
        int[][] pairs = {{12, 10, 8}, {255, 0, 0}, {0, 255, 0}, {255, 255, 255}, {0, 0, 0}, {170, 85, 0}, {254, 127, 126}};
        for (int[] pair : pairs) {
            Bootstay x = Devices.withTransfer(2, 0, pair[0]);
            x.offer(2, 1, 0, 0);
            x.failAfter(0);
            x.put(pair[1]);
            due.same(pair[0] + " torn by " + pair[1], x.imageByte(1, 0), pair[2]);
        }
    }

    private static Bootstay readyToFinish() {
        Bootstay device = Devices.withTransfer(10, 6, IMAGE);
        for (int word = 0; word < OLD.length; word++) {
            Inside.setSlot(device, 1, word, OLD[word]);
        }
        Inside.setRecord(device, 1, 77, 0, 3, 9);
        return device;
    }

    /** finish() failing at each of its writes: those before it are done, it is torn, those behind it are not done. */
    private void powerTearsFinish() {
        int hash = Devices.hashOf(IMAGE);
        int check = Inside.checkOf(2, 10, 0);
        int[] places = {30, 31, 32, 33, 29, 62, 63, 64, 65, 62};
        int[] values = {10, 2, hash, 6, 1, 0, 2, 10, 0, check};
        for (int done = 0; done <= places.length; done++) {
            Bootstay x = readyToFinish();
            int[] words = Inside.words(x).clone();
            for (int write = 0; write < done; write++) {
                words[places[write]] = values[write];
            }
            if (done < places.length) {
                words[places[done]] &= values[done];
            }
            x.failAfter(done);
            due.same("finish() failing after " + done, x.finish(2), done == places.length);
            due.same("the words then", Devices.joined(Inside.words(x)), Devices.joined(words));
        }
    }

    /** A record that is written by confirm(), and by both kinds of a start that write one, failing at each write. */
    private void powerTearsARecord() {
        for (int done = 0; done <= 5; done++) {
            Bootstay confirms = Devices.onTrial(3, 2, 9, 4);
            Inside.setRecord(confirms, 1, 77, 7, 7, 7);
            confirms.failAfter(done);
            confirms.confirm();
            due.same("confirm() failing after " + done, Inside.record(confirms, 1), torn(done, 4, 1, 9));
            Bootstay starts = Devices.onTrial(3, 2, 9, 4);
            starts.switchOff();
            Inside.setRecord(starts, 1, 77, 7, 7, 7);
            starts.failAfter(done);
            due.same("switchOn() failing after " + done, starts.switchOn(), done == 5 ? 1 : Bootstay.NONE);
            due.same("its record", Inside.record(starts, 1), torn(done, 4, 6, 0));
            Bootstay fallsBack = Devices.onTrial(1, 2, 9, 4);
            fallsBack.switchOff();
            Inside.setRecord(fallsBack, 1, 77, 7, 7, 7);
            fallsBack.failAfter(done);
            due.same("the fallback failing after " + done, fallsBack.switchOn(), done == 5 ? 0 : Bootstay.NONE);
            due.same("its record", Inside.record(fallsBack, 1), torn(done, 4, 0, 0));
        }
    }

    /** What is left of a record 77 7 7 7, when the writing of another fails after some writes. */
    private static String torn(int done, int sequence, int state, int counter) {
        int[] words = {77, 7, 7, 7};
        int[] places = {0, 1, 2, 3, 0};
        int[] values = {0, sequence, state, counter, Inside.checkOf(sequence, state, counter)};
        for (int write = 0; write < done; write++) {
            words[places[write]] = values[write];
        }
        if (done < places.length) {
            words[places[done]] &= values[done];
        }
        return Devices.joined(words);
    }

    private void powerTearsTheMark() {
        Bootstay x = Devices.updated(2, 0, 4);
        x.failAfter(0);
        due.same("offer() failing", x.offer(3, 1, 0, 0), false);
        due.same("the mark is 0 all the same", Inside.slotWords(x, 0), "0 1 8 " + Devices.hashOf(Devices.NEW_IMAGE) + " 0");
    }

    private void powerTearsCopies() {
        Bootstay x = Devices.withTransfer(2, 0, 255, 255, 255, 255);
        x.offer(2, 4, 0, 0);
        x.failAfter(2);
        due.same("copy() failing at its third write", x.copy(4, 4), 2);
        due.same("the words", Devices.image(x, 1, 5), "5 6 7 255 0");
    }

    /** Power is back at once, and nothing is chosen any more. */
    private void powerFailsOnce() {
        Bootstay x = Devices.withTrialDue(3, 2, 0, 4);
        x.switchOff();
        x.failAfter(0);
        due.same("switchOn() failing", x.switchOn(), Bootstay.NONE);
        due.same("switchOn() at once again", x.switchOn(), 1);
        due.same("confirm() then", x.confirm(), true);
        due.same("offer() then", x.offer(3, 1, 0, 0), true);
    }

    private void flashStaysWhenOff() {
        Bootstay x = Devices.withTransfer(2, 0, 4, 5, 6);
        String before = Devices.joined(Inside.words(x));
        x.switchOff();
        due.same("the words when off", Devices.joined(Inside.words(x)), before);
        x.switchOn();
        due.same("the words when on again", Devices.joined(Inside.words(x)), before);
        due.same("the transfer is lost", x.toCome(), Bootstay.NONE);
    }

    // Slots

    private void slotMark() {
        int[] marks = {0, 2, 3, 255};
        for (int mark : marks) {
            Bootstay x = new Bootstay();
            Inside.setSlot(x, 0, Inside.MARK, mark);
            due.same("startable with the mark " + mark, x.isStartable(0), false);
            Inside.setSlot(x, 0, Inside.MARK, 1);
            due.same("startable with the mark 1", x.isStartable(0), true);
        }
    }

    private void slotLength() {
        int[] lengths = {0, 1, 2, 23, 24, 25, 1000000};
        for (int slot = 0; slot < 2; slot++) {
            for (int length : lengths) {
                Bootstay x = Devices.updated(2, 0, 4, 5, 6);
                Inside.setLengthAndHash(x, slot, length);
                due.same("slot " + slot + " startable with the length " + length, x.isStartable(slot),
                        length >= 1 && length <= 24);
            }
        }
    }

    private void slotHash() {
        Bootstay x = new Bootstay();
        int right = Devices.hashOf(Devices.NEW_IMAGE);
        int[] wrong = {right - 1, right + 1, 0, 17, right + 65521};
        for (int hash : wrong) {
            Inside.setSlot(x, 0, Inside.HASH, hash);
            due.same("startable with the hash " + hash, x.isStartable(0), false);
        }
        Inside.setSlot(x, 0, Inside.HASH, right);
        due.same("startable with the right hash", x.isStartable(0), true);
    }

    private void slotHashOfTheFirstBytesAlone() {
        Bootstay x = new Bootstay();
        Inside.setSlot(x, 0, Inside.IMAGE + 8, 1);
        due.same("startable with another byte behind the length", x.isStartable(0), true);
        Inside.setSlot(x, 0, Inside.IMAGE + 7, 9);
        due.same("startable with another last byte", x.isStartable(0), false);
        Inside.setSlot(x, 0, Inside.IMAGE + 7, 8);
        Inside.setSlot(x, 0, Inside.IMAGE, 2);
        due.same("startable with another first byte", x.isStartable(0), false);
    }

    /** 65521 is 0 again: the least and the greatest hash. */
    private void hashWrapsAround() {
        int[] lasts = {18, 19, 20};
        int[] hashes = {65520, 0, 1};
        for (int k = 0; k < lasts.length; k++) {
            Bootstay x = new Bootstay();
            Devices.drafts(x, 17, 12, lasts[k]);
            due.same("draftHash() of 17 12 " + lasts[k], x.draftHash(), hashes[k]);
        }
    }

    private void hashWrappedAroundCanBeFinished() {
        int[] lasts = {18, 19};
        int[] hashes = {65520, 0};
        for (int k = 0; k < lasts.length; k++) {
            Bootstay x = Devices.on();
            x.offer(2, 3, hashes[k], 0);
            boolean on = x.put(17) && x.put(12) && x.put(lasts[k]);
            due.same("finish() with the hash " + hashes[k], on && x.finish(1), true);
            due.same("isStartable(1)", x.isStartable(1), true);
            due.same("wouldStart()", x.wouldStart(), 1);
        }
    }

    // Boot records

    private void recordCheck() {
        int[][] contents = {{0, 0, 0}, {1, 0, 0}, {0, 1, 0}, {0, 0, 1}, {5, 14, 9999}};
        for (int record = 0; record < 2; record++) {
            for (int[] c : contents) {
                Bootstay x = new Bootstay();
                int right = 1 + (7 * c[0] + 13 * c[1] + 29 * c[2]) % 250;
                int[] wrong = {0, right - 1, right + 1, right + 250};
                for (int check : wrong) {
                    Inside.setRecord(x, record, check, c[0], c[1], c[2]);
                    due.same("record " + Inside.record(x, record) + " valid", x.isValid(record), false);
                }
                Inside.setRecord(x, record, right, c[0], c[1], c[2]);
                due.same("record " + Inside.record(x, record) + " valid", x.isValid(record), true);
            }
        }
    }

    /** 7 times 0 to 249 leaves each remainder once: the check is 1 to 250, and 1 again behind 250. */
    private void recordCheckWrapsAround() {
        int check = 1;
        for (int sequence = 0; sequence < 250; sequence++) {
            Bootstay x = new Bootstay();
            Inside.setRecord(x, 1, check, sequence, 0, 0);
            due.same("record " + Inside.record(x, 1) + " valid", x.isValid(1), true);
            Inside.setRecord(x, 1, check == 250 ? 1 : check + 1, sequence, 0, 0);
            due.same("record " + Inside.record(x, 1) + " valid", x.isValid(1), false);
            check += check + 7 > 250 ? 7 - 250 : 7;
        }
    }

    private void recordInForce() {
        int[][] cases = {{5, 6, 1}, {6, 5, 0}, {9, 10, 1}, {10, 9, 0}, {255, 256, 1}, {0, 1, 1}, {1, 0, 0}};
        for (int[] c : cases) {
            Bootstay x = new Bootstay();
            Inside.setValid(x, 0, c[0], 0, 3);
            Inside.setValid(x, 1, c[1], 1, 4);
            due.same("record() of " + c[0] + " and " + c[1], x.record(), c[2]);
            due.same("confirmed()", x.confirmed(), c[2]);
            due.same("counter()", x.counter(), 3 + c[2]);
            int[] torn = Inside.words(x);
            torn[Inside.recordPlace(c[2], Inside.CHECK)] = 0;
            due.same("record() when the greater one is not valid", x.record(), 1 - c[2]);
            due.same("counter() then", x.counter(), 4 - c[2]);
        }
    }

    /** The sequence of the one in force plus 1, not of the other one. */
    private void recordSequenceRises() {
        Bootstay x = Devices.withTransfer(2, 0, 4);
        Inside.setValid(x, 0, 300, 0, 0);
        Inside.setRecord(x, 1, 0, 999, 3, 9);
        x.finish(1);
        due.same("the record of finish()", Inside.record(x, 1), Inside.checkOf(301, 6, 0) + " 301 6 0");
        due.same("the record that was in force stays", Inside.record(x, 0), Inside.checkOf(300, 0, 0) + " 300 0 0");
    }

    /** The confirmed slot, plus 2 if a trial is due, plus 4 times the tries that are left. */
    private void recordStates() {
        for (int tries = 1; tries <= 3; tries++) {
            Bootstay x = Devices.withTrialDue(tries, 2, 9, 4);
            due.same("the record of finish()", Inside.record(x, 1), right(2, 2 + 4 * tries, 0));
            x.switchOff();
            x.switchOn();
            due.same("the record of switchOn()", Inside.record(x, 0), right(3, 2 + 4 * (tries - 1), 0));
            x.confirm();
            due.same("the record of confirm()", Inside.record(x, 1), right(4, 1, 9));
            Devices.transfer(x, 3, 10, 5);
            x.finish(tries);
            due.same("the record of finish() for slot 0", Inside.record(x, 0), right(5, 3 + 4 * tries, 9));
            x.switchOff();
            x.switchOn();
            due.same("the record of switchOn() of slot 0", Inside.record(x, 1), right(6, 3 + 4 * (tries - 1), 9));
        }
        Bootstay back = Devices.onTrial(1, 2, 9, 4);
        back.switchOff();
        back.switchOn();
        due.same("the record of the fallback", Inside.record(back, 1), right(4, 0, 0));
    }

    private static String right(int sequence, int state, int counter) {
        return Inside.checkOf(sequence, state, counter) + " " + sequence + " " + state + " " + counter;
    }

    /** As many records as 512 calls can write: sequences beyond 250, and both records valid behind each. */
    private void recordsStayValid() {
        Bootstay x = Devices.on();
        Inside.setValid(x, 0, 240, 0, 9990);
        for (int round = 0; round < 20; round++) {
            Devices.transfer(x, 2 + round, 9991, round);
            x.finish(3);
            for (int start = 0; start < 3; start++) {
                x.switchOff();
                x.switchOn();
                due.same("both records valid", x.isValid(0) && x.isValid(1), true);
            }
            x.confirm();
            due.same("record()", x.record(), (round + 1) % 2);
            due.same("confirmed()", x.confirmed(), (round + 1) % 2);
        }
        due.same("the record of the last confirm()", Inside.record(x, 0), right(340, 0, 9991));
    }

    // Starting

    /** A device that is off, with both slots startable, and with a record of this state and counter in force. */
    private static Bootstay withState(int state, int counter) {
        Bootstay device = Devices.updated(2, 0, 4);
        device.switchOff();
        Inside.setSlot(device, 0, Inside.COUNTER, 7);
        Inside.setSlot(device, 1, Inside.COUNTER, 7);
        Inside.setValid(device, 0, 50, state, counter);
        Inside.setRecord(device, 1, 0, 0, 0, 0);
        return device;
    }

    private void starts(String what, Bootstay x, int slot, String record) {
        String before = Inside.state(x);
        due.same(what + ": wouldStart()", x.wouldStart(), slot);
        due.same(what + ": nothing changes", Inside.state(x), before);
        due.same(what + ": switchOn()", x.switchOn(), slot);
        due.same(what + ": record 1", Inside.record(x, 1), record);
    }

    /** (a): even with tries that are left. */
    private void startWithoutATrial() {
        int[] states = {0, 1, 4, 5, 12, 13};
        for (int state : states) {
            Bootstay x = withState(state, 7);
            int before = x.writes();
            due.same("tries() with the state " + state, x.tries(), 0);
            starts("the state " + state, x, state % 2, "0 0 0 0");
            due.same("writes() of a start without a trial", x.writes(), before);
        }
    }

    /** (b): no tries are left. */
    private void startWithoutTries() {
        starts("no tries, slot 0 confirmed", withState(2, 7), 0, right(51, 0, 7));
        starts("no tries, slot 1 confirmed", withState(3, 7), 1, right(51, 1, 7));
    }

    /** (b): slot 1 - c is not startable. */
    private void startOfASlotThatIsNot() {
        for (int c = 0; c < 2; c++) {
            Bootstay unmarked = withState(c + 2 + 12, 7);
            Inside.setSlot(unmarked, 1 - c, Inside.MARK, 0);
            starts("no mark", unmarked, c, right(51, c, 7));
            Bootstay empty = withState(c + 2 + 12, 7);
            Inside.setLengthAndHash(empty, 1 - c, 0);
            starts("the length 0", empty, c, right(51, c, 7));
            Bootstay tooLong = withState(c + 2 + 12, 7);
            Inside.setLengthAndHash(tooLong, 1 - c, 25);
            starts("the length 25", tooLong, c, right(51, c, 7));
            Bootstay broken = withState(c + 2 + 12, 7);
            Inside.setSlot(broken, 1 - c, Inside.IMAGE, 200);
            starts("a broken image", broken, c, right(51, c, 7));
        }
    }

    /** (b) and (c): the counter of slot 1 - c is below that of the record, or just as great, or above. */
    private void startWithACounterBelow() {
        for (int c = 0; c < 2; c++) {
            starts("a counter below", withState(c + 2 + 12, 8), c, right(51, c, 8));
            starts("the same counter", withState(c + 2 + 12, 7), 1 - c, right(51, c + 2 + 8, 7));
            starts("a counter above", withState(c + 2 + 12, 6), 1 - c, right(51, c + 2 + 8, 6));
        }
    }

    /** (c): the trial is still due when the last try is used. */
    private void startWithTheLastTry() {
        for (int c = 0; c < 2; c++) {
            Bootstay x = withState(c + 2 + 4, 7);
            starts("the last try", x, 1 - c, right(51, c + 2, 7));
            due.same("tries()", x.tries(), 0);
            due.same("isOnTrial()", x.isOnTrial(), true);
            due.refused("offer(), the trial being due", x, STATE, () -> x.offer(9, 1, 0, 7));
        }
    }

    // Updates

    private void offerWithoutATrialAlone() {
        int[] states = {2, 6, 14};
        for (int state : states) {
            Bootstay x = new Bootstay();
            x.switchOn();
            Inside.setValid(x, 0, 1, state, 0);
            due.refused("offer() with the state " + state, x, STATE, () -> x.offer(2, 1, 0, 0));
            Inside.setValid(x, 0, 1, state - 2, 0);
            due.same("offer() with the state " + (state - 2), x.offer(2, 1, 0, 0), true);
        }
    }

    private void trialIsOfTheOtherSlot() {
        Bootstay x = Devices.on();
        due.same("on trial as the confirmed slot", x.isOnTrial(), false);
        Inside.setValid(x, 0, 1, 1, 0);
        due.same("on trial as the other slot", x.isOnTrial(), true);
        Inside.setValid(x, 0, 1, 3, 0);
        due.same("on trial as the other slot, a trial being due", x.isOnTrial(), true);
    }
}
