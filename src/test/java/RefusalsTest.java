import java.util.function.Supplier;

/**
 * "If several apply, the one that it lists first is thrown. A call that throws changes nothing.": every call that can
 * throw, in each state that a device can be in, with arguments in and out of range.
 */
public final class RefusalsTest {
    private static final Class<IllegalArgumentException> ARGUMENT = IllegalArgumentException.class;
    private static final Class<IllegalStateException> STATE = IllegalStateException.class;
    private static final Class<IndexOutOfBoundsException> PLACE = IndexOutOfBoundsException.class;

    private static final int[][] OFFERS_OUT_OF_RANGE = {
        {0, 1, 0, 0}, {10000, 1, 0, 0}, {9, 0, 0, 0}, {9, 25, 0, 0}, {9, 1, -1, 0}, {9, 1, 65521, 0}, {9, 1, 0, -1},
        {9, 1, 0, 10000}, {0, 25, 65521, 10000}};

    private final Due due = new Due();

    private RefusalsTest() {
    }

    public static void main(String[] args) {
        RefusalsTest test = new RefusalsTest();
        test.whenOff();
        test.withoutATransfer();
        test.withBytesToCome();
        test.withAllBytesButAnotherHash();
        test.withATrialDue();
        test.onTrial();
        test.confirmedInSlot1();
        test.withAFullDraft();
        test.refusalsUseUpNoWrite();
        test.refusalsLeaveTheOffer();
        test.refusalsLeaveTheTransfer();
        test.refusalsLeaveTheOtherSlot();
        test.due.end("RefusalsTest");
    }

    private void argument(Bootstay x, String call, Supplier<Object> made) {
        due.refused(call, x, ARGUMENT, made);
    }

    private void state(Bootstay x, String call, Supplier<Object> made) {
        due.refused(call, x, STATE, made);
    }

    private void place(Bootstay x, String call, Supplier<Object> made) {
        due.refused(call, x, PLACE, made);
    }

    /** What is refused in every state: arguments that are out of range, whatever else is wrong. */
    private void outOfRange(Bootstay x) {
        for (int writes : new int[] {-2, 1001}) {
            argument(x, "failAfter(" + writes + ")", () -> {
                x.failAfter(writes);
                return "done";
            });
        }
        for (int[] o : OFFERS_OUT_OF_RANGE) {
            argument(x, "offer(" + Devices.joined(o) + ")", () -> x.offer(o[0], o[1], o[2], o[3]));
        }
        for (int value : new int[] {-1, 256}) {
            argument(x, "put(" + value + ")", () -> x.put(value));
            argument(x, "draft(" + value + ")", () -> x.draft(value));
        }
        for (int[] c : new int[][] {{-1, 1}, {24, 1}, {0, 0}, {0, 25}, {-1, 0}, {24, 25}}) {
            argument(x, "copy(" + Devices.joined(c) + ")", () -> x.copy(c[0], c[1]));
        }
        for (int tries : new int[] {0, 4}) {
            argument(x, "finish(" + tries + ")", () -> x.finish(tries));
            argument(x, "safeFinish(" + tries + ")", () -> x.safeFinish(tries));
        }
        for (int slot : new int[] {-1, 2}) {
            argument(x, "deltaPieces(" + slot + ")", () -> x.deltaPieces(slot));
            argument(x, "deltaLength(" + slot + ", -1)", () -> x.deltaLength(slot, -1));
            argument(x, "deltaFrom(" + slot + ", 24)", () -> x.deltaFrom(slot, 24));
            argument(x, "isStartable(" + slot + ")", () -> x.isStartable(slot));
            argument(x, "version(" + slot + ")", () -> x.version(slot));
            argument(x, "imageByte(" + slot + ", 24)", () -> x.imageByte(slot, 24));
            argument(x, "isValid(" + slot + ")", () -> x.isValid(slot));
        }
        for (int outside : new int[] {-1, 24}) {
            place(x, "imageByte(0, " + outside + ")", () -> x.imageByte(0, outside));
            place(x, "imageByte(1, " + outside + ")", () -> x.imageByte(1, outside));
        }
    }

    private void deltasOfAStartable(Bootstay x, int slot, int pieces) {
        for (int piece : new int[] {-1, pieces, pieces + 1}) {
            place(x, "deltaLength(" + slot + ", " + piece + ")", () -> x.deltaLength(slot, piece));
            place(x, "deltaFrom(" + slot + ", " + piece + ")", () -> x.deltaFrom(slot, piece));
        }
    }

    private void deltasOfAnother(Bootstay x, int slot) {
        state(x, "deltaPieces(" + slot + ")", () -> x.deltaPieces(slot));
        for (int piece : new int[] {-1, 0, 24}) {
            state(x, "deltaLength(" + slot + ", " + piece + ")", () -> x.deltaLength(slot, piece));
            state(x, "deltaFrom(" + slot + ", " + piece + ")", () -> x.deltaFrom(slot, piece));
        }
    }

    /** What is refused without a transfer, whether the device is on or off. */
    private void transferCalls(Bootstay x) {
        state(x, "put(0)", () -> x.put(0));
        state(x, "put(255)", () -> x.put(255));
        state(x, "copy(0, 1)", () -> x.copy(0, 1));
        for (int tries = 1; tries <= 3; tries++) {
            int good = tries;
            state(x, "finish(" + good + ")", () -> x.finish(good));
            state(x, "safeFinish(" + good + ")", () -> x.safeFinish(good));
        }
    }

    private void offersInRange(Bootstay x) {
        state(x, "offer(1, 1, 0, 0)", () -> x.offer(1, 1, 0, 0));
        state(x, "offer(9999, 24, 65520, 9999)", () -> x.offer(9999, 24, 65520, 9999));
    }

    private void whenOff() {
        Bootstay x = new Bootstay();
        outOfRange(x);
        transferCalls(x);
        offersInRange(x);
        deltasOfAStartable(x, 0, 0);
        deltasOfAnother(x, 1);
        state(x, "switchOff()", x::switchOff);
        state(x, "confirm()", x::confirm);
        // There is no running image that could be too short.
        state(x, "copy(8, 1) when off", () -> x.copy(8, 1));
        state(x, "copy(23, 24) when off", () -> x.copy(23, 24));
    }

    private void withoutATransfer() {
        Bootstay x = Devices.on();
        outOfRange(x);
        transferCalls(x);
        deltasOfAStartable(x, 0, 0);
        deltasOfAnother(x, 1);
        state(x, "switchOn()", x::switchOn);
        state(x, "confirm()", x::confirm);
        state(x, "offer() of version 1", () -> x.offer(1, 1, 0, 0));
        argument(x, "copy(8, 1)", () -> x.copy(8, 1));
        argument(x, "copy(7, 2)", () -> x.copy(7, 2));
        argument(x, "copy(0, 9)", () -> x.copy(0, 9));
        state(x, "copy(0, 8)", () -> x.copy(0, 8));
        state(x, "copy(7, 1)", () -> x.copy(7, 1));
    }

    private void withBytesToCome() {
        Bootstay x = Devices.on();
        x.offer(2, 4, Devices.hashOf(4), 0);
        x.put(4);
        Devices.drafts(x, 1, 2, 9);
        outOfRange(x);
        deltasOfAStartable(x, 0, 2);
        deltasOfAnother(x, 1);
        state(x, "switchOn()", x::switchOn);
        state(x, "confirm()", x::confirm);
        state(x, "offer() of version 1", () -> x.offer(1, 1, 0, 0));
        state(x, "finish() with three bytes to come", () -> x.finish(1));
        state(x, "safeFinish() with three bytes to come", () -> x.safeFinish(1));
        state(x, "copy() of four bytes", () -> x.copy(0, 4));
        argument(x, "copy() of nine bytes", () -> x.copy(0, 9));
        argument(x, "copy() of four bytes, three of which the image has", () -> x.copy(5, 4));
        due.same("copy() of three bytes", x.copy(5, 3), 3);
    }

    private void withAllBytesButAnotherHash() {
        Bootstay x = Devices.on();
        x.offer(2, 2, Devices.hashOf(1, 2) + 1, 0);
        x.copy(0, 2);
        outOfRange(x);
        transferCalls(x);
        argument(x, "copy(8, 1)", () -> x.copy(8, 1));
        due.same("offer() of the right hash", x.offer(2, 2, Devices.hashOf(1, 2), 0), true);
        due.same("copy() then", x.copy(0, 2), 2);
        due.same("finish() then", x.finish(1), true);
    }

    private void withATrialDue() {
        Bootstay x = Devices.withTrialDue(2, 2, 0, 4, 5);
        outOfRange(x);
        transferCalls(x);
        offersInRange(x);
        state(x, "switchOn()", x::switchOn);
        state(x, "confirm()", x::confirm);
        deltasOfAStartable(x, 0, 0);
        deltasOfAStartable(x, 1, 0);
        x.switchOff();
        state(x, "confirm() when off", x::confirm);
        due.same("switchOn() then", x.switchOn(), 1);
    }

    private void onTrial() {
        Bootstay x = Devices.onTrial(2, 2, 0, 4, 5);
        outOfRange(x);
        transferCalls(x);
        offersInRange(x);
        state(x, "switchOn()", x::switchOn);
        due.same("a refused switchOn() uses up no try", x.tries(), 1);
        // The image that runs is the one on trial, which has two bytes.
        argument(x, "copy(0, 3)", () -> x.copy(0, 3));
        argument(x, "copy(2, 1)", () -> x.copy(2, 1));
        state(x, "copy(0, 2)", () -> x.copy(0, 2));
        due.same("confirm() then", x.confirm(), true);
    }

    private void confirmedInSlot1() {
        Bootstay x = Devices.updated(9999, 9999, 4, 5);
        outOfRange(x);
        transferCalls(x);
        offersInRange(x);
        state(x, "switchOn()", x::switchOn);
        state(x, "confirm()", x::confirm);
    }

    private void withAFullDraft() {
        Bootstay x = Devices.on();
        Devices.drafts(x, Devices.bytes(24, 100));
        outOfRange(x);
        state(x, "draft(0) with 24 bytes", () -> x.draft(0));
        state(x, "draft(255) with 24 bytes", () -> x.draft(255));
        deltasOfAStartable(x, 0, 24);
    }

    /** A chosen failure waits for the first call that is not refused. */
    private void refusalsUseUpNoWrite() {
        Bootstay x = Devices.withTransfer(2, 0, 4, 5);
        x.failAfter(0);
        outOfRange(x);
        state(x, "put() when all have come", () -> x.put(0));
        state(x, "copy() when all have come", () -> x.copy(0, 1));
        state(x, "offer() of version 1", () -> x.offer(1, 1, 0, 0));
        state(x, "confirm()", x::confirm);
        due.same("the first write fails", x.finish(1), false);
        due.same("writes()", x.writes(), 4);
        Bootstay unchosen = Devices.on();
        outOfRange(unchosen);
        due.same("what was refused chooses nothing", unchosen.offer(2, 1, 0, 0), true);
    }

    /** The words of the first offer are those that finish() writes. */
    private void refusalsLeaveTheOffer() {
        Bootstay x = Devices.withTransfer(7, 3, 4, 5);
        argument(x, "offer() out of range", () -> x.offer(8, 3, 0, 10000));
        state(x, "offer() of version 1", () -> x.offer(1, 24, 9, 9));
        due.same("finish()", x.finish(1), true);
        due.same("the words of slot 1", Inside.slotWords(x, 1), "1 7 2 " + Devices.hashOf(4, 5) + " 3");
    }

    /** What comes behind a refused byte takes the place that the refused one would have had. */
    private void refusalsLeaveTheTransfer() {
        Bootstay x = Devices.on();
        x.offer(2, 3, Devices.hashOf(1, 2, 9), 0);
        argument(x, "put(256)", () -> x.put(256));
        state(x, "copy() of more than are to come", () -> x.copy(0, 4));
        due.same("copy()", x.copy(0, 2), 2);
        argument(x, "put(-1)", () -> x.put(-1));
        argument(x, "copy() beyond the image", () -> x.copy(8, 1));
        state(x, "finish() too early", () -> x.finish(1));
        due.same("put()", x.put(9), true);
        state(x, "put() when all have come", () -> x.put(7));
        due.same("the bytes", Devices.image(x, 1, 4), "1 2 9 0");
        due.same("finish()", x.finish(1), true);
    }

    /** A refused offer writes nothing to the mark. */
    private void refusalsLeaveTheOtherSlot() {
        Bootstay x = Devices.updated(5, 3, 4);
        argument(x, "offer() out of range", () -> x.offer(6, 25, 0, 3));
        state(x, "offer() of the running version", () -> x.offer(5, 1, 0, 3));
        state(x, "offer() of a counter below", () -> x.offer(6, 1, 0, 2));
        due.same("slot 0 is startable still", x.isStartable(0), true);
    }
}
