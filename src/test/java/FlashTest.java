/** Promises 21 to 28: what the flash holds. */
public final class FlashTest {
    private static final Class<IllegalArgumentException> ARGUMENT = IllegalArgumentException.class;
    private static final Class<IndexOutOfBoundsException> PLACE = IndexOutOfBoundsException.class;
    private static final int[] NO_SLOTS = {-1, 2, Integer.MIN_VALUE, Integer.MAX_VALUE};

    private final Due due = new Due();

    private FlashTest() {
    }

    public static void main(String[] args) {
        FlashTest test = new FlashTest();
        test.promise21();
        test.promise21Refuses();
        test.promise22();
        test.promise23();
        test.promise23Refuses();
        test.promise24And25();
        test.promise25TornRecords();
        test.promise25Refuses();
        test.promises26To28();
        test.due.end("FlashTest");
    }

    private void promise21() {
        Bootstay x = new Bootstay();
        due.same("slot 0 of a new device", x.isStartable(0), true);
        due.same("slot 1 of a new device", x.isStartable(1), false);
        x.switchOn();
        Devices.transfer(x, 2, 0, 9);
        due.same("slot 1 before finish()", x.isStartable(1), false);
        x.finish(1);
        due.same("slot 1 behind finish()", x.isStartable(1), true);
        Bootstay longest = Devices.withTrialDue(1, 2, 0, Devices.bytes(24, 250));
        due.same("slot 1 with 24 bytes", longest.isStartable(1), true);
        Bootstay y = Devices.updated(2, 0, 9);
        y.offer(3, 1, 0, 0);
        due.same("slot 0 without its mark", y.isStartable(0), false);
    }

    private void promise21Refuses() {
        Bootstay x = new Bootstay();
        for (int slot : NO_SLOTS) {
            due.refused("isStartable(" + slot + ")", x, ARGUMENT, () -> x.isStartable(slot));
        }
    }

    private void promise22() {
        Bootstay x = new Bootstay();
        due.same("version(0)", x.version(0), 1);
        due.same("version(1)", x.version(1), 0);
        for (int slot : NO_SLOTS) {
            due.refused("version(" + slot + ")", x, ARGUMENT, () -> x.version(slot));
        }
        Bootstay y = Devices.updated(9998, 0, 9);
        Devices.transfer(y, 9999, 0, 9);
        due.same("version(0) before finish()", y.version(0), 1);
        y.finish(1);
        due.same("version(0) behind finish()", y.version(0), 9999);
        due.same("version(1)", y.version(1), 9998);
    }

    private void promise23() {
        Bootstay x = Devices.on();
        due.same("imageByte(0, 0)", x.imageByte(0, 0), 1);
        due.same("imageByte(0, 7)", x.imageByte(0, 7), 8);
        due.same("imageByte(0, 8)", x.imageByte(0, 8), 0);
        due.same("imageByte(0, 23)", x.imageByte(0, 23), 0);
        due.same("imageByte(1, 0)", x.imageByte(1, 0), 0);
        int[] bytes = Devices.bytes(24, 180);
        Devices.transfer(x, 2, 0, bytes);
        due.same("slot 1 before finish()", Devices.image(x, 1, 24), Devices.joined(bytes));
        due.same("slot 0", Devices.image(x, 0, 9), "1 2 3 4 5 6 7 8 0");
    }

    private void promise23Refuses() {
        for (int wrong : NO_SLOTS) {
            Bootstay x = new Bootstay();
            due.refused("imageByte(" + wrong + ", 0)", x, ARGUMENT, () -> x.imageByte(wrong, 0));
            due.refused("imageByte(" + wrong + ", 24)", x, ARGUMENT, () -> x.imageByte(wrong, 24));
        }
        int[] places = {-1, 24, Integer.MIN_VALUE, Integer.MAX_VALUE};
        for (int place : places) {
            Bootstay x = new Bootstay();
            due.refused("imageByte(0, " + place + ")", x, PLACE, () -> x.imageByte(0, place));
            due.refused("imageByte(1, " + place + ")", x, PLACE, () -> x.imageByte(1, place));
        }
    }

    private void promise24And25() {
        Bootstay x = Devices.on();
        due.same("record() of a new device", x.record(), 0);
        due.same("isValid(0) of a new device", x.isValid(0), true);
        due.same("isValid(1) of a new device", x.isValid(1), false);
        Devices.transfer(x, 2, 0, 9);
        x.finish(3);
        due.same("record() behind finish()", x.record(), 1);
        due.same("isValid(0) behind finish()", x.isValid(0), true);
        due.same("isValid(1) behind finish()", x.isValid(1), true);
        x.switchOff();
        x.switchOn();
        due.same("record() on trial", x.record(), 0);
        x.confirm();
        due.same("record() behind confirm()", x.record(), 1);
    }

    /** The record that is not in force goes invalid with the first write, and stays so up to the last. */
    private void promise25TornRecords() {
        for (int done = 0; done <= 5; done++) {
            Bootstay x = Devices.onTrial(3, 2, 0, 9);
            due.same("isValid(1) before", x.isValid(1), true);
            x.failAfter(done);
            x.confirm();
            due.same("isValid(0) behind " + done + " writes", x.isValid(0), true);
            due.same("isValid(1) behind " + done + " writes", x.isValid(1), done == 5);
            due.same("record() behind " + done + " writes", x.record(), done == 5 ? 1 : 0);
        }
    }

    private void promise25Refuses() {
        Bootstay x = new Bootstay();
        for (int record : NO_SLOTS) {
            due.refused("isValid(" + record + ")", x, ARGUMENT, () -> x.isValid(record));
        }
    }

    private void promises26To28() {
        Bootstay x = new Bootstay();
        due.same("confirmed() of a new device", x.confirmed(), 0);
        due.same("tries() of a new device", x.tries(), 0);
        due.same("counter() of a new device", x.counter(), 0);
        Bootstay y = Devices.withTrialDue(3, 2, 8, 9);
        due.same("confirmed() with a trial due", y.confirmed(), 0);
        due.same("tries() with a trial due", y.tries(), 3);
        due.same("counter() with a trial due", y.counter(), 0);
        y.switchOff();
        due.same("tries() when off", y.tries(), 3);
        y.switchOn();
        due.same("confirmed() on trial", y.confirmed(), 0);
        due.same("tries() on trial", y.tries(), 2);
        due.same("counter() on trial", y.counter(), 0);
        y.confirm();
        due.same("confirmed() behind confirm()", y.confirmed(), 1);
        due.same("tries() behind confirm()", y.tries(), 0);
        due.same("counter() behind confirm()", y.counter(), 8);
        y.switchOff();
        due.same("confirmed() when off", y.confirmed(), 1);
        due.same("counter() when off", y.counter(), 8);
    }
}
