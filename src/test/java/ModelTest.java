import java.util.Random;
import java.util.function.Supplier;

/** Long mixed runs of calls, always the same ones, on a device and on the model side by side. */
public final class ModelTest {
    private static final int RUNS = 3000;
    private static final int CALLS = 512;
    private static final int KINDS = 29;

    private final Due due;
    private final String name;
    private final Random random;
    private final Bootstay device = new Bootstay();
    private final Model model = new Model();
    private int[] planned = {};
    private int next = 0;

    private ModelTest(Due due, int run) {
        this.due = due;
        this.name = "run " + run;
        this.random = new Random(run);
    }

    public static void main(String[] args) {
        Due due = new Due();
        for (int run = 0; run < RUNS; run++) {
            new ModelTest(due, run).run();
        }
        due.end("ModelTest");
    }

    private void run() {
        for (int call = 1; call <= CALLS; call++) {
            if (random.nextInt(3) == 0) {
                anyCall(name + " call " + call + ": ");
            } else {
                usefulCall(name + " call " + call + ": ");
            }
        }
    }

    private void both(String call, Supplier<Object> got, Supplier<Object> want) {
        due.same(call, Due.answer(got), Due.answer(want));
    }

    /** A call that brings the device on: a transfer's next bytes, its end, a start, a confirmation. */
    private void usefulCall(String at) {
        if (random.nextInt(25) == 0) {
            failAfter(at, random.nextInt(12));
        } else if (!model.isOn()) {
            both(at + "switchOn()", device::switchOn, model::switchOn);
        } else if (model.toCome() > 0 && random.nextInt(40) > 0) {
            append(at);
        } else if (model.toCome() == 0 && random.nextInt(5) > 0) {
            int tries = 1 + random.nextInt(3);
            if (random.nextBoolean()) {
                both(at + "safeFinish()", () -> device.safeFinish(tries), () -> model.safeFinish(tries));
            } else {
                both(at + "finish()", () -> device.finish(tries), () -> model.finish(tries));
            }
        } else if (model.isOnTrial() && random.nextInt(3) == 0) {
            both(at + "confirm()", device::confirm, model::confirm);
        } else if (model.tries() > 0 || model.isOnTrial()) {
            both(at + "switchOff()", device::switchOff, model::switchOff);
        } else {
            offer(at);
        }
    }

    private void offer(String at) {
        planned = new int[1 + random.nextInt(random.nextBoolean() ? 24 : 4)];
        for (int k = 0; k < planned.length; k++) {
            planned[k] = byteToSend();
        }
        next = 0;
        int version = model.version(model.running()) + random.nextInt(4);
        int counter = Math.max(0, model.counter() + random.nextInt(5) - 1);
        int hash = random.nextInt(15) == 0 ? random.nextInt(65521) : Devices.hashOf(planned);
        both(at + "offer()", () -> device.offer(version, planned.length, hash, counter),
                () -> model.offer(version, planned.length, hash, counter));
    }

    /** Few different bytes, so that runs are found. */
    private int byteToSend() {
        return random.nextInt(10) == 0 ? random.nextInt(256) : 1 + random.nextInt(4);
    }

    private void append(String at) {
        if (random.nextInt(4) == 0) {
            int from = random.nextInt(8);
            int count = 1 + random.nextInt(4);
            both(at + "copy()", () -> device.copy(from, count), () -> model.copy(from, count));
            // The copied bytes are seldom the planned ones: then the hash is wrong, and finish() has to say so.
            next += count;
        } else {
            int value = next < planned.length ? planned[next] : byteToSend();
            next++;
            both(at + "put(" + value + ")", () -> device.put(value), () -> model.put(value));
        }
    }

    private void failAfter(String at, int writes) {
        both(at + "failAfter(" + writes + ")", () -> {
            device.failAfter(writes);
            return "done";
        }, () -> model.failAfter(writes));
    }

    private int near(int least, int most) {
        return random.nextInt(12) == 0 ? (random.nextBoolean() ? least - 1 : most + 1)
                : least + random.nextInt(most - least + 1);
    }

    private void anyCall(String at) {
        int slot = near(0, 1);
        int piece = near(0, 7);
        int value = random.nextInt(12) == 0 ? near(0, 255) : byteToSend();
        int tries = near(1, 3);
        switch (random.nextInt(KINDS)) {
            case 0 -> both(at + "switchOn()", device::switchOn, model::switchOn);
            case 1 -> both(at + "switchOff()", device::switchOff, model::switchOff);
            case 2 -> failAfter(at, random.nextBoolean() ? -1 : near(-1, 1000));
            case 3 -> both(at + "isOn()", device::isOn, model::isOn);
            case 4 -> both(at + "running()", device::running, model::running);
            case 5 -> both(at + "isOnTrial()", device::isOnTrial, model::isOnTrial);
            case 6 -> both(at + "writes()", device::writes, model::writes);
            case 7 -> anyOffer(at);
            case 8 -> both(at + "put()", () -> device.put(value), () -> model.put(value));
            case 9 -> anyCopy(at);
            case 10 -> both(at + "finish()", () -> device.finish(tries), () -> model.finish(tries));
            case 11 -> both(at + "confirm()", device::confirm, model::confirm);
            case 12 -> both(at + "toCome()", device::toCome, model::toCome);
            case 13, 14, 15 -> both(at + "draft()", () -> device.draft(value), () -> model.draft(value));
            case 16 -> clearDraftNowAndThen(at);
            case 17 -> both(at + "draftHash()", device::draftHash, model::draftHash);
            case 18 -> both(at + "deltaPieces()", () -> device.deltaPieces(slot), () -> model.deltaPieces(slot));
            case 19 -> both(at + "deltaLength()", () -> device.deltaLength(slot, piece),
                    () -> model.deltaLength(slot, piece));
            case 20 -> both(at + "deltaFrom()", () -> device.deltaFrom(slot, piece),
                    () -> model.deltaFrom(slot, piece));
            default -> inspect(at, slot, tries);
        }
    }

    private void anyOffer(String at) {
        int version = near(1, 9999);
        int length = near(1, 24);
        int hash = near(0, 65520);
        int counter = near(0, 9999);
        both(at + "any offer()", () -> device.offer(version, length, hash, counter),
                () -> model.offer(version, length, hash, counter));
    }

    private void anyCopy(String at) {
        int from = near(0, 23);
        int count = near(1, 24);
        both(at + "any copy()", () -> device.copy(from, count), () -> model.copy(from, count));
    }

    private void clearDraftNowAndThen(String at) {
        if (random.nextInt(4) == 0) {
            both(at + "clearDraft()", device::clearDraft, model::clearDraft);
        }
    }

    private void inspect(String at, int slot, int tries) {
        int place = near(0, 23);
        switch (random.nextInt(10)) {
            case 0 -> both(at + "isStartable()", () -> device.isStartable(slot), () -> model.isStartable(slot));
            case 1 -> both(at + "version()", () -> device.version(slot), () -> model.version(slot));
            case 2 -> both(at + "imageByte()", () -> device.imageByte(slot, place), () -> model.imageByte(slot, place));
            case 3 -> both(at + "record()", device::record, model::record);
            case 4 -> both(at + "isValid()", () -> device.isValid(slot), () -> model.isValid(slot));
            case 5 -> both(at + "confirmed()", device::confirmed, model::confirmed);
            case 6 -> both(at + "tries()", device::tries, model::tries);
            case 7 -> both(at + "counter()", device::counter, model::counter);
            case 8 -> both(at + "safeFinish()", () -> device.safeFinish(tries), () -> model.safeFinish(tries));
            default -> both(at + "wouldStart()", device::wouldStart, model::wouldStart);
        }
    }
}
