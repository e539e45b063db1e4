/** A boot loader with two slots. ../shared/DOC.md says, promise by promise, what each call does. */
public final class Bootstay {
    public static final int NONE = -1;

    private static final int MOST_WRITES_AHEAD = 1000;
    private static final int MOST_VERSION = 9999;
    private static final int MOST_COUNTER = 9999;
    private static final int MOST_TRIES = 3;
    private static final int MOST_BYTE = 255;
    private static final int HASH_START = 17;
    private static final int HASH_MODULUS = 65521;
    private static final int IMAGE_SIZE = 24;

    private final Store store = new Store();
    // Made once, so that asking "what if" costs no new objects.
    private final Store rehearsal = new Store();
    private final Transfer transfer = new Transfer();
    private final Draft draftImage = new Draft();
    private final Delta delta = new Delta(draftImage, store);
    private int runningSlot = NONE;

    public Bootstay() {
    }

    // ---- power

    public int switchOn() throws IllegalStateException {
        if (isOn()) {
            throw new IllegalStateException("the device is on");
        }
        runningSlot = store.start();
        return runningSlot;
    }

    public int switchOff() throws IllegalStateException {
        requireOn();
        int ran = runningSlot;
        losePower();
        return ran;
    }

    public void failAfter(int writes) throws IllegalArgumentException {
        requireWithin(writes, NONE, MOST_WRITES_AHEAD);
        store.flash.chooseFailure(writes);
    }

    public boolean isOn() {
        return runningSlot != NONE;
    }

    public int running() {
        return runningSlot;
    }

    public boolean isOnTrial() {
        return isOn() && runningSlot != store.confirmedSlot();
    }

    public int writes() {
        return store.flash.begunWrites();
    }

    // ---- updates

    public boolean offer(int version, int length, int hash, int counter)
            throws IllegalArgumentException, IllegalStateException {
        requireWithin(version, 1, MOST_VERSION);
        requireWithin(length, 1, IMAGE_SIZE);
        requireWithin(hash, 0, HASH_MODULUS - 1);
        requireWithin(counter, 0, MOST_COUNTER);
        requireOn();
        if (store.isTrialDue()) {
            throw new IllegalStateException("a trial is due");
        }
        if (version <= store.slotWord(runningSlot, Store.VERSION) || counter < store.recordCounter()) {
            throw new IllegalStateException("the offer is older than what the device has");
        }
        transfer.begin(version, length, hash, counter);
        return stayOn(store.writeSlotWord(idleSlot(), Store.MARK, 0));
    }

    public boolean put(int value) throws IllegalArgumentException, IllegalStateException {
        requireWithin(value, 0, MOST_BYTE);
        requireToCome(1);
        return append(value);
    }

    public int copy(int from, int count) throws IllegalArgumentException, IllegalStateException {
        requireWithin(from, 0, IMAGE_SIZE - 1);
        requireWithin(count, 1, IMAGE_SIZE);
        if (isOn() && from + count > store.slotWord(runningSlot, Store.LENGTH)) {
            throw new IllegalArgumentException("the running image ends before that");
        }
        requireToCome(count);
        // Kept, because a power failure forgets which slot ran.
        int source = runningSlot;
        int written = 0;
        while (written < count && append(store.imageWord(source, from + written))) {
            written++;
        }
        return written;
    }

    public boolean finish(int tries) throws IllegalArgumentException, IllegalStateException {
        requireFinishable(tries);
        boolean powered = store.writeUpdate(idleSlot(), transfer, tries);
        transfer.end();
        return stayOn(powered);
    }

    public boolean confirm() throws IllegalStateException {
        requireOn();
        if (!isOnTrial()) {
            throw new IllegalStateException("the running slot is not on trial");
        }
        int counter = Math.max(store.recordCounter(), store.slotWord(runningSlot, Store.COUNTER));
        return stayOn(store.writeRecord(Store.settledState(runningSlot), counter));
    }

    public int toCome() {
        return transfer.bytesToCome();
    }

    // ---- deltas

    public int draft(int value) throws IllegalArgumentException, IllegalStateException {
        requireWithin(value, 0, MOST_BYTE);
        if (draftImage.isFull()) {
            throw new IllegalStateException("the draft is full");
        }
        return draftImage.append(value);
    }

    public int clearDraft() {
        return draftImage.clear();
    }

    public int draftHash() {
        return draftImage.hash();
    }

    public int deltaPieces(int slot) throws IllegalArgumentException, IllegalStateException {
        requireStartable(slot);
        return delta.pieceCount(slot);
    }

    public int deltaLength(int slot, int piece)
            throws IllegalArgumentException, IllegalStateException, IndexOutOfBoundsException {
        requireStartable(slot);
        int start = delta.pieceStart(slot, piece);
        requirePiece(start);
        return delta.pieceLength(slot, start);
    }

    public int deltaFrom(int slot, int piece)
            throws IllegalArgumentException, IllegalStateException, IndexOutOfBoundsException {
        requireStartable(slot);
        int start = delta.pieceStart(slot, piece);
        requirePiece(start);
        return delta.runFrom(slot, start);
    }

    // ---- the flash

    public boolean isStartable(int slot) throws IllegalArgumentException {
        requireWithin(slot, 0, 1);
        return store.canStart(slot);
    }

    public int version(int slot) throws IllegalArgumentException {
        requireWithin(slot, 0, 1);
        return store.slotWord(slot, Store.VERSION);
    }

    public int imageByte(int slot, int place) throws IllegalArgumentException, IndexOutOfBoundsException {
        requireWithin(slot, 0, 1);
        if (place < 0 || place >= IMAGE_SIZE) {
            throw new IndexOutOfBoundsException("an image has no such place");
        }
        return store.imageWord(slot, place);
    }

    public int record() {
        return store.recordInForce();
    }

    public boolean isValid(int record) throws IllegalArgumentException {
        requireWithin(record, 0, 1);
        return store.isRecordValid(record);
    }

    public int confirmed() {
        return store.confirmedSlot();
    }

    public int tries() {
        return store.triesLeft();
    }

    public int counter() {
        return store.recordCounter();
    }

    // ---- what if

    public int safeFinish(int tries) throws IllegalArgumentException, IllegalStateException {
        requireFinishable(tries);
        int safe = 0;
        for (int done = 0; done < Store.UPDATE_WRITES; done++) {
            rehearsal.mirror(store);
            rehearsal.flash.chooseFailure(done);
            rehearsal.writeUpdate(idleSlot(), transfer, tries);
            if (rehearsal.canStart(rehearsal.slotToStart())) {
                safe++;
            }
        }
        return safe;
    }

    public int wouldStart() {
        return store.slotToStart();
    }

    // ---- what the calls share

    private static void requireWithin(int value, int least, int most) {
        if (value < least || value > most) {
            throw new IllegalArgumentException("an argument is out of range");
        }
    }

    private void requireOn() {
        if (!isOn()) {
            throw new IllegalStateException("the device is off");
        }
    }

    private void requireToCome(int count) {
        if (transfer.bytesToCome() < count) {
            throw new IllegalStateException("no transfer has that many bytes to come");
        }
    }

    private void requireFinishable(int tries) {
        requireWithin(tries, 1, MOST_TRIES);
        if (transfer.bytesToCome() != 0) {
            throw new IllegalStateException("no transfer has all its bytes");
        }
        if (store.imageHash(idleSlot(), transfer.length) != transfer.hash) {
            throw new IllegalStateException("the bytes have another hash than was offered");
        }
    }

    private void requireStartable(int slot) {
        requireWithin(slot, 0, 1);
        if (!store.canStart(slot)) {
            throw new IllegalStateException("the slot is not startable");
        }
    }

    private static void requirePiece(int start) {
        if (start == NONE) {
            throw new IndexOutOfBoundsException("the delta has no such piece");
        }
    }

    private int idleSlot() {
        return 1 - runningSlot;
    }

    private boolean append(int value) {
        return stayOn(store.writeImageWord(idleSlot(), transfer.nextPlace(), value));
    }

    private boolean stayOn(boolean powered) {
        if (!powered) {
            losePower();
        }
        return powered;
    }

    private void losePower() {
        runningSlot = NONE;
        transfer.end();
    }

    private static int hashWith(int hash, int value) {
        return (hash * 31 + value + 1) % HASH_MODULUS;
    }

    /** Words that outlast the power, which can fail at any write. */
    private static final class Flash {
        private final int[] words = new int[Store.FLASH_SIZE];
        private int begun = 0;
        private int writesToFailure = NONE;

        int read(int place) {
            return place >= 0 && place < words.length ? words[place] : 0;
        }

        /** Sets a word as the device's maker does: no write is begun, and no power can fail. */
        void preset(int place, int value) {
            if (place >= 0 && place < words.length) {
                words[place] = value;
            }
        }

        /** Returns whether the power held. */
        boolean write(int place, int value) {
            begun++;
            if (writesToFailure == 0) {
                writesToFailure = NONE;
                preset(place, read(place) & value);
                return false;
            }
            if (writesToFailure > 0) {
                writesToFailure--;
            }
            preset(place, value);
            return true;
        }

        void chooseFailure(int writesBefore) {
            writesToFailure = writesBefore;
        }

        int begunWrites() {
            return begun;
        }

        void mirror(Flash other) {
            for (int place = 0; place < words.length; place++) {
                words[place] = other.read(place);
            }
        }
    }

    /** The slots and boot records as they lie in flash, and what starting makes of them. */
    private static final class Store {
        static final int MARK = 0;
        static final int VERSION = 1;
        static final int LENGTH = 2;
        static final int HASH = 3;
        static final int COUNTER = 4;
        /** The writes of writeUpdate: five words of a slot and five of a record. */
        static final int UPDATE_WRITES = 10;

        private static final int IMAGE = 5;
        private static final int SLOT_SIZE = IMAGE + IMAGE_SIZE;
        private static final int RECORDS = 2 * SLOT_SIZE;
        private static final int CHECK = 0;
        private static final int SEQUENCE = 1;
        private static final int STATE = 2;
        private static final int RECORD_COUNTER = 3;
        private static final int RECORD_SIZE = 4;
        static final int FLASH_SIZE = RECORDS + 2 * RECORD_SIZE;
        private static final int FIRST_IMAGE_LENGTH = 8;

        final Flash flash = new Flash();

        Store() {
            for (int place = 0; place < FIRST_IMAGE_LENGTH; place++) {
                flash.preset(IMAGE + place, place + 1);
            }
            flash.preset(MARK, 1);
            flash.preset(VERSION, 1);
            flash.preset(LENGTH, FIRST_IMAGE_LENGTH);
            flash.preset(HASH, imageHash(0, FIRST_IMAGE_LENGTH));
            flash.preset(RECORDS + SEQUENCE, 1);
            flash.preset(RECORDS + CHECK, checkOf(1, 0, 0));
        }

        void mirror(Store other) {
            flash.mirror(other.flash);
        }

        // The slots

        int slotWord(int slot, int word) {
            return flash.read(slot * SLOT_SIZE + word);
        }

        boolean writeSlotWord(int slot, int word, int value) {
            return flash.write(slot * SLOT_SIZE + word, value);
        }

        int imageWord(int slot, int place) {
            return flash.read(slot * SLOT_SIZE + IMAGE + place);
        }

        boolean writeImageWord(int slot, int place, int value) {
            return flash.write(slot * SLOT_SIZE + IMAGE + place, value);
        }

        int imageHash(int slot, int length) {
            int hash = HASH_START;
            for (int place = 0; place < length && place < IMAGE_SIZE; place++) {
                hash = hashWith(hash, imageWord(slot, place));
            }
            return hash;
        }

        boolean canStart(int slot) {
            int length = slotWord(slot, LENGTH);
            return slotWord(slot, MARK) == 1
                    && length >= 1 && length <= IMAGE_SIZE
                    && slotWord(slot, HASH) == imageHash(slot, length);
        }

        // The boot records

        private static int checkOf(int sequence, int state, int counter) {
            return 1 + (7 * sequence + 13 * state + 29 * counter) % 250;
        }

        private int recordWord(int record, int word) {
            return flash.read(RECORDS + record * RECORD_SIZE + word);
        }

        private boolean writeRecordWord(int record, int word, int value) {
            return flash.write(RECORDS + record * RECORD_SIZE + word, value);
        }

        boolean isRecordValid(int record) {
            return recordWord(record, CHECK) == checkOf(recordWord(record, SEQUENCE),
                    recordWord(record, STATE), recordWord(record, RECORD_COUNTER));
        }

        int recordInForce() {
            if (!isRecordValid(1)) {
                return 0;
            }
            if (!isRecordValid(0)) {
                return 1;
            }
            return recordWord(1, SEQUENCE) > recordWord(0, SEQUENCE) ? 1 : 0;
        }

        int recordCounter() {
            return recordWord(recordInForce(), RECORD_COUNTER);
        }

        int confirmedSlot() {
            return confirmedIn(recordWord(recordInForce(), STATE));
        }

        boolean isTrialDue() {
            return isTrialIn(recordWord(recordInForce(), STATE));
        }

        int triesLeft() {
            return triesIn(recordWord(recordInForce(), STATE));
        }

        private static int confirmedIn(int state) {
            return state & 1;
        }

        private static boolean isTrialIn(int state) {
            return (state & 2) != 0;
        }

        private static int triesIn(int state) {
            return isTrialIn(state) ? state >> 2 : 0;
        }

        static int settledState(int confirmedSlot) {
            return confirmedSlot;
        }

        private static int trialState(int confirmedSlot, int triesLeft) {
            return confirmedSlot + 2 + 4 * triesLeft;
        }

        /** Returns whether the power held. The check is 0 meanwhile, so that a torn record is not valid. */
        boolean writeRecord(int state, int counter) {
            int inForce = recordInForce();
            int target = 1 - inForce;
            int sequence = recordWord(inForce, SEQUENCE) + 1;
            return writeRecordWord(target, CHECK, 0)
                    && writeRecordWord(target, SEQUENCE, sequence)
                    && writeRecordWord(target, STATE, state)
                    && writeRecordWord(target, RECORD_COUNTER, counter)
                    && writeRecordWord(target, CHECK, checkOf(sequence, state, counter));
        }

        // Starting and updating

        int slotToStart() {
            int inForce = recordInForce();
            int state = recordWord(inForce, STATE);
            int confirmedSlot = confirmedIn(state);
            int triedSlot = 1 - confirmedSlot;
            boolean canTry = triesIn(state) > 0
                    && canStart(triedSlot)
                    && slotWord(triedSlot, COUNTER) >= recordWord(inForce, RECORD_COUNTER);
            return canTry ? triedSlot : confirmedSlot;
        }

        /** Returns the slot that starts; NONE if power fails on the way. */
        int start() {
            int slot = slotToStart();
            if (!isTrialDue()) {
                return slot;
            }
            int confirmedSlot = confirmedSlot();
            int state = slot == confirmedSlot
                    ? settledState(confirmedSlot)
                    : trialState(confirmedSlot, triesLeft() - 1);
            return writeRecord(state, recordCounter()) ? slot : NONE;
        }

        /** Returns whether the power held. */
        boolean writeUpdate(int slot, Transfer update, int tries) {
            return writeSlotWord(slot, VERSION, update.version)
                    && writeSlotWord(slot, LENGTH, update.length)
                    && writeSlotWord(slot, HASH, update.hash)
                    && writeSlotWord(slot, COUNTER, update.counter)
                    && writeSlotWord(slot, MARK, 1)
                    && writeRecord(trialState(confirmedSlot(), tries), recordCounter());
        }
    }

    /** What was offered, and how much of it has come. */
    private static final class Transfer {
        int version = 0;
        int length = 0;
        int hash = 0;
        int counter = 0;
        private int come = 0;
        private boolean isGoingOn = false;

        void begin(int offeredVersion, int offeredLength, int offeredHash, int offeredCounter) {
            version = offeredVersion;
            length = offeredLength;
            hash = offeredHash;
            counter = offeredCounter;
            come = 0;
            isGoingOn = true;
        }

        void end() {
            isGoingOn = false;
        }

        int bytesToCome() {
            return isGoingOn ? length - come : NONE;
        }

        /** Returns the place of the byte that comes now. */
        int nextPlace() {
            int place = come;
            come++;
            return place;
        }
    }

    /** An image that is still outside the device. */
    private static final class Draft {
        int size = 0;
        private final int[] bytes = new int[IMAGE_SIZE];

        boolean isFull() {
            return size >= bytes.length;
        }

        /** Returns the size then. */
        int append(int value) {
            if (size >= 0 && size < bytes.length) {
                bytes[size] = value;
                size++;
            }
            return size;
        }

        /** Returns the size until then. */
        int clear() {
            int had = size;
            size = 0;
            return had;
        }

        int byteAt(int place) {
            return place >= 0 && place < bytes.length ? bytes[place] : 0;
        }

        int hash() {
            int hash = HASH_START;
            for (int place = 0; place < size; place++) {
                hash = hashWith(hash, byteAt(place));
            }
            return hash;
        }
    }

    /** The draft cut into pieces against the image of a slot, found anew at each call. */
    private static final class Delta {
        private final Draft draft;
        private final Store store;

        Delta(Draft draft, Store store) {
            this.draft = draft;
            this.store = store;
        }

        int pieceCount(int slot) {
            int pieces = 0;
            int start = 0;
            while (pieces < IMAGE_SIZE && start < draft.size) {
                start += pieceLength(slot, start);
                pieces++;
            }
            return pieces;
        }

        /** Returns the place in the draft at which a piece begins; NONE if there is no such piece. */
        int pieceStart(int slot, int piece) {
            int start = 0;
            for (int before = 0; before < piece && start < draft.size; before++) {
                start += pieceLength(slot, start);
            }
            return piece >= 0 && start < draft.size ? start : NONE;
        }

        int pieceLength(int slot, int start) {
            int from = runFrom(slot, start);
            return from == NONE ? 1 : matchLength(slot, from, start);
        }

        /** Returns where in the image the run that begins at a place of the draft stands; NONE if none does. */
        int runFrom(int slot, int start) {
            int imageLength = store.slotWord(slot, Store.LENGTH);
            int longest = 1;
            int found = NONE;
            for (int from = 0; from < imageLength && from < IMAGE_SIZE; from++) {
                int length = matchLength(slot, from, start);
                if (length > longest) {
                    longest = length;
                    found = from;
                }
            }
            return found;
        }

        /** Returns how many bytes are the same in the image and in the draft from two places on. */
        private int matchLength(int slot, int from, int start) {
            int most = Math.min(store.slotWord(slot, Store.LENGTH) - from, draft.size - start);
            int length = 0;
            while (length < most && store.imageWord(slot, from + length) == draft.byteAt(start + length)) {
                length++;
            }
            return length;
        }
    }
}
