import java.util.ArrayList;
import java.util.HashMap;
import java.util.List;
import java.util.Map;

/**
 * The document told once more, in another way than Bootstay has it: words have names, a power failure is an exception,
 * images are texts, and "what if" plays the calls through on a copy.
 */
final class Model {
    private static final class PowerFailure extends RuntimeException {
        private static final long serialVersionUID = 1L;
    }

    private final Map<String, Integer> words = new HashMap<>();
    private final List<Integer> come = new ArrayList<>();
    private final StringBuilder drafted = new StringBuilder();
    private int[] offered = null;
    private int runs = -1;
    private int failure = -1;
    private int begun = 0;

    Model() {
        for (int k = 1; k <= 8; k++) {
            words.put("slot 0 byte " + (k - 1), k);
        }
        words.put("slot 0 version", 1);
        words.put("slot 0 length", 8);
        words.put("slot 0 hash", hash("\1\2\3\4\5\6\7\10"));
        words.put("slot 0 mark", 1);
        words.put("record 0 sequence", 1);
        words.put("record 0 check", 8);
    }

    private Model(Model other) {
        words.putAll(other.words);
        come.addAll(other.come);
        offered = other.offered;
        runs = other.runs;
    }

    private static int hash(String bytes) {
        long hash = 17;
        for (char value : bytes.toCharArray()) {
            hash *= 31;
            hash += value + 1;
            hash %= 65521;
        }
        return (int) hash;
    }

    private int word(String name) {
        return words.getOrDefault(name, 0);
    }

    private void write(String name, int value) {
        begun++;
        if (failure == 0) {
            words.put(name, word(name) & value);
            failure = -1;
            runs = -1;
            offered = null;
            throw new PowerFailure();
        }
        failure = Math.max(failure - 1, -1);
        words.put(name, value);
    }

    private boolean stays(Runnable writing) {
        try {
            writing.run();
            return true;
        } catch (PowerFailure e) {
            return false;
        }
    }

    private static void argument(boolean fine) {
        if (!fine) {
            throw new IllegalArgumentException();
        }
    }

    private static void state(boolean fine) {
        if (!fine) {
            throw new IllegalStateException();
        }
    }

    private static void place(boolean fine) {
        if (!fine) {
            throw new IndexOutOfBoundsException();
        }
    }

    private static boolean within(int value, int least, int most) {
        return least <= value && value <= most;
    }

    private String image(int slot) {
        StringBuilder image = new StringBuilder();
        for (int k = 0; k < word("slot " + slot + " length"); k++) {
            image.append((char) word("slot " + slot + " byte " + k));
        }
        return image.toString();
    }

    private boolean startable(int slot) {
        String name = "slot " + slot;
        return word(name + " mark") == 1 && within(word(name + " length"), 1, 24)
                && word(name + " hash") == hash(image(slot));
    }

    private boolean valid(int record) {
        String name = "record " + record;
        int sum = 7 * word(name + " sequence") + 13 * word(name + " state") + 29 * word(name + " counter");
        return word(name + " check") == 1 + sum % 250;
    }

    private int inForce() {
        int[] sequences = new int[2];
        for (int record = 0; record < 2; record++) {
            sequences[record] = valid(record) ? word("record " + record + " sequence") : -1;
        }
        return sequences[0] > sequences[1] ? 0 : 1;
    }

    private int stateWord() {
        return word("record " + inForce() + " state");
    }

    private void writeRecord(int state, int counter) {
        int old = inForce();
        String name = "record " + (1 - old);
        int sequence = word("record " + old + " sequence") + 1;
        write(name + " check", 0);
        write(name + " sequence", sequence);
        write(name + " state", state);
        write(name + " counter", counter);
        write(name + " check", 1 + (7 * sequence + 13 * state + 29 * counter) % 250);
    }

    int switchOn() {
        state(runs == -1);
        int c = confirmed();
        int[] starts = {c};
        boolean held = stays(() -> {
            if (stateWord() % 4 >= 2) {
                if (tries() == 0 || !startable(1 - c) || word("slot " + (1 - c) + " counter") < counter()) {
                    writeRecord(c, counter());
                } else {
                    writeRecord(c + 2 + 4 * (tries() - 1), counter());
                    starts[0] = 1 - c;
                }
            }
        });
        runs = held ? starts[0] : -1;
        return runs;
    }

    int switchOff() {
        state(runs != -1);
        int ran = runs;
        runs = -1;
        offered = null;
        return ran;
    }

    String failAfter(int writes) {
        argument(within(writes, -1, 1000));
        failure = writes;
        return "done";
    }

    boolean isOn() {
        return runs != -1;
    }

    int running() {
        return runs;
    }

    boolean isOnTrial() {
        return runs != -1 && runs != confirmed();
    }

    int writes() {
        return begun;
    }

    boolean offer(int version, int length, int hash, int counter) {
        argument(within(version, 1, 9999) && within(length, 1, 24));
        argument(within(hash, 0, 65520) && within(counter, 0, 9999));
        state(runs != -1 && stateWord() % 4 < 2);
        state(version > word("slot " + runs + " version") && counter >= counter());
        offered = new int[] {version, length, hash, counter};
        come.clear();
        return stays(() -> write("slot " + (1 - runs) + " mark", 0));
    }

    private void append(int value) {
        write("slot " + (1 - runs) + " byte " + come.size(), value);
        come.add(value);
    }

    boolean put(int value) {
        argument(within(value, 0, 255));
        state(toCome() > 0);
        return stays(() -> append(value));
    }

    int copy(int from, int count) {
        argument(within(from, 0, 23) && within(count, 1, 24));
        argument(runs == -1 || from + count <= image(runs).length());
        state(toCome() >= count);
        String source = image(runs);
        int before = come.size();
        stays(() -> source.substring(from, from + count).chars().forEach(this::append));
        return come.size() - before;
    }

    boolean finish(int tries) {
        argument(within(tries, 1, 3));
        state(toCome() == 0);
        StringBuilder bytes = new StringBuilder();
        come.forEach(value -> bytes.append((char) value.intValue()));
        state(hash(bytes.toString()) == offered[2]);
        int[] update = offered;
        offered = null;
        String[] names = {"version", "length", "hash", "counter"};
        return stays(() -> {
            String slot = "slot " + (1 - runs) + " ";
            for (int k = 0; k < 4; k++) {
                write(slot + names[k], update[k]);
            }
            write(slot + "mark", 1);
            writeRecord(confirmed() + 2 + 4 * tries, counter());
        });
    }

    boolean confirm() {
        state(isOnTrial());
        return stays(() -> writeRecord(runs, Math.max(counter(), word("slot " + runs + " counter"))));
    }

    int toCome() {
        return offered == null ? -1 : offered[1] - come.size();
    }

    int draft(int value) {
        argument(within(value, 0, 255));
        state(drafted.length() < 24);
        return drafted.append((char) value).length();
    }

    int clearDraft() {
        int had = drafted.length();
        drafted.setLength(0);
        return had;
    }

    int draftHash() {
        return hash(drafted.toString());
    }

    private List<String> pieces(int slot) {
        argument(within(slot, 0, 1));
        state(startable(slot));
        List<String> pieces = new ArrayList<>();
        String rest = drafted.toString();
        while (!rest.isEmpty()) {
            int length = rest.length();
            while (length > 1 && !image(slot).contains(rest.substring(0, length))) {
                length--;
            }
            pieces.add(rest.substring(0, length));
            rest = rest.substring(length);
        }
        return pieces;
    }

    int deltaPieces(int slot) {
        return pieces(slot).size();
    }

    private String piece(int slot, int piece) {
        List<String> pieces = pieces(slot);
        place(within(piece, 0, pieces.size() - 1));
        return pieces.get(piece);
    }

    int deltaLength(int slot, int piece) {
        return piece(slot, piece).length();
    }

    int deltaFrom(int slot, int piece) {
        String bytes = piece(slot, piece);
        return bytes.length() < 2 ? -1 : image(slot).indexOf(bytes);
    }

    boolean isStartable(int slot) {
        argument(within(slot, 0, 1));
        return startable(slot);
    }

    int version(int slot) {
        argument(within(slot, 0, 1));
        return word("slot " + slot + " version");
    }

    int imageByte(int slot, int place) {
        argument(within(slot, 0, 1));
        place(within(place, 0, 23));
        return word("slot " + slot + " byte " + place);
    }

    int record() {
        return inForce();
    }

    boolean isValid(int record) {
        argument(within(record, 0, 1));
        return valid(record);
    }

    int confirmed() {
        return stateWord() % 2;
    }

    int tries() {
        return stateWord() % 4 >= 2 ? stateWord() / 4 : 0;
    }

    int counter() {
        return word("record " + inForce() + " counter");
    }

    int safeFinish(int tries) {
        Model whole = new Model(this);
        whole.finish(tries);
        int safe = 0;
        for (int done = 0; done < whole.begun; done++) {
            Model torn = new Model(this);
            torn.failAfter(done);
            torn.finish(tries);
            safe += torn.startable(torn.switchOn()) ? 1 : 0;
        }
        return safe;
    }

    int wouldStart() {
        Model copy = new Model(this);
        copy.runs = -1;
        return copy.switchOn();
    }
}
