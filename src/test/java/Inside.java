import java.lang.reflect.Field;
import java.lang.reflect.Modifier;
import java.util.Arrays;
import java.util.Collections;
import java.util.IdentityHashMap;
import java.util.Set;

/**
 * Looks into a device without a call of it, and sets its flash words to what no run of calls brings about. It knows
 * the names of Bootstay's private fields and the order of its words; who changes them there changes them here.
 */
final class Inside {
    static final int MARK = 0;
    static final int VERSION = 1;
    static final int LENGTH = 2;
    static final int HASH = 3;
    static final int COUNTER = 4;
    static final int IMAGE = 5;
    static final int SLOT_SIZE = 29;

    static final int CHECK = 0;
    static final int SEQUENCE = 1;
    static final int STATE = 2;
    static final int RECORD_COUNTER = 3;
    static final int RECORDS = 2 * SLOT_SIZE;
    static final int RECORD_SIZE = 4;

    private Inside() {
    }

    /** The words themselves: who writes to them writes to the flash of the device. */
    static int[] words(Bootstay device) {
        return (int[]) field(field(field(device, "store"), "flash"), "words");
    }

    static int slotPlace(int slot, int word) {
        return slot * SLOT_SIZE + word;
    }

    static int recordPlace(int record, int word) {
        return RECORDS + record * RECORD_SIZE + word;
    }

    static void setSlot(Bootstay device, int slot, int word, int value) {
        words(device)[slotPlace(slot, word)] = value;
    }

    /** The hash of the slot's first bytes is set with the length, so that the length alone decides. */
    static void setLengthAndHash(Bootstay device, int slot, int length) {
        int from = slotPlace(slot, IMAGE);
        int[] image = Arrays.copyOfRange(words(device), from, from + Math.min(length, 24));
        setSlot(device, slot, LENGTH, length);
        setSlot(device, slot, HASH, Devices.hashOf(image));
    }

    static void setRecord(Bootstay device, int record, int... words) {
        System.arraycopy(words, 0, words(device), recordPlace(record, 0), RECORD_SIZE);
    }

    /** A record with its right check. */
    static void setValid(Bootstay device, int record, int sequence, int state, int counter) {
        setRecord(device, record, checkOf(sequence, state, counter), sequence, state, counter);
    }

    static int checkOf(int sequence, int state, int counter) {
        return 1 + (7 * sequence + 13 * state + 29 * counter) % 250;
    }

    static String record(Bootstay device, int record) {
        int from = recordPlace(record, 0);
        return Devices.joined(Arrays.copyOfRange(words(device), from, from + RECORD_SIZE));
    }

    static String slotWords(Bootstay device, int slot) {
        int from = slotPlace(slot, 0);
        return Devices.joined(Arrays.copyOfRange(words(device), from, from + IMAGE));
    }

    /** All that the device holds: what is the same here answers every later call alike. */
    static String state(Bootstay device) {
        StringBuilder state = new StringBuilder();
        append(state, device, Collections.newSetFromMap(new IdentityHashMap<>()));
        return state.toString();
    }

    private static void append(StringBuilder state, Object held, Set<Object> seen) {
        if (held instanceof int[] row) {
            state.append(Arrays.toString(row));
        } else if (held == null || !held.getClass().getName().startsWith("Bootstay")) {
            state.append(held);
        } else if (seen.add(held)) {
            for (Field field : held.getClass().getDeclaredFields()) {
                if (!Modifier.isStatic(field.getModifiers())) {
                    state.append(' ').append(field.getName()).append(' ');
                    append(state, value(held, field), seen);
                }
            }
        }
    }

    private static Object field(Object owner, String name) {
        try {
            return value(owner, owner.getClass().getDeclaredField(name));
        } catch (NoSuchFieldException e) {
            throw new IllegalStateException(e);
        }
    }

    private static Object value(Object owner, Field field) {
        try {
            field.setAccessible(true);
            return field.get(owner);
        } catch (IllegalAccessException e) {
            throw new IllegalStateException(e);
        }
    }
}
