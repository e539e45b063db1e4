/** Devices in the states that the tests start from. */
final class Devices {
    static final int[] NEW_IMAGE = {1, 2, 3, 4, 5, 6, 7, 8};

    private Devices() {
    }

    static int hashOf(int... bytes) {
        int hash = 17;
        for (int value : bytes) {
            hash = (hash * 31 + value + 1) % 65521;
        }
        return hash;
    }

    static int[] bytes(int length, int first) {
        int[] bytes = new int[length];
        for (int i = 0; i < length; i++) {
            bytes[i] = (first + i) % 256;
        }
        return bytes;
    }

    static Bootstay on() {
        Bootstay device = new Bootstay();
        device.switchOn();
        return device;
    }

    /** Offers the bytes and puts them all; power may fail on the way. */
    static void transfer(Bootstay device, int version, int counter, int... bytes) {
        device.offer(version, bytes.length, hashOf(bytes), counter);
        for (int value : bytes) {
            device.put(value);
        }
    }

    static Bootstay withTransfer(int version, int counter, int... bytes) {
        Bootstay device = on();
        transfer(device, version, counter, bytes);
        return device;
    }

    /** A device that runs slot 0, with a trial due for slot 1. */
    static Bootstay withTrialDue(int tries, int version, int counter, int... bytes) {
        Bootstay device = withTransfer(version, counter, bytes);
        device.finish(tries);
        return device;
    }

    /** A device that runs slot 1 on trial. */
    static Bootstay onTrial(int tries, int version, int counter, int... bytes) {
        Bootstay device = withTrialDue(tries, version, counter, bytes);
        device.switchOff();
        device.switchOn();
        return device;
    }

    /** A device that runs slot 1, confirmed. */
    static Bootstay updated(int version, int counter, int... bytes) {
        Bootstay device = onTrial(1, version, counter, bytes);
        device.confirm();
        return device;
    }

    /** Writes much in few calls: an offer, and 8 bytes or more copied, as long as the device is on. */
    static void offerAndCopy(Bootstay device) {
        if (device.offer(2, 24, 0, 0)) {
            for (int k = 0; k < 3 && device.isOn(); k++) {
                device.copy(0, 8);
            }
        }
    }

    static void drafts(Bootstay device, int... bytes) {
        for (int value : bytes) {
            device.draft(value);
        }
    }

    static String image(Bootstay device, int slot, int length) {
        StringBuilder image = new StringBuilder();
        for (int place = 0; place < length; place++) {
            image.append(place == 0 ? "" : " ").append(device.imageByte(slot, place));
        }
        return image.toString();
    }

    static String joined(int... bytes) {
        StringBuilder joined = new StringBuilder();
        for (int value : bytes) {
            joined.append(joined.length() == 0 ? "" : " ").append(value);
        }
        return joined.toString();
    }

    /** What the inspecting calls answer, but for the images: few calls, since an object is good for 512. */
    static String shown(Bootstay x) {
        return "on " + x.isOn() + " running " + x.running() + " on trial " + x.isOnTrial()
                + " writes " + x.writes() + " to come " + x.toCome() + " draft " + x.draftHash()
                + " startable " + x.isStartable(0) + " " + x.isStartable(1)
                + " versions " + x.version(0) + " " + x.version(1)
                + " record " + x.record() + " valid " + x.isValid(0) + " " + x.isValid(1)
                + " confirmed " + x.confirmed() + " tries " + x.tries() + " counter " + x.counter()
                + " would start " + x.wouldStart();
    }
}
