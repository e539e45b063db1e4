/** Promises 15 to 20: the draft and its deltas. */
public final class DeltasTest {
    private static final Class<IllegalArgumentException> ARGUMENT = IllegalArgumentException.class;
    private static final Class<IllegalStateException> STATE = IllegalStateException.class;
    private static final Class<IndexOutOfBoundsException> PLACE = IndexOutOfBoundsException.class;

    private final Due due = new Due();

    private DeltasTest() {
    }

    public static void main(String[] args) {
        DeltasTest test = new DeltasTest();
        test.promise15();
        test.promise15Refuses();
        test.promise16();
        test.promise17();
        test.promise17FollowsEachByte();
        test.promises18To20OfTheNewImage();
        test.promises18To20TakeTheLongest();
        test.promises18To20TakeTheFirst();
        test.promises18To20GoFromTheLeft();
        test.promises18To20EndWithTheImage();
        test.promises18To20EndWithTheDraft();
        test.promises18To20OfShortImages();
        test.promises18To20OfLongDrafts();
        test.promises18To20AtFullLength();
        test.promises18To20WithoutPower();
        test.promises18To20FollowTheFlash();
        test.promises18To20WithoutTheMark();
        test.promises18To20Refuse();
        test.due.end("DeltasTest");
    }

    private static Bootstay drafted(int... bytes) {
        Bootstay device = new Bootstay();
        Devices.drafts(device, bytes);
        return device;
    }

    /** The pieces as "length@from", the way deltaLength() and deltaFrom() tell them. */
    private static String delta(Bootstay device, int slot) {
        StringBuilder pieces = new StringBuilder();
        int count = device.deltaPieces(slot);
        for (int piece = 0; piece < count; piece++) {
            pieces.append(piece == 0 ? "" : " ");
            pieces.append(device.deltaLength(slot, piece)).append('@').append(device.deltaFrom(slot, piece));
        }
        return pieces.toString();
    }

    private void promise15() {
        Bootstay x = new Bootstay();
        for (int k = 1; k <= 24; k++) {
            due.same("draft() of byte " + k, x.draft(k == 1 ? 0 : 255), k);
        }
        due.refused("draft() when it has 24", x, STATE, () -> x.draft(1));
        due.same("the device stays", x.writes(), 0);
        due.same("the flash stays", Devices.image(x, 0, 24), "1 2 3 4 5 6 7 8 0 0 0 0 0 0 0 0 0 0 0 0 0 0 0 0");
        x.switchOn();
        x.switchOff();
        due.same("the draft outlasts the power", x.clearDraft(), 24);
    }

    private void promise15Refuses() {
        Bootstay x = new Bootstay();
        int[] wrong = {-1, 256, Integer.MIN_VALUE, Integer.MAX_VALUE};
        for (int value : wrong) {
            due.refused("draft(" + value + ")", x, ARGUMENT, () -> x.draft(value));
        }
        Devices.drafts(x, Devices.bytes(24, 0));
        due.refused("draft(256) when it has 24", x, ARGUMENT, () -> x.draft(256));
        due.same("clearDraft()", x.clearDraft(), 24);
    }

    private void promise16() {
        Bootstay x = new Bootstay();
        due.same("clearDraft() of none", x.clearDraft(), 0);
        Devices.drafts(x, 4, 5, 6);
        due.same("clearDraft() of three", x.clearDraft(), 3);
        due.same("clearDraft() again", x.clearDraft(), 0);
        due.same("draftHash() then", x.draftHash(), 17);
        due.same("draft() then", x.draft(1), 1);
        due.same("draftHash() begins anew", x.draftHash(), Devices.hashOf(1));
    }

    private void promise17() {
        Bootstay x = new Bootstay();
        due.same("draftHash() of none", x.draftHash(), 17);
        x.draft(5);
        due.same("draftHash() of 5", x.draftHash(), 533);
        x.clearDraft();
        Devices.drafts(x, 9, 9, 1, 2);
        due.same("draftHash() of 9 9 1 2", x.draftHash(), 20318);
        x.clearDraft();
        x.draft(0);
        due.same("draftHash() of 0", x.draftHash(), 528);
        x.draft(0);
        due.same("draftHash() of 0 0", x.draftHash(), 16369);
        x.clearDraft();
        int[] bytes = Devices.bytes(24, 244);
        Devices.drafts(x, bytes);
        due.same("draftHash() of 24 bytes", x.draftHash(), Devices.hashOf(bytes));
    }

    private void promise17FollowsEachByte() {
        Bootstay x = new Bootstay();
        int[] bytes = Devices.bytes(24, 250);
        long hash = 17;
        for (int value : bytes) {
            x.draft(value);
            hash = (hash * 31 + value + 1) % 65521;
            due.same("draftHash() behind " + value, (long) x.draftHash(), hash);
        }
    }

    private void promises18To20OfTheNewImage() {
        Bootstay x = new Bootstay();
        due.same("the delta of an empty draft", delta(x, 0), "");
        Devices.drafts(x, 1);
        due.same("a byte that stands in the image", delta(x, 0), "1@-1");
        Devices.drafts(x, 2);
        due.same("a run of two", delta(x, 0), "2@0");
        Devices.drafts(x, 9, 7, 8, 8, 3);
        due.same("runs and bytes", delta(x, 0), "2@0 1@-1 2@6 1@-1 1@-1");
        x.clearDraft();
        Devices.drafts(x, Devices.NEW_IMAGE);
        due.same("the image itself", delta(x, 0), "8@0");
    }

    private void promises18To20TakeTheLongest() {
        Bootstay x = Devices.updated(2, 0, 1, 2, 9, 1, 2, 3, 9, 1, 2, 3, 4);
        Devices.drafts(x, 1, 2, 3, 4);
        due.same("the longest stands last", delta(x, 1), "4@7");
        Devices.drafts(x, 1, 2, 3, 5);
        due.same("the longest stands in the middle", delta(x, 1), "4@7 3@3 1@-1");
        Devices.drafts(x, 1, 2, 4);
        due.same("the longest stands first", delta(x, 1), "4@7 3@3 1@-1 2@0 1@-1");
    }

    private void promises18To20TakeTheFirst() {
        Bootstay x = Devices.updated(2, 0, 4, 7, 7, 7, 7, 4, 7, 7);
        Devices.drafts(x, 7, 7);
        due.same("the first of several places", delta(x, 1), "2@1");
        Devices.drafts(x, 7, 7, 7);
        due.same("places that overlap", delta(x, 1), "4@1 1@-1");
        x.clearDraft();
        Devices.drafts(x, 4, 7, 7);
        due.same("the first of two equal runs", delta(x, 1), "3@0");
    }

    private void promises18To20GoFromTheLeft() {
        Bootstay x = Devices.updated(2, 0, 1, 2, 8, 2, 3, 4, 5);
        Devices.drafts(x, 1, 2, 3, 4, 5);
        due.same("the left run is taken, though a longer one begins in it", delta(x, 1), "2@0 3@4");
        due.same("against the other slot", delta(x, 0), "5@0");
    }

    /** What stands in flash behind the length of the slot is no part of its image. */
    private void promises18To20EndWithTheImage() {
        Bootstay x = Devices.withTransfer(2, 0, Devices.bytes(24, 50));
        Devices.transfer(x, 2, 0, 50, 51, 52);
        x.finish(1);
        Devices.drafts(x, 51, 52, 53, 54);
        due.same("a run up to the end of the image", delta(x, 1), "2@1 1@-1 1@-1");
        x.clearDraft();
        Devices.drafts(x, 8, 0, 0);
        due.same("the zeros behind the image", delta(x, 0), "1@-1 1@-1 1@-1");
    }

    /** What an earlier, longer draft had there is no part of the draft. */
    private void promises18To20EndWithTheDraft() {
        Bootstay x = drafted(9, 1, 2, 3);
        due.same("the longer draft", delta(x, 0), "1@-1 3@0");
        x.clearDraft();
        Devices.drafts(x, 9, 1);
        due.same("the shorter draft", delta(x, 0), "1@-1 1@-1");
        x.clearDraft();
        Devices.drafts(x, 9, 1, 2);
        due.same("the draft between", delta(x, 0), "1@-1 2@0");
    }

    private void promises18To20OfShortImages() {
        Bootstay one = Devices.withTrialDue(1, 2, 0, 7);
        Devices.drafts(one, 7, 7);
        due.same("an image of one byte has no run", delta(one, 1), "1@-1 1@-1");
        Bootstay two = Devices.withTrialDue(1, 2, 0, 7, 8);
        Devices.drafts(two, 7, 8, 8, 7, 8, 7);
        due.same("an image of two bytes has one", delta(two, 1), "2@0 1@-1 2@0 1@-1");
        Bootstay zeros = Devices.withTrialDue(1, 2, 0, 0, 0);
        Devices.drafts(zeros, 0, 0, 0);
        due.same("zeros behind the image are none of it", delta(zeros, 1), "2@0 1@-1");
    }

    private void promises18To20OfLongDrafts() {
        Bootstay x = drafted(1, 2, 3, 4, 5, 6, 7, 8, 1, 2, 3, 4, 5, 6, 7, 8, 1, 2, 3, 4, 5, 6, 7, 8);
        due.same("three times the image", delta(x, 0), "8@0 8@0 8@0");
        due.refused("the piece behind the last", x, PLACE, () -> x.deltaFrom(0, 3));
        x.clearDraft();
        Devices.drafts(x, 7, 8, 9, 8, 7);
        due.same("the last two bytes of the image", delta(x, 0), "2@6 1@-1 1@-1 1@-1");
        due.same("the last piece", x.deltaLength(0, 3), 1);
    }

    private void promises18To20AtFullLength() {
        int[] image = Devices.bytes(24, 100);
        Bootstay x = Devices.updated(2, 0, image);
        Devices.drafts(x, image);
        due.same("24 bytes in one run", delta(x, 1), "24@0");
        x.clearDraft();
        Devices.drafts(x, Devices.bytes(24, 101));
        due.same("all but the last byte", delta(x, 1), "23@1 1@-1");
        x.clearDraft();
        Devices.drafts(x, Devices.bytes(24, 200));
        due.same("24 bytes in 24 pieces", x.deltaPieces(1), 24);
        due.same("the last of them", x.deltaLength(1, 23), 1);
        due.refused("the one behind it", x, PLACE, () -> x.deltaLength(1, 24));
    }

    private void promises18To20WithoutPower() {
        Bootstay x = Devices.updated(2, 0, 6, 5, 4);
        x.switchOff();
        Devices.drafts(x, 5, 4, 3, 4);
        due.same("against slot 1 when off", delta(x, 1), "2@1 1@-1 1@-1");
        due.same("against slot 0 when off", delta(x, 0), "1@-1 1@-1 2@2");
    }

    private void promises18To20FollowTheFlash() {
        Bootstay x = Devices.updated(2, 0, 6, 5, 4);
        Devices.drafts(x, 6, 5, 4);
        Devices.transfer(x, 3, 0, 5, 4, 6);
        x.finish(1);
        due.same("against the new image of slot 0", delta(x, 0), "1@-1 2@0");
        due.same("against slot 1", delta(x, 1), "3@0");
    }

    /** A slot that an offer has made not startable, though its image is there. */
    private void promises18To20WithoutTheMark() {
        Bootstay x = Devices.updated(2, 0, 6, 5, 4);
        Devices.drafts(x, 1, 2);
        due.same("before the offer", delta(x, 0), "2@0");
        x.offer(3, 1, 0, 0);
        due.refused("deltaPieces(0)", x, STATE, () -> x.deltaPieces(0));
        due.refused("deltaLength(0, 0)", x, STATE, () -> x.deltaLength(0, 0));
        due.refused("deltaLength(0, 1)", x, STATE, () -> x.deltaLength(0, 1));
        due.refused("deltaFrom(0, 0)", x, STATE, () -> x.deltaFrom(0, 0));
        due.refused("deltaFrom(0, -1)", x, STATE, () -> x.deltaFrom(0, -1));
        due.same("against the running slot", delta(x, 1), "1@-1 1@-1");
    }

    private void promises18To20Refuse() {
        int[] slots = {-1, 2, Integer.MIN_VALUE, Integer.MAX_VALUE};
        for (int slot : slots) {
            Bootstay x = drafted(1, 2, 9);
            due.refused("deltaPieces(" + slot + ")", x, ARGUMENT, () -> x.deltaPieces(slot));
            due.refused("deltaLength(" + slot + ", 9)", x, ARGUMENT, () -> x.deltaLength(slot, 9));
            due.refused("deltaFrom(" + slot + ", 9)", x, ARGUMENT, () -> x.deltaFrom(slot, 9));
        }
        Bootstay x = drafted(1, 2, 9);
        due.refused("deltaPieces(1)", x, STATE, () -> x.deltaPieces(1));
        due.refused("deltaLength(1, -1)", x, STATE, () -> x.deltaLength(1, -1));
        due.refused("deltaFrom(1, 0)", x, STATE, () -> x.deltaFrom(1, 0));
        int[] pieces = {-1, 2, Integer.MIN_VALUE, Integer.MAX_VALUE};
        for (int piece : pieces) {
            Bootstay y = drafted(1, 2, 9);
            due.refused("deltaLength(0, " + piece + ")", y, PLACE, () -> y.deltaLength(0, piece));
            due.refused("deltaFrom(0, " + piece + ")", y, PLACE, () -> y.deltaFrom(0, piece));
        }
        x.clearDraft();
        due.refused("deltaLength(0, 0) of an empty draft", x, PLACE, () -> x.deltaLength(0, 0));
        due.refused("deltaFrom(0, 0) of an empty draft", x, PLACE, () -> x.deltaFrom(0, 0));
    }
}
