import java.util.ArrayList;
import java.util.Arrays;
import java.util.List;

/** What the tests of files share: files told in words, and buffers that are made to be such files. */
final class TestFiles {
    private final Checks checks;

    TestFiles(Checks checks) {
        this.checks = checks;
    }

    /** A file told in words: numbers are bytes, words in quotes are texts with their length. */
    static int[] file(String told) {
        List<Integer> bytes = new ArrayList<>();
        for (String word : told.split(" ")) {
            if (word.startsWith("'")) {
                bytes.add(word.length() - 2);
                for (char ch : word.substring(1, word.length() - 1).toCharArray()) {
                    bytes.add((int) ch);
                }
            } else {
                bytes.add(Integer.parseInt(word));
            }
        }
        return bytes.stream().mapToInt(b -> b).toArray();
    }

    /** The whole buffer, which ends where byteAt refuses. */
    static String buffer(NameMover x) {
        List<Integer> bytes = new ArrayList<>();
        while (true) {
            int i = bytes.size();
            String told = Checks.told(() -> x.byteAt(i));
            if (told.startsWith("throws.")) {
                return bytes.toString();
            }
            bytes.add(Integer.parseInt(told));
        }
    }

    void dueBuffer(NameMover x, String what, String told) {
        checks.compare(what, Arrays.toString(file(told)), buffer(x));
    }

    void dueFile(NameMover x, String what, int c, String told) {
        checks.due(what + ", length", file(told).length, () -> x.write(c));
        dueBuffer(x, what, told);
    }

    /**
     * Class 0 is A with a field f of type I, class 1 is a/B; the buffer is as told. Only a written
     * buffer has a length, so class 2 is declared just to have a file of the length that is needed.
     */
    NameMover withBuffer(String told) {
        int[] want = file(told);
        NameMover x = new NameMover();
        x.declare(Checks.text("A"), -1, false);
        x.member(0, Checks.text("f"), Checks.text("I"), false);
        x.declare(Checks.text("a/B"), 0, true);
        makeFileOfLength(x, want.length);
        pokeAll(x, want);
        return x;
    }

    static void pokeAll(NameMover x, int[] bytes) {
        for (int i = 0; i < bytes.length; i++) {
            x.poke(i, bytes[i]);
        }
    }

    /** Class 2 gets names that are just so long that its file has this length, which is 8 or more. */
    private void makeFileOfLength(NameMover x, int length) {
        int members = 0;
        int least = 8;
        // A member adds its name, the first one a descriptor, too, and 3 bytes; a name has 7 characters to spare.
        while (least + 7 * (members + 1) < length) {
            least += members == 0 ? 7 : 5;
            members++;
        }
        int spare = length - least;
        int more = Math.min(7, spare);
        x.declare(Checks.text("Q" + "q".repeat(more)), -1, false);
        for (int k = 0; k < members; k++) {
            spare -= more;
            more = Math.min(7, spare);
            x.member(2, Checks.text((char) ('a' + k) + "y".repeat(more)), Checks.text("I"), false);
        }
        checks.due("a file of the length that is needed", length, () -> x.write(2));
    }
}
