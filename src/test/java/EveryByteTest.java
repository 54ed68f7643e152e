import java.util.Arrays;

/**
 * Promise 17, "so that the buffer is its file, byte by byte": in files that can be loaded each byte becomes
 * each other one, and load must answer as PlainMover does, which reads files by the letter.
 */
public final class EveryByteTest {
    private static final Checks CHECKS = new Checks();
    private static final String[] FILES = {
        "202 1 'C' 1 0 0 0",
        "202 2 'c/C' 'A' 1 2 1 0",
        "202 3 'C' 'f' 'I' 1 0 0 1 2 3 1",
        "202 3 'C' 'm' '([LA;LC;)La/B;' 1 0 0 1 2 3 0",
        "202 5 'C' 'A' 'f' 'LA;' 'g' 1 2 0 2 3 4 0 5 4 1",
        "202 4 'I' 'A' 'f' 'J' 1 2 1 3 3 1 0 3 4 0 1 1 1",
    };

    private int loaded = 0;
    private int refused = 0;

    public static void main(String[] args) {
        EveryByteTest test = new EveryByteTest();
        for (String told : FILES) {
            test.tryFile(told);
        }
        System.out.println(test.loaded + " loaded, " + test.refused + " refused");
        CHECKS.compare("some are loaded and some refused", "true", String.valueOf(test.loaded > 0 && test.refused > 0));
        CHECKS.end();
    }

    private void tryFile(String told) {
        int[] file = TestFiles.file(told);
        NameMover x = new TestFiles(CHECKS).withBuffer(told);
        CHECKS.due(told, 3, () -> x.load());
        for (int i = 0; i < file.length; i++) {
            for (int b = 0; b < 256; b++) {
                int[] changed = file.clone();
                changed[i] = b;
                tryBytes(told + ", byte " + i + " is " + b, told, changed);
            }
        }
    }

    private void tryBytes(String what, String told, int[] bytes) {
        NameMover x = new TestFiles(CHECKS).withBuffer(told);
        TestFiles.pokeAll(x, bytes);
        PlainMover plain = new PlainMover();
        plain.declare(Checks.text("A"), -1, false);
        plain.member(0, Checks.text("f"), Checks.text("I"), false);
        plain.declare(Checks.text("a/B"), 0, true);
        plain.declare(x.className(2, false), -1, false);
        plain.takeBuffer(bytes);
        String want = Checks.told(() -> plain.load());
        CHECKS.compare(what, want, Checks.told(() -> x.load()));
        CHECKS.due(what + ", classes", plain.classes(), () -> x.classes());
        if (plain.classes() == 4) {
            loaded++;
            x.write(0);
            CHECKS.due(what + ", length", bytes.length, () -> x.write(3));
            CHECKS.compare(what + ", its file", Arrays.toString(bytes), TestFiles.buffer(x));
        } else {
            refused++;
        }
    }
}
