/** All that can be seen of an object by its calls, told as one text, to compare two objects by. */
final class Observed {
    private static final int MOST_CALLS = 512;
    private static final int CALLS_BEFORE = 64;

    private final NameMover x;
    private final StringBuilder seen = new StringBuilder();
    private int calls = 0;

    private Observed(NameMover x) {
        this.x = x;
    }

    /** The object is of no use behind it: it has been moved, loaded and filled. */
    static String all(NameMover x) {
        Observed observed = new Observed(x);
        observed.names();
        observed.call("problem", () -> x.problem());
        observed.buffer();
        observed.call("load", () -> x.load());
        observed.call("cancel", () -> x.cancel());
        observed.files();
        observed.families();
        observed.roomForClasses();
        if (observed.calls + CALLS_BEFORE > MOST_CALLS) {
            throw new AssertionError("more calls on one object than the document has promises for: " + observed.calls);
        }
        return observed.seen.toString();
    }

    private boolean call(String what, Checks.Call call) {
        calls++;
        String told = Checks.told(call);
        seen.append(what).append(' ').append(told).append('\n');
        return !told.startsWith("throws.");
    }

    private void names() {
        call("classes", () -> x.classes());
        for (int number = 0; call("name " + number, nameOf(number, false)); number++) {
            int c = number;
            call("new name", nameOf(c, true));
            for (int member = 0; call("member " + member, memberOf(c, member, false)); member++) {
                call("new name", memberOf(c, member, true));
            }
        }
    }

    private Checks.Call nameOf(int c, boolean fresh) {
        return () -> x.className(c, fresh);
    }

    private Checks.Call memberOf(int c, int k, boolean fresh) {
        return () -> x.memberName(c, k, fresh);
    }

    private Checks.Call byteOf(int i) {
        return () -> x.byteAt(i);
    }

    private Checks.Call fileOf(int c) {
        return () -> x.write(c);
    }

    private void buffer() {
        int i = 0;
        while (call("byte", byteOf(i))) {
            i++;
        }
    }

    /** Of the first classes all bytes, of the others, which the stages only fill up with, the length. */
    private void files() {
        for (int number = 0; call("file " + number, fileOf(number)); number++) {
            if (number < 4) {
                buffer();
            }
        }
    }

    private void families() {
        for (int number = 0; number < 4; number++) {
            int c = number;
            int k = 0;
            while (call("family", familyOf(c, k))) {
                k++;
            }
        }
        call("cancel", () -> x.cancel());
    }

    private Checks.Call familyOf(int c, int k) {
        return () -> x.moveMember(c, k, Checks.text("zz"));
    }

    /** What takes the place behind the last class must be new, whatever was refused there before. */
    private void roomForClasses() {
        int number = 0;
        while (call("declare", declared("Z" + number))) {
            number++;
        }
        for (int c = 0; c < 8; c++) {
            call("file", fileOf(c));
        }
        call("member", () -> x.member(7, Checks.text("zz"), Checks.text("7"), false));
        call("find", () -> x.find(7, Checks.text("m"), Checks.text("()V")));
    }

    private Checks.Call declared(String name) {
        return () -> x.declare(Checks.text(name), 0, true);
    }
}
