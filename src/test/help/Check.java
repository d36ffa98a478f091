import java.nio.charset.StandardCharsets;

/** What the tests of the project share: comparing answers, and feeding texts to a desk. */
public final class Check {
    private static int checked = 0;
    private static int wrong = 0;

    private Check() {
    }

    public static void due(String what, long got, long want) {
        checked++;
        if (got != want) {
            wrong++;
            System.out.println(what + " answered " + got + ", due is " + want);
        }
    }

    public static void due(String what, boolean got, boolean want) {
        due(what, got ? 1 : 0, want ? 1 : 0);
    }

    /** Puts just these signs (0 to 255 each) on the tape of a desk whose tape is empty. */
    public static void feed(DriftDesk desk, String text) {
        byte[] bytes = text.getBytes(StandardCharsets.ISO_8859_1);
        int[] numbers = new int[(bytes.length + 19) / 20 * 5];
        for (int i = 0; i < numbers.length * 4; i++) {
            int sign = i < bytes.length ? bytes[i] & 255 : 32;
            numbers[i / 4] = numbers[i / 4] << 8 | sign;
        }
        for (int i = 0; i < numbers.length; i += 5) {
            desk.feed(numbers[i], numbers[i + 1], numbers[i + 2], numbers[i + 3], numbers[i + 4]);
        }
        desk.end(bytes.length);
    }

    public static int sea(DriftDesk desk, String text) {
        feed(desk, text);
        return desk.sea();
    }

    public static DriftDesk deskOf(String text) {
        DriftDesk desk = new DriftDesk();
        int lines = sea(desk, text);
        if (lines < 0) {
            due("sea() of [" + text + "]: fault " + desk.fault(0) + " at " + desk.fault(1), 1, 0);
        }
        return desk;
    }

    /** A text without a FAULT, on a new desk. */
    public static void lines(String text, int lines) {
        DriftDesk desk = new DriftDesk();
        String name = "[" + text.replace("\n", "\\n") + "]";
        due("sea() of " + name, sea(desk, text), lines);
        due("fault(0) of " + name, desk.fault(0), 0);
        due("fault(1) of " + name, desk.fault(1), DriftDesk.NONE);
        due("about(0) of " + name, desk.about(0), lines);
    }

    /** A text with a FAULT, on a new desk. */
    public static void fault(String text, int fault, int place) {
        DriftDesk desk = new DriftDesk();
        String name = "[" + text.replace("\n", "\\n") + "]";
        due("sea() of " + name, sea(desk, text), DriftDesk.NONE);
        due("fault(0) of " + name, desk.fault(0), fault);
        due("fault(1) of " + name, desk.fault(1), place);
    }

    public static void endOf(String test) {
        System.out.println(test + ": " + checked + " checked, " + wrong + " wrong");
        if (wrong != 0 || checked == 0) {
            System.exit(1);
        }
    }
}
