/** Promises 10 to 12: tales, where they are and what they are. */
public final class TalesTest {
    public static void main(String[] args) {
        limits();
        leeAndQuarters();
        cutTowardsNull();
        ashore();
        gone();
        newSeas();
        Check.endOf("TalesTest");
    }

    private static void limits() {
        DriftDesk desk = new DriftDesk();
        int[][] wrong = {{-1, 0, 0, 0, 1}, {4, 0, 0, 0, 1}, {0, -1, 0, 0, 1}, {0, 80, 0, 0, 1},
            {0, 0, -1, 0, 1}, {0, 0, 80, 0, 1}, {0, 0, 0, -1, 1}, {0, 0, 0, 72, 1},
            {0, 0, 0, 0, 0}, {0, 0, 0, 0, 1001}};
        for (int[] w : wrong) {
            Check.due("tale that can't be", desk.tale(w[0], w[1], w[2], w[3], w[4]), -1);
        }
        Check.due("none came", desk.about(1), 0);
        for (int i = 0; i < 40; i++) {
            Check.due("tale " + i, desk.tale(3, 79, i, 71, 1000), i);
        }
        Check.due("tale 41", desk.tale(0, 0, 0, 0, 1), -1);
        Check.due("tales", desk.about(1), 40);
        Check.due("place of 39", desk.place(39, 72), 3979);
        Check.due("place of 40", desk.place(40, 0), -1);
        Check.due("place of -1", desk.place(-1, 0), -1);
        Check.due("place at 73", desk.place(0, 73), -1);
        Check.due("place at -1", desk.place(0, -1), -1);
        Check.due("state of 40", desk.state(40, 0), -1);
        Check.due("state of -1", desk.state(-1, 0), -1);
        Check.due("state at 73", desk.state(0, 73), -1);
        Check.due("state at -1", desk.state(0, -1), -1);
        Check.due("state of 39", desk.state(39, 72), 0);
    }

    private static void leeAndQuarters() {
        DriftDesk desk = Check.deskOf("lee 1 100; wind 0 1 0; stream 0 0 0 1; stream 1 0 2 0;"
                + "stream 2 0 0 3; stream 3 0 -4 0;");
        desk.tale(1, 39, 39, 10, 5);
        Check.due("ahead of its hour", desk.place(0, 9), 3939);
        Check.due("at its hour", desk.place(0, 10), 3939);
        Check.due("by quarter 0 into 3", desk.place(0, 11), 4040);
        Check.due("by quarter 3 into 2", desk.place(0, 12), 4037);
        Check.due("by quarter 2", desk.place(0, 13), 4338);
        desk.tale(1, 40, 39, 71, 5);
        Check.due("by quarter 1 in the last hour", desk.place(1, 72), 3943);
        desk.tale(0, 0, 0, 71, 5);
        Check.due("a lee that is not told is 3 of 100", desk.place(2, 72), 100);
    }

    private static void cutTowardsNull() {
        DriftDesk desk = Check.deskOf("wind 0 -30 29; lee 0 5; lee 1 7; stream 0 0 1 -1;");
        desk.tale(0, 20, 20, 0, 1);
        desk.tale(1, 20, 20, 0, 1);
        desk.tale(2, 20, 20, 0, 1);
        // -30 * 5 / 100 = -1 (of -1.5), 29 * 5 / 100 = 1 (of 1.45)
        Check.due("lee 5", desk.place(0, 1), 2020);
        // -30 * 7 / 100 = -2 (of -2.1), 29 * 7 / 100 = 2 (of 2.03)
        Check.due("lee 7", desk.place(1, 1), 2119);
        Check.due("lee 3", desk.place(2, 1), 1921);
    }

    private static void ashore() {
        DriftDesk desk = Check.deskOf("stream 0 0 5 0; land 1 0;");
        desk.tale(0, 0, 0, 0, 1);
        Check.due("not yet there", desk.state(0, 1), 0);
        Check.due("there", desk.place(0, 2), 10);
        Check.due("ashore", desk.state(0, 2), 1);
        Check.due("stays", desk.place(0, 72), 10);
        Check.due("stays ashore", desk.state(0, 72), 1);
        desk.tale(0, 10, 0, 5, 1);
        Check.due("begins there: not yet", desk.state(1, 4), 0);
        Check.due("begins there", desk.state(1, 5), 1);
        Check.due("does not go", desk.place(1, 6), 10);
        DriftDesk over = Check.deskOf("stream 0 0 30 0; land 1 0;");
        over.tale(0, 0, 0, 0, 1);
        Check.due("a step over land", over.state(0, 1), 0);
        Check.due("its place", over.place(0, 1), 30);
        desk = Check.deskOf("stream 0 71 10 0; land 1 0;");
        desk.tale(0, 0, 0, 3, 1);
        Check.due("adrift at 71", desk.state(0, 71), 0);
        Check.due("ashore at 72", desk.state(0, 72), 1);
    }

    private static void gone() {
        int[][] ways = {{79, 10, 1, 0}, {0, 10, -1, 0}, {10, 79, 0, 1}, {10, 0, 0, -1}};
        for (int[] w : ways) {
            DriftDesk desk = Check.deskOf("lee 0 100; wind 2 " + w[2] + " " + w[3] + ";");
            desk.tale(0, w[0], w[1], 0, 1);
            Check.due("still here", desk.place(0, 2), 100 * w[1] + w[0]);
            Check.due("still adrift", desk.state(0, 2), 0);
            Check.due("gone", desk.state(0, 3), 2);
            Check.due("nowhere", desk.place(0, 3), -1);
            Check.due("gone for good", desk.state(0, 72), 2);
            Check.due("nowhere for good", desk.place(0, 72), -1);
        }
        // The second wind would lead back onto the chart, but what is gone stays so.
        DriftDesk desk = Check.deskOf("lee 0 100; wind 0 -1 0; wind 1 1 0;");
        desk.tale(0, 0, 0, 0, 1);
        Check.due("does not come back", desk.state(0, 2), 2);
    }

    private static void newSeas() {
        DriftDesk desk = Check.deskOf("stream 0 0 1 0;");
        desk.tale(0, 0, 0, 0, 1);
        desk.tale(0, 5, 5, 71, 1);
        Check.due("by the first sea", desk.place(0, 1), 1);
        Check.due("another by the first sea", desk.place(1, 72), 506);
        Check.sea(desk, "stream 0 0 0 1;");
        Check.due("by the second", desk.place(0, 1), 100);
        Check.due("another by the second", desk.place(1, 72), 605);
        Check.sea(desk, "stream 0 0 0 1");
        Check.due("a faulty one changes nothing", desk.place(0, 1), 100);
        Check.sea(desk, "land 0 0;");
        Check.due("land comes", desk.state(0, 0), 1);
        Check.due("the tales stay", desk.about(1), 2);
    }
}
