/** Promises 1 to 9: a new object, the tape, the SEA with its FAULTS, and what it tells. */
public final class SeaTest {
    public static void main(String[] args) {
        newObject();
        tape();
        seaReplaced();
        tokens();
        wrongTokens();
        wrongPlaces();
        wrongNumbers();
        toldAlready();
        missesOutOfOrder();
        lines();
        gaps();
        Check.endOf("SeaTest");
    }

    private static void newObject() {
        DriftDesk desk = new DriftDesk();
        Check.due("NONE", DriftDesk.NONE, -1);
        for (int what = 0; what <= 4; what++) {
            Check.due("new: about(" + what + ")", desk.about(what), 0);
        }
        Check.due("new: fault(0)", desk.fault(0), 0);
        Check.due("new: fault(1)", desk.fault(1), -1);
        Check.due("new: wind", desk.wind(71, true), 0);
        Check.due("new: stream", desk.stream(3, 0, false), 0);
        Check.due("new: miss", desk.miss(1, 20), 100);
        Check.due("new: land", desk.land(63), 0);
        Check.due("new: odds", desk.odds(0), -1);
        Check.due("new: back", desk.back(0), false);
        Check.due("new: left", desk.left(), 10000);
        Check.due("new: sea of nothing", desk.sea(), 0);
    }

    private static void tape() {
        DriftDesk desk = new DriftDesk();
        for (int i = 1; i <= 50; i++) {
            Check.due("feed " + i, desk.feed(0, 0, 0, 0, 0), 20 * i);
        }
        Check.due("feed 51", desk.feed(0, 0, 0, 0, 0), -1);
        Check.due("bytes behind it", desk.about(4), 1000);
        Check.due("end(1001)", desk.end(1001), -1);
        Check.due("end(-1)", desk.end(-1), -1);
        Check.due("bytes behind these", desk.about(4), 1000);
        Check.due("end(1000)", desk.end(1000), 1000);
        Check.due("end(981)", desk.end(981), 981);
        Check.due("feed on 981", desk.feed(0, 0, 0, 0, 0), -1);
        Check.due("bytes of 981", desk.about(4), 981);
        Check.due("end(980)", desk.end(980), 980);
        Check.due("feed on 980", desk.feed(0, 0, 0, 0, 0), 1000);
        Check.due("end(0)", desk.end(0), 0);
        Check.due("bytes behind end(0)", desk.about(4), 0);
        Check.due("end(1) on none", desk.end(1), -1);
        // "lee0" "100;" "land" "7 7;" "    ": the highest byte of each number comes first
        Check.due("feed",
                desk.feed(0x6c656530, 0x3130303b, 0x6c616e64, 0x3720373b, 0x20202020), 20);
        Check.due("sea: lee0 is a word and a number", desk.sea(), -1);
        Check.due("its fault: 0100 has four digits", desk.fault(0), 1);
        Check.due("its place", desk.fault(1), 3);
        Check.due("feed",
                desk.feed(0x6c656530, 0x2031303b, 0x6c616e64, 0x3720373b, 0x0a0a0a0a), 20);
        Check.due("sea", desk.sea(), 2);
        Check.due("land(63)", desk.land(63), 1);
    }

    private static void seaReplaced() {
        DriftDesk desk = Check.deskOf("wind 3 4 5; land 0 0; lee 0 100;");
        Check.due("lines", desk.about(0), 3);
        Check.due("tape is empty then", desk.about(4), 0);
        Check.due("a fault", Check.sea(desk, "wind 9 1 1; wind 9"), -1);
        Check.due("the fault", desk.fault(0), 4);
        Check.due("its place", desk.fault(1), 17);
        Check.due("fault(2)", desk.fault(2), -1);
        Check.due("fault(-1)", desk.fault(-1), -1);
        Check.due("tape is empty behind a fault", desk.about(4), 0);
        Check.due("the lines stay", desk.about(0), 3);
        Check.due("the wind stays", desk.wind(9, true), 5);
        Check.due("another text", Check.sea(desk, "land 1 0;"), 1);
        Check.due("no fault now", desk.fault(0), 0);
        Check.due("no place now", desk.fault(1), -1);
        Check.due("the wind is gone", desk.wind(9, true), 0);
        Check.due("the land is gone", desk.land(0), 0);
        Check.due("new land", desk.land(1), 1);
        Check.due("an empty text", desk.sea(), 0);
        Check.due("no lines", desk.about(0), 0);
        Check.due("no land", desk.land(1), 0);
    }

    private static void tokens() {
        DriftDesk desk = Check.deskOf("wind0-1-2;stream\n3 71\n30-30;lee3 0;land0 7;miss1 20 0;");
        Check.due("lines without blanks", desk.about(0), 5);
        Check.due("wind x", desk.wind(0, false), -1);
        Check.due("wind y", desk.wind(0, true), -2);
        Check.due("stream x", desk.stream(3, 71, false), 30);
        Check.due("stream y", desk.stream(3, 71, true), -30);
        Check.due("land of column 0, row 7", desk.land(56), 1);
        Check.due("land of column 7, row 0", desk.land(7), 0);
        Check.due("miss", desk.miss(1, 20), 0);
        Check.due("nulls ahead", Check.sea(new DriftDesk(), " \n wind 007 -0 -030 ; \n"), 1);
        Check.due("blanks alone", Check.sea(new DriftDesk(), " \n \n"), 0);
    }

    private static void wrongTokens() {
        Check.fault("#", 1, 0);
        Check.fault("wind 0 0 0; \t", 1, 12);
        Check.fault("wind 0 0 0;\r", 1, 11);
        Check.fault("Wind 0 0 0;", 1, 0);
        Check.fault("\u00e9", 1, 0);
        Check.fault("\u0000", 1, 0);
        Check.fault("wind 0 - 5 0;", 1, 7);
        Check.fault("wind 0 --5 0;", 1, 7);
        Check.fault("wind 0 +5 0;", 1, 7);
        Check.fault("wind 0 5- 0;", 1, 8);
        Check.fault("wind 0000 0 0;", 1, 5);
        Check.fault("wind 0 -0001 0;", 1, 7);
        Check.fault("wind 0 1x 0;", 1, 7);
        Check.fault("wind 99x 0 0;", 1, 5);
        Check.fault("wind 0 1X 0;", 1, 8);
        Check.fault("abcdefghi", 1, 0);
        Check.fault("abcdefgh", 2, 0);
        Check.fault("wind", 1, 4);
        Check.fault("wind ", 1, 5);
        Check.fault("wind 0 0 0", 1, 10);
        Check.fault("land 0 0; miss 0 5 \n", 1, 20);
    }

    private static void wrongPlaces() {
        Check.fault(";", 2, 0);
        Check.fault("5", 2, 0);
        Check.fault(" winds 0 0 0;", 2, 1);
        Check.fault("win 0 0 0;", 2, 0);
        Check.fault("land 0 0;;", 2, 9);
        Check.fault("land 0 wind", 2, 7);
        Check.fault("land 0;", 2, 6);
        Check.fault("land 0 0 0;", 2, 9);
        Check.fault("land 0 0 land 0 1;", 2, 9);
        Check.fault("wind 0 0 0 0;", 2, 11);
        Check.fault("stream 0 0 0;", 2, 12);
        Check.fault("lee 0 0 0;", 2, 8);
        Check.fault("miss 0 1;", 2, 8);
    }

    private static void wrongNumbers() {
        Check.fault("wind 72 0 0;", 3, 5);
        Check.fault("wind -1 0 0;", 3, 5);
        Check.fault("wind 71 31 0;", 3, 8);
        Check.fault("wind 71 -30 -31;", 3, 12);
        Check.fault("stream 4 0 0 0;", 3, 7);
        Check.fault("stream 3 72 0 0;", 3, 9);
        Check.fault("stream 3 71 -31 0;", 3, 12);
        Check.fault("stream 3 71 30 31;", 3, 15);
        Check.fault("lee 4 0;", 3, 4);
        Check.fault("lee 3 101;", 3, 6);
        Check.fault("lee 3 -1;", 3, 6);
        Check.fault("land 8 0;", 3, 5);
        Check.fault("land 7 8;", 3, 7);
        Check.fault("miss 2 1 0;", 3, 5);
        Check.fault("miss 1 0 0;", 3, 7);
        Check.fault("miss 1 21 0;", 3, 7);
        Check.fault("miss 1 20 101;", 3, 10);
        Check.fault("miss 1 20 -1;", 3, 10);
        Check.fault("miss 1 5 50; miss 1 6 101;", 3, 22);
    }

    private static void toldAlready() {
        Check.fault("wind 5 0 0; wind 5 1 1;", 4, 17);
        Check.fault("wind 5 0 0; wind 05 99 1;", 4, 17);
        Check.fault("stream 1 5 0 0; stream 2 5 0 0; stream 1 6 0 0; stream 1 5 0 0;", 4, 57);
        Check.fault("lee 0 5; lee 0 101;", 4, 13);
        Check.fault("land 1 2; land 2 1; land 1 2;", 4, 27);
        Check.fault("miss 0 5 9; miss 1 5 9; miss 0 5 9;", 4, 31);
        Check.due("none told already", Check.sea(new DriftDesk(),
                "wind 5 0 0; stream 0 5 0 0; stream 1 5 0 0; lee 0 0; lee 1 0; land 0 1; land 1 0;"
                + "miss 0 1 0; miss 1 1 0;"), 9);
    }

    private static void missesOutOfOrder() {
        Check.fault("miss 0 5 50; miss 0 6 51;", 5, 22);
        Check.fault("miss 0 5 50; miss 0 20 51;", 5, 23);
        Check.fault("miss 0 5 50; miss 0 4 49;", 5, 22);
        Check.fault("miss 0 5 50; miss 0 10 20; miss 0 7 19;", 5, 36);
        Check.fault("miss 0 5 50; miss 0 10 20; miss 0 7 51;", 5, 36);
        Check.due("in order", Check.sea(new DriftDesk(),
                "miss 0 5 50; miss 0 10 20; miss 0 7 20; miss 0 6 50; miss 0 20 0; miss 0 1 100;"
                + "miss 1 6 100;"), 7);
    }

    private static void lines() {
        StringBuilder sixty = new StringBuilder();
        for (int i = 0; i < 60; i++) {
            sixty.append("wind").append(i).append(" 0 0;");
        }
        int size = sixty.length();
        Check.due("sixty lines", Check.sea(new DriftDesk(), sixty.toString() + " \n"), 60);
        Check.fault(sixty + " land 0 0;", 2, size + 1);
        Check.fault(sixty + "5", 2, size);
        Check.fault(sixty + " ?", 1, size + 1);
    }

    private static void gaps() {
        DriftDesk desk = Check.deskOf("wind 9 3 4; wind 5 1 -2; stream 2 71 7 8; stream 2 1 -7 -8;"
                + "miss 1 8 40; miss 1 3 60; land 7 0; land 0 1;");
        Check.due("wind(4)", desk.wind(4, true), 0);
        Check.due("wind(5)", desk.wind(5, true), -2);
        Check.due("wind(8)", desk.wind(8, false), 1);
        Check.due("wind(9)", desk.wind(9, false), 3);
        Check.due("wind(71)", desk.wind(71, true), 4);
        Check.due("wind(72)", desk.wind(72, true), -100);
        Check.due("wind(-1)", desk.wind(-1, false), -100);
        Check.due("stream(2, 0)", desk.stream(2, 0, false), 0);
        Check.due("stream(2, 1)", desk.stream(2, 1, false), -7);
        Check.due("stream(2, 70)", desk.stream(2, 70, true), -8);
        Check.due("stream(2, 71)", desk.stream(2, 71, true), 8);
        Check.due("stream(1, 71)", desk.stream(1, 71, true), 0);
        Check.due("stream(2, 72)", desk.stream(2, 72, true), -100);
        Check.due("stream(2, -1)", desk.stream(2, -1, true), -100);
        Check.due("stream(4, 0)", desk.stream(4, 0, true), -100);
        Check.due("stream(-1, 0)", desk.stream(-1, 0, true), -100);
        int[] due = {100, 100, 100, 60, 60, 60, 60, 60, 40};
        for (int effort = 0; effort <= 20; effort++) {
            Check.due("miss(1, " + effort + ")", desk.miss(1, effort), due[Math.min(effort, 8)]);
            Check.due("miss(0, " + effort + ")", desk.miss(0, effort), 100);
        }
        Check.due("miss(1, 21)", desk.miss(1, 21), -1);
        Check.due("miss(1, -1)", desk.miss(1, -1), -1);
        Check.due("miss(2, 1)", desk.miss(2, 1), -1);
        Check.due("miss(-1, 1)", desk.miss(-1, 1), -1);
        for (int cell = 0; cell < 64; cell++) {
            Check.due("land(" + cell + ")", desk.land(cell), cell == 7 || cell == 8 ? 1 : 0);
        }
        Check.due("land(64)", desk.land(64), -1);
        Check.due("land(-1)", desk.land(-1), -1);
    }
}
