/** The edges that the document names for the SEA, its FAULTS and promises 1 to 9. */
public final class SeaEdgesTest {
    private static final int[] FAR = {Integer.MIN_VALUE, Integer.MIN_VALUE + 1, -1000, -1};
    /** A line of each sort with all numbers within their limits, and these limits. */
    private static final String[] WORDS = {"wind", "stream", "lee", "land", "miss"};
    private static final int[][][] LIMITS = {
        {{0, 71}, {-30, 30}, {-30, 30}},
        {{0, 3}, {0, 71}, {-30, 30}, {-30, 30}},
        {{0, 3}, {0, 100}},
        {{0, 7}, {0, 7}},
        {{0, 1}, {1, 20}, {0, 100}}};

    public static void main(String[] args) {
        nothingToldOnANewObject();
        noObjectTouchesAnother();
        highestByteFirst();
        feedUpToAThousand();
        refusedFeedBringsNothing();
        endKeepsTheFirstBytes();
        refusedEndDoesNothing();
        emptyTape();
        fullTape();
        tapeIsEmptyThen();
        faultOfTheLatestSea();
        whatStaysBehindAFault();
        wordsUpToEightLetters();
        numbersUpToThreeDigits();
        numbersThatWouldWrapAround();
        minusDirectlyAhead();
        blanks();
        signsBesideThoseThatMayStand();
        asLongAsCanBe();
        noLetterBehindANumber();
        limitsOfEachNumber();
        everyPlaceWithoutItsToken();
        everyPlaceWithAnotherToken();
        everyPlaceAtTheEnd();
        sixtyLines();
        theFirstFaultByItsPlace();
        theLeastFaultAtOnePlace();
        toldAlready();
        missAboveOrBelow();
        windGaps();
        streamGaps();
        missGaps();
        landCells();
        noSuchHour();
        Check.endOf("SeaEdgesTest");
    }

    // Promise 1: "Nothing told of the SEA, no TALES."
    private static void nothingToldOnANewObject() {
        for (int quarter = 0; quarter <= 3; quarter++) {
            DriftDesk desk = new DriftDesk();
            for (int hour = 0; hour <= 71; hour++) {
                Check.due("new: wind x", desk.wind(hour, false), 0);
                Check.due("new: wind y", desk.wind(hour, true), 0);
                Check.due("new: stream x", desk.stream(quarter, hour, false), 0);
                Check.due("new: stream y", desk.stream(quarter, hour, true), 0);
            }
        }
        DriftDesk desk = new DriftDesk();
        for (int effort = 0; effort <= 20; effort++) {
            Check.due("new: miss 0", desk.miss(0, effort), 100);
            Check.due("new: miss 1", desk.miss(1, effort), 100);
        }
        for (int cell = 0; cell <= 63; cell++) {
            Check.due("new: land", desk.land(cell), 0);
            Check.due("new: share", desk.share(cell, 72, false), 0);
            Check.due("new: of", desk.share(cell, 72, true), 1);
            Check.due("new: split", desk.split(72, 1, 40, cell), 0);
        }
        Check.due("new: place", desk.place(0, 0), -1);
        Check.due("new: state", desk.state(0, 0), -1);
        Check.due("new: odds", desk.odds(0), -1);
        Check.due("new: likeliest", desk.likeliest(0), -1);
        Check.due("new: seen", desk.seen(0, 0, 40), 0);
        Check.due("new: left", desk.left(), 10000);
        Check.due("new: back", desk.back(0), false);
        Check.due("new: first tale", desk.tale(0, 0, 0, 0, 1), 0);
        Check.due("new: lee is 3", desk.place(0, 72), 0);
        Check.due("new: first proof", desk.search(0, 0, 0, 0, 0, 0, 0), 0);
    }

    private static void noObjectTouchesAnother() {
        DriftDesk first = Check.deskOf("wind 0 1 2; land 0 0; lee 0 9; miss 0 1 5;"
                + "stream 0 0 3 4;");
        first.tale(0, 0, 0, 0, 1);
        first.clue(0, 0, 0, 0, 0);
        first.feed(1, 2, 3, 4, 5);
        DriftDesk other = new DriftDesk();
        for (int what = 0; what <= 4; what++) {
            Check.due("another object: about(" + what + ")", other.about(what), 0);
        }
        Check.due("another object: wind", other.wind(0, false), 0);
        Check.due("another object: stream", other.stream(0, 0, false), 0);
        Check.due("another object: land", other.land(0), 0);
        Check.due("another object: miss", other.miss(0, 1), 100);
        Check.sea(other, "?");
        Check.due("a fault of another object", first.fault(0), 0);
    }

    // Promise 2: "Twenty bytes come behind those on the TAPE, of each number the highest first"
    private static void highestByteFirst() {
        int[] blank = {0x20202020, 0x20202020, 0x20202020, 0x20202020, 0x20202020};
        for (int at = 0; at < 40; at++) {
            DriftDesk desk = new DriftDesk();
            for (int feed = 0; feed < 2; feed++) {
                int[] n = blank.clone();
                if (at / 20 == feed) {
                    // A byte over 127 makes the number's sign: it must still come to its own place.
                    n[at % 20 / 4] = (int) (0xe9L << 24 - 8 * (at % 4)
                            | 0x20202020L & ~(0xffL << 24 - 8 * (at % 4)));
                }
                Check.due("feed", desk.feed(n[0], n[1], n[2], n[3], n[4]), 20 * feed + 20);
            }
            Check.due("sea", desk.sea(), -1);
            Check.due("no token", desk.fault(0), 1);
            Check.due("the byte's place", desk.fault(1), at);
        }
        DriftDesk desk = new DriftDesk();
        desk.feed(-1, -1, -1, -1, -1);
        Check.due("bytes 255", desk.sea(), -1);
        Check.due("the first of them", desk.fault(1), 0);
    }

    // Promise 2: "NONE, and nothing comes, if there would be more than 1,000"
    private static void feedUpToAThousand() {
        for (int size = 975; size <= 1000; size++) {
            DriftDesk desk = new DriftDesk();
            fill(desk, 50);
            Check.due("end", desk.end(size), size);
            int due = size <= 980 ? size + 20 : -1;
            Check.due("feed on " + size, desk.feed(0, 0, 0, 0, 0), due);
            Check.due("bytes then", desk.about(4), size <= 980 ? size + 20 : size);
        }
    }

    private static void fill(DriftDesk desk, int feeds) {
        for (int i = 0; i < feeds; i++) {
            desk.feed(0x20202020, 0x20202020, 0x20202020, 0x20202020, 0x20202020);
        }
    }

    private static void refusedFeedBringsNothing() {
        DriftDesk desk = new DriftDesk();
        fill(desk, 50);
        desk.end(990);
        Check.due("refused", desk.feed(-1, -1, -1, -1, -1), -1);
        Check.due("refused again", desk.feed(-1, -1, -1, -1, -1), -1);
        Check.due("bytes", desk.about(4), 990);
        Check.due("blanks alone are read", desk.sea(), 0);
        Check.due("room again", desk.feed(0, 0, 0, 0, 0), 20);
    }

    // Promise 3: "The TAPE has its first n bytes"
    private static void endKeepsTheFirstBytes() {
        DriftDesk desk = new DriftDesk();
        Check.feed(desk, "land 0 0;land 1 1;");
        Check.due("end(9)", desk.end(9), 9);
        // "land" " 2 2" ";   ": comes behind the first nine
        desk.feed(0x6c616e64, 0x20322032, 0x3b202020, 0x20202020, 0x20202020);
        Check.due("bytes", desk.about(4), 29);
        Check.due("sea", desk.sea(), 2);
        Check.due("the first", desk.land(0), 1);
        Check.due("cut off", desk.land(9), 0);
        Check.due("fed behind", desk.land(18), 1);
    }

    // Promise 3: "NONE, doing nothing, if it has not so many, or n is below 0"
    private static void refusedEndDoesNothing() {
        for (int size = 0; size <= 40; size += 20) {
            DriftDesk desk = new DriftDesk();
            fill(desk, size / 20);
            int[] wrong = {size + 1, size + 20, 1001, Integer.MAX_VALUE};
            for (int n : wrong) {
                Check.due("end(" + n + ") of " + size, desk.end(n), -1);
            }
            for (int n : FAR) {
                Check.due("end(" + n + ") of " + size, desk.end(n), -1);
            }
            Check.due("bytes", desk.about(4), size);
            Check.due("end(" + size + ")", desk.end(size), size);
            Check.due("bytes", desk.about(4), size);
            Check.due("end(0)", desk.end(0), 0);
            Check.due("bytes", desk.about(4), 0);
            Check.due("end(0) again", desk.end(0), 0);
            Check.due("what was cut off does not come back", desk.end(1), -1);
        }
    }

    // Promise 4, on an empty TAPE: a SEA without lines, in the place of the one there was.
    private static void emptyTape() {
        DriftDesk desk = Check.deskOf("wind 0 1 2; stream 1 0 3 4; lee 0 100; land 0 0;"
                + "miss 0 1 5;");
        desk.tale(0, 50, 50, 0, 1);
        Check.due("by the wind", desk.place(0, 1), 5251);
        Check.due("sea of nothing", desk.sea(), 0);
        Check.due("no lines", desk.about(0), 0);
        Check.due("no wind", desk.wind(0, true), 0);
        Check.due("no stream", desk.stream(1, 0, true), 0);
        Check.due("no land", desk.land(0), 0);
        Check.due("no miss", desk.miss(0, 1), 100);
        Check.due("no drift", desk.place(0, 72), 5050);
        Check.lines("", 0);
        Check.lines(" ", 0);
    }

    // "The SEA is a text of at most 1,000 bytes": all of them are read.
    private static void fullTape() {
        String line = "land 7 7;";
        Check.lines(" ".repeat(991) + line, 1);
        Check.lines(line + "\n".repeat(991), 1);
        Check.lines(" ".repeat(1000), 0);
        Check.fault(" ".repeat(999) + "?", 1, 999);
        Check.fault(" ".repeat(999) + ";", 2, 999);
        Check.fault(" ".repeat(992) + "land 7 7", 1, 1000);
        Check.fault(" ".repeat(996) + "land", 1, 1000);
        Check.fault("land 7 7" + " ".repeat(992), 1, 1000);
        Check.fault("a".repeat(1000), 1, 0);
        Check.fault("0".repeat(1000), 1, 0);
        Check.fault("-".repeat(1000), 1, 0);
        Check.fault(";".repeat(1000), 2, 0);
        Check.fault(" ".repeat(991) + "land 7 71", 3, 998);
        // A run of letters or digits may end just where the text does.
        Check.fault(" ".repeat(992) + "abcdefgh", 2, 992);
        Check.fault(" ".repeat(991) + "abcdefghi", 1, 991);
        Check.fault(" ".repeat(997) + "123", 2, 997);
        Check.fault(" ".repeat(999) + "-", 1, 999);
    }

    // Promise 4: "The TAPE (empty then)"
    private static void tapeIsEmptyThen() {
        DriftDesk desk = new DriftDesk();
        fill(desk, 50);
        Check.due("a full tape", desk.sea(), 0);
        Check.due("empty", desk.about(4), 0);
        Check.due("end(1)", desk.end(1), -1);
        for (int i = 1; i <= 50; i++) {
            Check.due("feed", desk.feed(-1, -1, -1, -1, -1), 20 * i);
        }
        Check.due("a full tape with a fault", desk.sea(), -1);
        Check.due("empty behind a fault", desk.about(4), 0);
        Check.due("nothing of it is left", desk.sea(), 0);
        Check.due("nor its fault", desk.fault(0), 0);
    }

    // Promise 5: "Of the latest sea() what 0: its FAULT (0), 1: its place (NONE)."
    private static void faultOfTheLatestSea() {
        DriftDesk desk = new DriftDesk();
        Check.due("ahead of any sea: fault", desk.fault(0), 0);
        Check.due("ahead of any sea: place", desk.fault(1), -1);
        Check.sea(desk, "  ;");
        Check.due("fault", desk.fault(0), 2);
        Check.due("place", desk.fault(1), 2);
        Check.feed(desk, "wind 0 0 99;");
        Check.due("a text that is only fed changes none", desk.fault(0), 2);
        desk.sea();
        Check.due("the next fault", desk.fault(0), 3);
        Check.due("its place", desk.fault(1), 9);
        desk.sea();
        Check.due("no fault: 0", desk.fault(0), 0);
        Check.due("no fault: NONE", desk.fault(1), -1);
        Check.sea(desk, "?");
        Check.due("a fault at place 0", desk.fault(0), 1);
        Check.due("its place", desk.fault(1), 0);
        for (int what : new int[] {-1, 2, 3, 4, 5, Integer.MIN_VALUE, Integer.MAX_VALUE}) {
            Check.due("fault(" + what + ")", desk.fault(what), -1);
        }
    }

    // Promise 4: "NONE: a FAULT (that there is stays)."
    private static void whatStaysBehindAFault() {
        DriftDesk desk = Check.deskOf("wind 3 5 -6; stream 1 3 7 -8; lee 2 50; land 6 7;"
                + "miss 0 2 60; miss 1 20 0;");
        desk.tale(2, 50, 30, 3, 10);
        desk.search(4, 0, 7, 0, 7, 0, 2);
        String[] faulty = {"?", ";", "wind 3 1 1; wind 3 2 2;", "lee 2 0; land 0 0; lee 4 0;",
            "miss 0 2 10; miss 0 3 11;",
            "wind 0 0 0; stream 0 0 0 0; lee 0 0; land 0 0; miss 0 1 1"};
        for (String text : faulty) {
            Check.due("a fault", Check.sea(desk, text), -1);
            Check.due("lines stay", desk.about(0), 6);
            Check.due("no wind ahead of 3", desk.wind(0, true), 0);
            Check.due("wind stays", desk.wind(3, true), -6);
            Check.due("stream stays", desk.stream(1, 3, false), 7);
            Check.due("no other stream", desk.stream(0, 3, false), 0);
            Check.due("land stays", desk.land(62), 1);
            Check.due("no other land", desk.land(0), 0);
            Check.due("miss stays", desk.miss(0, 2), 60);
            Check.due("no other miss", desk.miss(0, 1), 100);
            Check.due("the other miss stays", desk.miss(1, 20), 0);
            Check.due("the drift stays", desk.place(0, 4), 100 * (30 - 8 - 3) + 50 + 7 + 2);
            Check.due("the odds stay", desk.odds(0), 600);
        }
        Check.due("tales", desk.about(1), 1);
        Check.due("proofs", desk.about(2), 1);
    }

    // "words (a .. z, 8 at most)"
    private static void wordsUpToEightLetters() {
        String letters = "abcdefghijklmnopqrstuvwxyz";
        for (int size = 1; size <= 26; size++) {
            String word = letters.substring(26 - size);
            Check.fault(word, size <= 8 ? 2 : 1, 0);
            Check.fault("land 0 " + word, size <= 8 ? 2 : 1, 7);
        }
        Check.fault("windwind 0 0 0;", 2, 0);
        Check.fault("windwindw 0 0 0;", 1, 0);
        for (String word : WORDS) {
            Check.fault(word.substring(1) + " 0 0 0;", 2, 0);
            Check.fault(word.substring(0, word.length() - 1) + " 0 0 0;", 2, 0);
            Check.fault(word + "a 0 0 0;", 2, 0);
            Check.fault("a" + word + " 0 0 0;", 2, 0);
            Check.fault(word.toUpperCase() + " 0 0 0;", 1, 0);
            for (int i = 0; i < word.length(); i++) {
                Check.fault(word.substring(0, i) + "q" + word.substring(i + 1) + " 0 0 0;", 2, 0);
            }
        }
        Check.fault("wi nd 0 0 0;", 2, 0);
    }

    // "numbers (1 to 3 digits, - directly ahead or not)"
    private static void numbersUpToThreeDigits() {
        Check.lines("lee 0 1;", 1);
        Check.lines("lee 00 01;", 1);
        Check.lines("lee 000 100;", 1);
        Check.fault("lee 0000 0;", 1, 4);
        Check.fault("lee 0 0100;", 1, 6);
        Check.fault("lee 0 999;", 3, 6);
        Check.fault("lee 0 1000;", 1, 6);
        Check.fault("lee 0 -999;", 3, 6);
        Check.fault("lee 0 -1000;", 1, 6);
        Check.lines("wind 0 -030 030;", 1);
        Check.fault("wind 0 -0030 0;", 1, 7);
        Check.fault("123", 2, 0);
        Check.fault("1234", 1, 0);
        Check.fault("-123", 2, 0);
        Check.fault("-1234", 1, 0);
    }

    private static void numbersThatWouldWrapAround() {
        Check.fault("lee 4294967296 0;", 1, 4);
        Check.fault("lee 0 4294967296;", 1, 6);
        Check.fault("lee 0 -4294967295;", 1, 6);
        Check.fault("lee 0 18446744073709551616;", 1, 6);
        Check.fault("land 256 0;", 3, 5);
        Check.fault("wind 0 256 0;", 3, 7);
        Check.fault("wind 0 -256 0;", 3, 7);
        Check.fault("lee 0 256;", 3, 6);
    }

    private static void minusDirectlyAhead() {
        Check.lines("wind -0 -0 -00;", 1);
        Check.lines("lee -0 -000;", 1);
        Check.fault("wind 0 - 1 0;", 1, 7);
        Check.fault("wind 0 -\n1 0;", 1, 7);
        Check.fault("wind 0 --1 0;", 1, 7);
        Check.fault("wind 0 -;", 1, 7);
        Check.fault("wind 0 -", 1, 7);
        Check.fault("wind 0 -a 0;", 1, 7);
        Check.fault("wind 0 1- 0;", 1, 8);
        Check.fault("wind 0 1 -0-;", 1, 11);
        Check.fault("-wind 0 1 0;", 1, 0);
        Check.fault("wind- 0 1 0;", 1, 4);
        DriftDesk desk = Check.deskOf("wind-0-30-1;wind1 1-2;");
        Check.due("x", desk.wind(0, false), -30);
        Check.due("y", desk.wind(0, true), -1);
        Check.due("x of the second", desk.wind(1, false), 1);
        Check.due("y of the second", desk.wind(1, true), -2);
    }

    // "blanks (32, 10) part them or not"
    private static void blanks() {
        Check.lines("land0 0;land1 0;", 2);
        Check.lines("\n\n land \n 0\n0 \n;\n land\n1\n0\n;\n", 2);
        for (int sign = 0; sign < 256; sign++) {
            boolean blank = sign == 32 || sign == 10;
            String ahead = (char) sign + "land 0 0;";
            String behind = "land 0 0;" + (char) sign;
            if (blank) {
                Check.lines(ahead, 1);
                Check.lines(behind, 1);
                Check.lines("land 0" + (char) sign + "1;", 1);
            } else if (sign < '0' && sign != '-' || sign > 'z') {
                Check.fault(ahead, 1, 0);
                Check.fault(behind, 1, 9);
                Check.fault("land 0" + (char) sign + "1;", 1, 6);
            }
        }
    }

    // Each sign but the 26 letters, 10 digits, the minus, the ; and the blanks is no TOKEN.
    private static void signsBesideThoseThatMayStand() {
        for (int sign = 0; sign < 256; sign++) {
            boolean letter = sign >= 'a' && sign <= 'z';
            boolean digit = sign >= '0' && sign <= '9';
            if (letter || digit || sign == ';') {
                Check.fault("" + (char) sign, 2, 0);
            } else if (sign != 32 && sign != 10) {
                Check.fault("" + (char) sign, 1, 0);
                // A word ends ahead of it, and a number too: no letter is behind that.
                Check.fault("wind" + (char) sign, 1, 4);
                if (sign != '-') {
                    Check.fault("wind 0 1" + (char) sign + "0;", 1, 8);
                }
            }
        }
    }

    // "each is as long as can be"
    private static void asLongAsCanBe() {
        DriftDesk desk = Check.deskOf("wind 12 30 1;");
        Check.due("12, not 1 and 2", desk.wind(12, false), 30);
        Check.due("not told for 1", desk.wind(1, false), 0);
        Check.fault("land 00;", 2, 7);
        Check.fault("land 77;", 3, 5);
        Check.fault("wind 0 1-1-1;", 2, 10);
        Check.fault("landland 0 0;", 2, 0);
    }

    // "no letter directly behind a number"
    private static void noLetterBehindANumber() {
        Check.fault("land 0 0a;", 1, 7);
        Check.fault("land 0 0z;", 1, 7);
        Check.fault("land 0a 0;", 1, 5);
        Check.fault("land 0land", 1, 5);
        Check.fault("land 0 -0a;", 1, 7);
        Check.fault("land 0 9a;", 1, 7);
        Check.fault("5a", 1, 0);
        Check.fault("land 0 0 a;", 2, 9);
        Check.fault("land 0 0\na;", 2, 9);
        Check.lines("land 0 0;land 1 0;", 2);
        Check.fault("land 0 0`;", 1, 8);
        Check.fault("land 0 0{;", 1, 8);
    }

    private static String lineOf(int which, int at, int value) {
        StringBuilder line = new StringBuilder(WORDS[which]);
        for (int i = 0; i < LIMITS[which].length; i++) {
            line.append(' ').append(i == at ? value : LIMITS[which][i][1]);
        }
        return line + ";";
    }

    private static int placeOf(int which, int at) {
        int place = WORDS[which].length() + 1;
        for (int i = 0; i < at; i++) {
            place += String.valueOf(LIMITS[which][i][1]).length() + 1;
        }
        return place;
    }

    // "H 0 .. 71 (hours), V -30 .. 30, Q 0 .. 3, K 0 .. 3, lee's N 0 .. 100, land's N 0 .. 7
    // (column, row), S 0 .. 1, miss's first N 1 .. 20, its second 0 .. 100"
    private static void limitsOfEachNumber() {
        for (int which = 0; which < WORDS.length; which++) {
            for (int i = 0; i < LIMITS[which].length; i++) {
                int least = LIMITS[which][i][0];
                int most = LIMITS[which][i][1];
                for (int value = -999; value <= 999; value++) {
                    boolean close = Math.abs(value - least) <= 2 || Math.abs(value - most) <= 2;
                    if (!close && value % 37 != 0 && Math.abs(value) != 999) {
                        continue;
                    }
                    if (value >= least && value <= most) {
                        Check.lines(lineOf(which, i, value), 1);
                    } else {
                        Check.fault(lineOf(which, i, value), 3, placeOf(which, i));
                    }
                }
            }
        }
    }

    private static void everyPlaceWithoutItsToken() {
        for (int which = 0; which < WORDS.length; which++) {
            String line = lineOf(which, 0, 1);
            for (int at = 0; at < line.length(); at++) {
                if (at == 0 || line.charAt(at - 1) == ' ' || line.charAt(at) == ';') {
                    Check.fault(line.substring(0, at) + "#" + line.substring(at), 1, at);
                }
            }
        }
    }

    private static void everyPlaceWithAnotherToken() {
        for (int which = 0; which < WORDS.length; which++) {
            String line = lineOf(which, 0, 1);
            for (int at = 0; at < line.length(); at++) {
                boolean last = line.charAt(at) == ';';
                if (at == 0 || last || line.charAt(at - 1) == ' ') {
                    String blank = last ? " " : "";
                    String ahead = line.substring(0, at) + blank;
                    int place = ahead.length();
                    Check.fault(ahead + (last ? "5" : ";") + " " + line.substring(at), 2, place);
                    Check.fault(ahead + (at == 0 ? "5 " : "wind ") + line.substring(at), 2, place);
                }
            }
        }
    }

    // "(bytes from 0; the end: the text's length)"
    private static void everyPlaceAtTheEnd() {
        for (int which = 0; which < WORDS.length; which++) {
            String line = lineOf(which, 0, 1);
            for (int size = WORDS[which].length(); size < line.length(); size++) {
                if (line.charAt(size) == ' ' || line.charAt(size) == ';') {
                    String cut = line.substring(0, size);
                    Check.fault(cut, 1, size);
                    Check.fault(cut + " ", 1, size + 1);
                    Check.fault(cut + "\n \n", 1, size + 3);
                    Check.fault("land 0 7;" + cut, 1, size + 9);
                }
            }
        }
    }

    // "At most 60 lines." and "(a 61st line: at its word)"
    private static void sixtyLines() {
        StringBuilder text = new StringBuilder();
        for (int i = 0; i < 59; i++) {
            text.append("land ").append(i % 8).append(' ').append(i / 8).append(";");
        }
        Check.lines(text.toString(), 59);
        text.append("land 7 7;");
        int size = text.length();
        Check.lines(text.toString(), 60);
        Check.lines(text + " \n ", 60);
        Check.fault(text + "wind 0 0 0;", 2, size);
        Check.fault(text + " \nwind 0 0 0;", 2, size + 2);
        Check.fault(text + "land 7 7;", 2, size);
        Check.fault(text + "wind 99 0 0;", 2, size);
        Check.fault(text + "wind", 2, size);
        Check.fault(text + "w", 2, size);
        Check.fault(text + ";", 2, size);
        Check.fault(text + "1", 2, size);
        Check.fault(text + "1x", 1, size);
        Check.fault(text + "#", 1, size);
        Check.fault(text + "abcdefghi", 1, size);
        Check.fault(text.substring(0, size - 1), 1, size - 1);
        DriftDesk desk = new DriftDesk();
        Check.sea(desk, text.toString());
        Check.due("the 60th counts", desk.land(63), 1);
        Check.due("a second text counts anew", Check.sea(desk, text.toString()), 60);
    }

    // "FAULTS, the first by its place"
    private static void theFirstFaultByItsPlace() {
        Check.fault("land 8 0; ?", 3, 5);
        Check.fault("land 0 ?; land 8 0;", 1, 7);
        Check.fault("land 8 ?;", 3, 5);
        Check.fault("land 8", 3, 5);
        Check.fault("lamd 8 ?;", 2, 0);
        Check.fault("land 0 0; land 0 0 ?", 4, 17);
        Check.fault("land 0 0; land 0 ? 0", 1, 17);
        Check.fault("land 0 0; land 0 8;", 3, 17);
        Check.fault("wind 1 0 0; wind 1 99 0;", 4, 17);
        Check.fault("wind 1 0 0; wind 1", 4, 17);
        Check.fault("wind 1 0 99; wind 1 0 0;", 3, 9);
        Check.fault("stream 1 1 0 0; stream 1 1;", 4, 25);
        Check.fault("miss 0 5 50; miss 0 5 99;", 4, 20);
        Check.fault("miss 0 5 50; miss 0 6 51", 5, 22);
        Check.fault("miss 0 5 50; miss 0 6 51 51;", 5, 22);
        Check.fault("miss 0 5 50 miss 0 5 50;", 2, 12);
    }

    // "at one place the least"
    private static void theLeastFaultAtOnePlace() {
        Check.fault("miss 0 5 101;", 3, 9);
        Check.fault("miss 0 5 50; miss 0 6 101;", 3, 22);
        Check.fault("miss 0 5 50; miss 0 4 -1;", 3, 22);
        Check.fault("999", 2, 0);
        Check.fault("land 0 0 999;", 2, 9);
    }

    // "4 what is told already (a wind of H, a stream of Q and H, a lee of K, a land, a miss of S
    // and N): at its last number that tells which"
    private static void toldAlready() {
        String[] again = {"wind 0 0 0;", "wind 71 30 -30;", "stream 0 0 0 0;", "stream 3 71 0 0;",
            "lee 0 0;", "lee 3 100;", "land 0 0;", "land 7 7;", "miss 0 1 0;", "miss 1 20 100;"};
        int[] telling = {5, 5, 9, 9, 4, 4, 7, 7, 7, 7};
        StringBuilder all = new StringBuilder();
        for (int i = 0; i < again.length; i++) {
            Check.lines(again[i], 1);
            Check.fault(again[i] + again[i], 4, again[i].length() + telling[i]);
            all.append(again[i]);
        }
        Check.lines(all.toString(), again.length);
        for (int i = 0; i < again.length; i++) {
            Check.fault(all + again[i], 4, all.length() + telling[i]);
        }
        Check.fault("wind 7 0 0; wind 007 1 1;", 4, 17);
        Check.fault("wind 0 0 0; wind -0 1 1;", 4, 17);
        Check.fault("lee 0 3; lee 0 3;", 4, 13);
        Check.fault("wind 5 0 0; wind 5 0 0;", 4, 17);
        Check.lines("stream 0 1 0 0; stream 1 0 0 0; stream 0 0 0 0; stream 1 1 0 0;", 4);
        Check.lines("land 0 1; land 1 0; land 0 0; land 1 1;", 4);
        Check.lines("miss 0 1 9; miss 1 1 9; miss 0 2 9; miss 1 2 9;", 4);
        DriftDesk desk = Check.deskOf("wind 5 0 0; land 1 1;");
        Check.due("what an earlier text told is not told in this", Check.sea(desk,
                "wind 5 1 1; land 1 1;"), 2);
    }

    // "5 a miss above that of the greatest N below its own that is told so far (100 if none is),
    // or below that of the least N above that is told so far: at its last number"
    private static void missAboveOrBelow() {
        Check.lines("miss 0 1 100;", 1);
        Check.lines("miss 0 20 100;", 1);
        Check.lines("miss 0 20 0;", 1);
        Check.lines("miss 0 5 50; miss 0 6 50;", 2);
        Check.fault("miss 0 5 50; miss 0 6 51;", 5, 22);
        Check.lines("miss 0 5 50; miss 0 4 50;", 2);
        Check.fault("miss 0 5 50; miss 0 4 49;", 5, 22);
        Check.lines("miss 0 1 50; miss 0 20 50;", 2);
        Check.fault("miss 0 1 50; miss 0 20 51;", 5, 23);
        Check.lines("miss 0 20 50; miss 0 1 50;", 2);
        Check.fault("miss 0 20 50; miss 0 1 49;", 5, 23);
        Check.lines("miss 0 5 50; miss 0 4 100;", 2);
        Check.lines("miss 0 5 50; miss 0 6 0;", 2);
        String both = "miss 0 2 90; miss 0 6 60; miss 0 10 30; miss 0 15 10;";
        int at = both.length() + 9;
        Check.lines(both + "miss 0 8 60;", 5);
        Check.lines(both + "miss 0 8 30;", 5);
        Check.fault(both + "miss 0 8 61;", 5, at);
        Check.fault(both + "miss 0 8 29;", 5, at);
        Check.fault(both + "miss 0 1 89;", 5, at);
        Check.lines(both + "miss 0 1 90;", 5);
        Check.fault(both + "miss 0 16 11;", 5, at + 1);
        Check.lines(both + "miss 0 16 10;", 5);
        // Told later does not count, and neither does the other sort.
        Check.lines("miss 1 8 70; " + both + "miss 1 9 65;", 6);
        Check.lines("miss 0 5 0; miss 1 6 100; miss 1 5 100;", 3);
        Check.lines("miss 0 5 10; miss 1 4 5;", 2);
    }

    // "WIND of an hour: as told; else that of the latest hour ahead that is told, else none (0, 0)"
    private static void windGaps() {
        for (int told = 0; told <= 71; told++) {
            DriftDesk desk = Check.deskOf("wind " + told + " 30 -30;");
            for (int hour = 0; hour <= 71; hour++) {
                Check.due("wind x", desk.wind(hour, false), hour < told ? 0 : 30);
                Check.due("wind y", desk.wind(hour, true), hour < told ? 0 : -30);
            }
        }
        DriftDesk desk = Check.deskOf("wind 71 7 1; wind 0 5 2; wind 35 0 0; wind 34 6 3;");
        Check.due("0", desk.wind(0, false), 5);
        Check.due("33", desk.wind(33, false), 5);
        Check.due("34", desk.wind(34, false), 6);
        Check.due("a calm that is told", desk.wind(35, false), 0);
        Check.due("goes on", desk.wind(70, true), 0);
        Check.due("71", desk.wind(71, false), 7);
    }

    private static void streamGaps() {
        for (int quarter = 0; quarter <= 3; quarter++) {
            DriftDesk desk = Check.deskOf("stream " + quarter + " 71 -30 30; stream " + quarter
                    + " 1 4 -4; stream " + quarter + " 40 0 0;");
            for (int other = 0; other <= 3; other++) {
                boolean same = other == quarter;
                Check.due("none", desk.stream(other, 0, false), 0);
                Check.due("from 1", desk.stream(other, 1, false), same ? 4 : 0);
                Check.due("to 39", desk.stream(other, 39, true), same ? -4 : 0);
                Check.due("a slack that is told", desk.stream(other, 70, true), 0);
                Check.due("at 71 in x", desk.stream(other, 71, false), same ? -30 : 0);
                Check.due("at 71 in y", desk.stream(other, 71, true), same ? 30 : 0);
            }
        }
    }

    // "MISS of a sort S by EFFORT e (0 .. 20): as told for e, else for the greatest N below e that
    // is told, else 100"
    private static void missGaps() {
        for (int told = 1; told <= 20; told++) {
            DriftDesk desk = Check.deskOf("miss 1 " + told + " 0;");
            for (int effort = 0; effort <= 20; effort++) {
                Check.due("miss of it", desk.miss(1, effort), effort < told ? 100 : 0);
                Check.due("miss of the other", desk.miss(0, effort), 100);
            }
        }
        DriftDesk desk = Check.deskOf("miss 0 20 1; miss 0 1 99; miss 0 10 50;");
        int[] due = {100, 99, 99, 50, 50, 1};
        int[] efforts = {0, 1, 9, 10, 19, 20};
        for (int i = 0; i < due.length; i++) {
            Check.due("miss by " + efforts[i], desk.miss(0, efforts[i]), due[i]);
        }
        int[][] wrong = {{0, -1}, {0, 21}, {-1, 0}, {2, 0}, {1, Integer.MIN_VALUE},
            {1, Integer.MAX_VALUE}, {Integer.MIN_VALUE, 20}, {Integer.MAX_VALUE, 20}, {2, 21}};
        for (int[] w : wrong) {
            Check.due("miss(" + w[0] + ", " + w[1] + ")", desk.miss(w[0], w[1]), -1);
        }
    }

    // Promise 9, and "CELL number 8 * row + column"
    private static void landCells() {
        for (int cell = 0; cell <= 63; cell++) {
            DriftDesk desk = Check.deskOf("land " + cell % 8 + " " + cell / 8 + ";");
            for (int other = 0; other <= 63; other++) {
                Check.due("land(" + other + ")", desk.land(other), other == cell ? 1 : 0);
            }
        }
        DriftDesk desk = Check.deskOf("land 0 0; land 7 7;");
        for (int cell : new int[] {-1, 64, 100, Integer.MIN_VALUE, Integer.MAX_VALUE}) {
            Check.due("land(" + cell + ")", desk.land(cell), -1);
        }
    }

    // Promises 6 and 7: "-100 if there is no such hour"; "likewise"
    private static void noSuchHour() {
        DriftDesk desk = Check.deskOf("wind 0 1 1; stream 0 0 1 1; stream 3 0 1 1;");
        for (int hour : new int[] {-1, 72, 73, -100, Integer.MIN_VALUE, Integer.MAX_VALUE}) {
            for (int y = 0; y <= 1; y++) {
                Check.due("wind(" + hour + ")", desk.wind(hour, y == 1), -100);
                Check.due("stream(0, " + hour + ")", desk.stream(0, hour, y == 1), -100);
                Check.due("stream(3, " + hour + ")", desk.stream(3, hour, y == 1), -100);
            }
        }
        for (int quarter : new int[] {-1, 4, 5, Integer.MIN_VALUE, Integer.MAX_VALUE}) {
            Check.due("stream(" + quarter + ")", desk.stream(quarter, 0, false), -100);
            Check.due("stream(" + quarter + ")", desk.stream(quarter, 71, true), -100);
            Check.due("stream(" + quarter + ") at 72", desk.stream(quarter, 72, true), -100);
        }
    }
}
