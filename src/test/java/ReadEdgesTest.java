import java.util.function.Consumer;

/**
 * Promise 8, and what the Terms say of set-ups and the FAULT: each sentence that names a boundary
 * has a test of its own, named by the sentence.
 */
public final class ReadEdgesTest {
    private static final Due due = new Due("ReadEdgesTest");

    public static void main(String[] args) {
        emptyThen();
        oneToTwelve();
        betweenThem();
        noneBehindTheTwelfth();
        hundredBytes();
        axes();
        digits();
        refusedPoints();
        refusedMarks();
        refusedGoing();
        nothingElse();
        everyByteOfAPoint();
        everyByteOfMarkAndGoing();
        endsTooEarly();
        faultAheadOfRefusing();
        nothingDoneByFault();
        oneBehindTheOther();
        howManyWereDone();
        onlyPointsChange();
        due.end();
    }

    /** On points as SetUps.corners has them, what the text is read as. */
    private static void onCorners(String text, int want) {
        ShapeMoves x = new ShapeMoves();
        SetUps.corners(x);
        due.is("'" + text + "' on eight", Due.read(x, text), want);
    }

    private static void onBare(String text, int want) {
        due.is("'" + text + "'", Due.read(new ShapeMoves(), text), want);
    }

    private static void fault(String text, int fault) {
        onBare(text, -10 - fault);
    }

    /** Read behind a set-up without a text, this one changes nothing. */
    private static void keeps(String text, Consumer<ShapeMoves> setUp, int want) {
        due.keeps("'" + text + "'", setUp, x -> Due.read(x, text), want);
    }

    private static String repeated(String clause, int times) {
        StringBuilder text = new StringBuilder(clause);
        for (int i = 1; i < times; i++) {
            text.append(';').append(clause);
        }
        return text.toString();
    }

    private static void emptyThen() {
        due.promise("8 'which is empty then (by a FAULT, too)'");
        ShapeMoves x = new ShapeMoves();
        due.is("all are done", Due.read(x, "p0,0,0,0"), 1);
        due.is("empty", x.count(3), 0);
        due.is("an empty text has its FAULT at 0", x.read(), -10);
        due.is("refused", Due.read(x, "p0,0,0,0"), 0);
        due.is("empty", x.count(3), 0);
        due.is("FAULT at 2", Due.read(x, "p0x"), -12);
        due.is("empty", x.count(3), 0);
        due.is("FAULT of an empty text", x.read(), -10);
        due.is("still empty", x.count(3), 0);
        due.is("nothing of it stays behind", Due.read(x, "d0"), 1);
        ShapeMoves y = new ShapeMoves();
        SetUps.crowded(y);
        due.is("a full one: two marks change", y.read(), 2);
        due.is("empty", y.count(3), 0);
        due.is("there is room", y.feed('p'), 1);
        due.is("a shorter one isn't read on behind its end", y.read(), -11);
    }

    private static void oneToTwelve() {
        due.promise("8, Terms 'CLAUSES, 1 to 12'");
        fault("", 0);
        onBare("d0", 0);
        onCorners("d0", 1);
        onCorners(repeated("m01", 11), 11);
        onCorners(repeated("m01", 12), 12);
        fault(repeated("m01", 13), 47);
        onCorners(repeated("d0", 12), 8);
        fault(repeated("d0", 13), 35);
        ShapeMoves x = new ShapeMoves();
        SetUps.corners(x);
        due.is("thirteen", Due.read(x, repeated("d0", 13)), -45);
        due.is("none of them is done", x.told(0), 8);
    }

    private static void betweenThem() {
        due.promise("8, Terms 'with ; between'");
        onCorners("m01;m12", 2);
        fault("m01m12", 3);
        fault("m01,m12", 3);
        fault("d0d1", 2);
        fault("p0,0,0,0p0,0,1,0", 8);
        fault(";", 0);
        fault(";d0", 0);
        fault("d0;;d1", 3);
        fault("d0;", 3);
        fault("d0;d1;", 6);
    }

    private static void noneBehindTheTwelfth() {
        due.promise("8, Terms '(none behind the twelfth)'");
        fault(repeated("d0", 11) + ";", 33);
        fault(repeated("d0", 12) + ";", 35);
        fault(repeated("d0", 12) + ";;", 35);
        fault(repeated("d0", 12) + "x", 35);
        fault(repeated("d0", 12) + "0", 35);
        fault(repeated("d0", 12) + ",", 35);
        fault(repeated("m00", 12) + ";", 47);
        ShapeMoves x = new ShapeMoves();
        SetUps.corners(x);
        due.is("twelve and ;", Due.read(x, repeated("d0", 12) + ";"), -45);
        due.is("none of them is done", x.told(0), 8);
    }

    private static void hundredBytes() {
        due.promise("8, Terms 'THE TEXT (bytes, 100 at most)'");
        onBare(SetUps.TEXT_OF_100, 10);
        fault(SetUps.TEXT_OF_100.substring(0, 99), 99);
        onBare(SetUps.TEXT_OF_100.substring(0, 96), 9);
        onCorners(SetUps.TEXT_OF_100, 2);
        String nines = repeated("p-9,-9,-9,9", 8);
        fault(nines + ";p1,1", 100);
        fault(nines + ";d0;d", 100);
        fault(nines + ";d0d0", 98);
        ShapeMoves x = new ShapeMoves();
        SetUps.feed(x, SetUps.TEXT_OF_100);
        due.is("a byte too many isn't there", x.feed('x'), -4);
        due.is("as without it", x.read(), 10);
    }

    private static void axes() {
        due.promise("8, Terms 'X, Y, Z: perhaps -, a digit'");
        ShapeMoves x = new ShapeMoves();
        due.is("least and most", Due.read(x, "p-3,3,-3,0;p3,-3,3,4"), 2);
        due.is("least X", x.at(-3, 3, -3), 0);
        due.is("most X", x.at(3, -3, 3), 1);
        due.is("-0 is a digit behind -", Due.read(x, "p-0,-0,-0,1"), 1);
        due.is("it is 0", x.at(0, 0, 0), 2);
        fault("p-,0,0,0", 2);
        fault("p0,-,0,0", 4);
        fault("p0,0,-,0", 6);
        fault("p--1,0,0,0", 2);
        fault("p+1,0,0,0", 1);
        fault("p1-,0,0,0", 2);
        fault("p,0,0,0", 1);
        fault("p0,,0,0", 3);
        fault("p0,0,,0", 5);
    }

    private static void digits() {
        due.promise("8, Terms 'i, MARK: a digit each'");
        onCorners("m74;d7", 2);
        onCorners("m84;d8;m94;d9", 0);
        fault("m-01", 1);
        fault("m0-1", 2);
        fault("d-0", 1);
        fault("p0,0,0,-0", 7);
        fault("m012", 3);
        fault("d01", 2);
        fault("p0,0,0,01", 8);
        fault("p10,0,0,0", 2);
        fault("p-10,0,0,0", 3);
        fault("m0", 2);
        fault("m0,1", 2);
        fault("d", 1);
    }

    private static void refusedPoints() {
        due.promise("8, Terms '(X, Y, Z above 3 or below -3, MARK above 4: that CLAUSE is refused)'");
        for (int axis = 0; axis < 3; axis++) {
            for (int v = -9; v <= 9; v++) {
                String text = "p" + (axis == 0 ? v : 0) + "," + (axis == 1 ? v : 0) + "," + (axis == 2 ? v : 0) + ",0";
                ShapeMoves x = new ShapeMoves();
                due.is(text, Due.read(x, text), v >= -3 && v <= 3 ? 1 : 0);
                due.is("points then", x.told(0), v >= -3 && v <= 3 ? 1 : 0);
            }
        }
        for (int v = 0; v <= 9; v++) {
            ShapeMoves x = new ShapeMoves();
            due.is("p with mark " + v, Due.read(x, "p0,0,0," + v), v <= 4 ? 1 : 0);
            due.is("points then", x.told(0), v <= 4 ? 1 : 0);
        }
        keeps("p4,0,0,0;p0,-4,0,0;p0,0,9,0;p0,0,-9,0;p0,0,0,5", SetUps::textless, 0);
        due.promise("8 'those that would be refused aren't': a point");
        keeps("p1,0,0,0", SetUps::textless, 0);
        keeps("p-1,0,0,1", SetUps::textless, 0);
        keeps("p0,0,0,0", SetUps::corners, 0);
        onBare("p0,0,0,0;p0,0,0,0;p0,0,0,1", 1);
    }

    private static void refusedMarks() {
        due.promise("8, Terms 'MARK above 4: that CLAUSE is refused': m");
        for (int v = 0; v <= 9; v++) {
            ShapeMoves x = new ShapeMoves();
            x.point(0, 0, 0, 3);
            due.is("m0" + v, Due.read(x, "m0" + v), v <= 4 ? 1 : 0);
            due.is("mark then", x.of(0, 3), v <= 4 ? v : 3);
        }
        due.promise("8 'those that would be refused aren't': a mark");
        keeps("m31", SetUps::textless, 0);
        keeps("m91", SetUps::textless, 0);
        keeps("m81", SetUps::corners, 0);
        keeps("m00", SetUps::bare, 0);
        keeps("m35", SetUps::textless, 0);
        keeps("m21;m23", SetUps::textless, 2);
    }

    private static void refusedGoing() {
        due.promise("8 'those that would be refused aren't': going");
        keeps("d3", SetUps::textless, 0);
        keeps("d9", SetUps::textless, 0);
        keeps("d8", SetUps::corners, 0);
        keeps("d0", SetUps::bare, 0);
        onCorners("d7", 1);
        onCorners("d7;d7", 1);
        onCorners("d0;d7", 1);
    }

    private static void nothingElse() {
        due.promise("8, Terms 'Nothing else stands between (no blanks: p1,-2,3,0 or m01)'");
        onBare("p1,-2,3,0", 1);
        onCorners("m01", 1);
        fault(" p1,-2,3,0", 0);
        fault("p 1,-2,3,0", 1);
        fault("p1 ,-2,3,0", 2);
        fault("p1, -2,3,0", 3);
        fault("p1,- 2,3,0", 4);
        fault("p1,-2,3, 0", 8);
        fault("p1,-2,3,0 ", 9);
        fault("m 01", 1);
        fault("m0 1", 2);
        fault("m01 ", 3);
        fault("m01 ;d0", 3);
        fault("m01; d0", 4);
        fault("d 0", 1);
        fault("d0 ", 2);
        fault("d0\n", 2);
        fault("P0,0,0,0", 0);
        fault("M00", 0);
        fault("D0", 0);
    }

    /** Every byte at every place of a text: the FAULT is there, or the byte could stand there. */
    private static void everyByte(String text, String[] others, int[][] faults) {
        for (int place = 0; place < text.length(); place++) {
            for (int b = 0; b < 128; b++) {
                String changed = text.substring(0, place) + (char) b + text.substring(place + 1);
                int other = others[place].indexOf((char) b);
                boolean isDigit = b >= '0' && b <= '9' && text.charAt(place) >= '0' && text.charAt(place) <= '9';
                if (other >= 0) {
                    fault(changed, faults[place][other]);
                } else if (!isDigit && b != text.charAt(place)) {
                    fault(changed, place);
                } else {
                    due.is("'" + changed + "' has none", Due.read(new ShapeMoves(), changed) >= 0 ? 1 : 0, 1);
                }
            }
        }
    }

    private static void everyByteOfAPoint() {
        due.promise("8, Terms 'the place of the first byte with which none begins so': p");
        everyByte("p1,2,3,0;d0", new String[] {"md", "-", "", "-", "", "-", "", "", "", "pm", ""},
                new int[][] {{2, 2}, {2}, {}, {4}, {}, {6}, {}, {}, {}, {11, 11}, {}});
        // a digit where - stands is fine itself: the FAULT is the digit behind it
        String digits = "0123456789";
        int[][] behind = new int[3][10];
        for (int i = 0; i < 3; i++) {
            java.util.Arrays.fill(behind[i], 3 * i + 2);
        }
        everyByte("p-1,-2,-3,4", new String[] {"md", digits, "", "", digits, "", "", digits, "", "", ""},
                new int[][] {{1, 1}, behind[0], {}, {}, behind[1], {}, {}, behind[2], {}, {}, {}});
    }

    private static void everyByteOfMarkAndGoing() {
        due.promise("8, Terms 'the place of the first byte with which none begins so': m, d");
        everyByte("m01;d0;m01", new String[] {"pd", "", "", "", "pm", "", "", "pd", "", ""},
                new int[][] {{2, 2}, {}, {}, {}, {6, 6}, {}, {}, {9, 9}, {}, {}});
    }

    private static void endsTooEarly() {
        due.promise("8, Terms '(the end of THE TEXT, if it ends too early)'");
        String text = "p-1,-2,-3,4;m01;d0";
        for (int length = 0; length < text.length(); length++) {
            boolean isWhole = length == 11 || length == 15;
            if (!isWhole) {
                fault(text.substring(0, length), length);
            }
        }
        onBare(text.substring(0, 11), 1);
        onBare(text.substring(0, 15), 2);
        onBare(text, 3);
    }

    private static void faultAheadOfRefusing() {
        due.promise("8 'Without FAULT they are done': a FAULT behind a clause that would be refused");
        fault("p9,9,9,9;", 9);
        fault("m99;x", 4);
        fault("d9;d", 4);
        fault("p9,9,9,9x", 8);
        fault("x;p0,0,0,0", 0);
    }

    private static void nothingDoneByFault() {
        due.promise("8 'Without FAULT they are done': none with one");
        keeps("d0;", SetUps::textless, -13);
        keeps("d0;m14;p3,3,3,3;x", SetUps::textless, -26);
        keeps("p3,3,3,3;p3,3,2,3;d9;m0", SetUps::corners, -33);
        keeps("", SetUps::textless, -10);
        keeps("x", SetUps::corners, -10);
    }

    private static void oneBehindTheOther() {
        due.promise("8 'done, one behind the other'");
        ShapeMoves x = new ShapeMoves();
        due.is("numbers are those of then", Due.read(x, "p1,0,0,1;p2,0,0,2;d0;m04;p1,0,0,3;m12"), 6);
        due.is("two are left", x.told(0), 2);
        due.is("the second is the first", x.of(0, 0), 2);
        due.is("its mark", x.of(0, 3), 4);
        due.is("the place was free again", x.of(1, 0), 1);
        due.is("its mark", x.of(1, 3), 2);
        due.is("one is asked ahead of its coming", Due.read(new ShapeMoves(), "m01;d0;p0,0,0,0"), 1);
        onCorners("p0,0,0,0;d0;p0,0,0,0;p0,0,1,0", 2);
        onCorners("d7;p0,0,0,0;p0,0,1,0;m74", 3);
    }

    private static void howManyWereDone() {
        due.promise("8 'how many CLAUSES were done'");
        onBare("d0", 0);
        onBare(repeated("d0", 12), 0);
        onBare("p0,0,0,0", 1);
        onBare("p0,0,0,5;p0,0,0,0;p0,0,0,0;m05;m04;d1;d0;d0", 3);
    }

    private static void onlyPointsChange() {
        due.promise("8 'is a set-up': no more than POINTS and THE TEXT change");
        ShapeMoves x = new ShapeMoves();
        SetUps.crowded(x);
        x.read();
        int[] counts = {5, 8, 8, 0};
        for (int what = 0; what < 4; what++) {
            due.is("count(" + what + ")", x.count(what), counts[what]);
        }
        due.is("THE IMAGE is that of then", x.undo(), 8);
        due.is("its marks", x.of(7, 3), 0);
        due.is("tapes stay", x.peek(1, 59), 0);
    }
}
