/** Boundary cases of promises 39 to 42: rows. */
final class RowsEdges implements Answers {

    /** Two are promised to one WIND; it courts the second, who GAINS more, only while the first is HIDDEN. */
    private static Run rivals() {
        return new Run().due(0, "girl", 2, 4, 1).due(1, "girl", 2, 0, 1).due(0, "wind", 0, 5, 0, 15).due(6, "promise", 0, 0)
            .due(6, "promise", 1, 0);
    }

    static void promise39NIs0To4() {
        new Run().bounds(0, 4, 0, "prove", 0);
        Run.full().bounds(0, 4, 0, "prove", 0);
    }

    static void promise39OfNoMonths() {
        rivals().due(2, "prove", 2).due(0, "prove", 0).due(0, "many", 4).due(NO_ROW, "row", 0, 0);
    }

    static void promise39OfFour() {
        Run x = rivals().due(4, "prove", 4).due(4, "many", 4);
        for (int k = 0; k < 4; k++) {
            x.due(1, "row", k, 0).due(5, "row", k, 1).due(3, "row", k, 2);
        }
    }

    static void promise39FromTheMonthThatComes() {
        Run x = new Run().pair(2, 9, 5, 1, 2).due(4, "prove", 4).due(0, "row", 0, 1).due(5, "row", 1, 1).due(5, "row", 2, 1)
            .due(0, "row", 3, 1);
        x.due(0, "month").due(4, "prove", 4).due(5, "row", 0, 1).due(5, "row", 1, 1).due(0, "row", 2, 1);
    }

    static void promise39FewerInPlaceOfMore() {
        rivals().due(4, "prove", 4).due(1, "prove", 1).due(1, "many", 4).due(1, "row", 0, 0).due(NO_ROW, "row", 1, 0);
    }

    static void promise39FewerIfItIsOver() {
        rivals().due(12, "ends", 2).due(2, "prove", 4).due(NO_ROW, "row", 2, 0).due(3, "month").due(1, "prove", 4).due(3, "month")
            .due(0, "prove", 4).due(0, "many", 4);
    }

    static void promise39NobodyIsThere() {
        new Run().due(4, "prove", 4).due(0, "row", 3, 0).due(0, "row", 3, 1).due(0, "row", 3, 2);
    }

    static void promise39ItChangesNothingElse() {
        rivals().due(4, "prove", 4).due(0, "state", 0).due(0, "state", 2).due(1, "girlOf", 1, 4).still(4, "prove", 4);
    }

    static void promise40NoSuchRow() {
        new Run().still(NO_ROW, "row", 0, 0);
        Run x = rivals().due(2, "prove", 2).still(NO_ROW, "row", -1, 0).still(5, "row", 0, 1).still(5, "row", 1, 1)
            .still(NO_ROW, "row", 2, 0);
        x.still(NO_ROW, "row", LOW, 0).still(NO_ROW, "row", HIGH, 0);
        rivals().due(4, "prove", 4).still(5, "row", 3, 1).still(NO_ROW, "row", 4, 0);
    }

    static void promise40NumbersThatWrap() {
        // three times these, as an int, is from 0 to 11
        rivals().due(4, "prove", 4).still(NO_ROW, "row", 1431655766, 0).still(NO_ROW, "row", -1431655765, 0)
            .still(NO_ROW, "row", 1431655768, 2).still(NO_ROW, "row", 0, 3).still(NO_ROW, "row", 1, -1);
    }

    static void promise40AnotherWhat() {
        rivals().due(2, "prove", 2).still(NO_ROW, "row", 0, -1).still(1, "row", 0, 0).still(3, "row", 0, 2).still(NO_ROW, "row", 0, 3)
            .still(NO_ROW, "row", 0, LOW).still(NO_ROW, "row", 0, HIGH);
    }

    static void promise40NobodyAndAllArePromised() {
        Run x = new Run().due(0, "wind", 0, 5, 15, 15);
        for (int g = 0; g < 6; g++) {
            x.due(g, "girl", 2, 0, 9);
        }
        x.due(1, "prove", 1).due(0, "row", 0, 2);
        for (int g = 0; g < 6; g++) {
            x.due(6, "promise", g, 0);
        }
        x.due(1, "prove", 1).due(63, "row", 0, 2);
    }

    static void promise40TheGreatestAct() {
        Run x = new Run().due(0, "wind", 0, 5, 1, 15);
        for (int g = 0; g < 6; g++) {
            x.due(g, "girl", 2, 0, 1);
        }
        x.due(6, "promise", 5, 0).due(2, "prove", 2).due(6, "row", 0, 0).due(0, "row", 0, 1).due(32, "row", 0, 2).due(0, "row", 1, 0)
            .due(5, "row", 1, 1).due(32, "row", 1, 2);
        x.due(0, "judge");
    }

    static void promise41NoSuchRow() {
        new Run().still(NO_ROW, "alterRow", 0, 0, 1);
        Run x = rivals().due(2, "prove", 2).still(NO_ROW, "alterRow", -1, 0, 7).still(NO_ROW, "alterRow", 2, 0, 7)
            .still(NO_ROW, "alterRow", LOW, 0, 7).still(NO_ROW, "alterRow", HIGH, 0, 7);
        x.still(NO_ROW, "alterRow", 1431655766, 0, 7).still(NO_ROW, "alterRow", -1431655765, 0, 7);
    }

    static void promise41AnotherWhat() {
        Run x = rivals().due(2, "prove", 2).still(NO_ROW, "alterRow", 0, -1, 7).still(NO_ROW, "alterRow", 0, 3, 7)
            .still(NO_ROW, "alterRow", 1, -1, 7);
        x.still(NO_ROW, "alterRow", 0, LOW, 7).still(NO_ROW, "alterRow", 0, HIGH, 7);
    }

    static void promise41AnyIntWillDo() {
        Run x = rivals().due(4, "prove", 4);
        x.due(1, "alterRow", 0, 0, LOW).due(LOW, "row", 0, 0).due(LOW, "alterRow", 0, 0, HIGH).due(HIGH, "alterRow", 0, 0, -9)
            .due(-9, "row", 0, 0);
        x.due(3, "alterRow", 3, 2, -1).due(-1, "row", 3, 2).due(5, "row", 3, 1).due(1, "row", 1, 0);
    }

    static void promise42NoRows() {
        new Run().still(0, "judge");
        rivals().due(0, "prove", 0).still(0, "judge");
    }

    static void promise42AllIsRight() {
        rivals().due(4, "prove", 4).still(0, "judge");
        new Run().due(4, "prove", 4).still(0, "judge");
    }

    static void promise42EachThatMayBeWrong() {
        for (int k = 0; k < 4; k++) {
            for (int what = 0; what < 3; what++) {
                for (int v : new int[] {LOW, HIGH, -1, 2, 4, 64}) {
                    rivals().due(4, "prove", 4).times(1, "alterRow", k, what, v).still(k + 1, "judge");
                }
            }
        }
    }

    static void promise42TheFirstOfSeveral() {
        rivals().due(4, "prove", 4).due(5, "alterRow", 3, 1, 6).due(5, "alterRow", 1, 1, 6).still(2, "judge").due(6, "alterRow", 1, 1, 5)
            .still(4, "judge");
    }

    static void promise42AnActIsOneFrom0ToHowManyGirlsThereAre() {
        // who is HIDDEN or not, nothing is WORTH anything, and nobody is promised
        Run x = new Run().due(0, "girl", 2, 0, 1).due(1, "girl", 2, 0, 1).due(1, "prove", 1);
        x.times(1, "alterRow", 0, 0, -1).still(1, "judge").times(1, "alterRow", 0, 0, 0).still(0, "judge").times(1, "alterRow", 0, 0, 2)
            .still(0, "judge");
        x.times(1, "alterRow", 0, 0, 3).still(1, "judge").times(1, "alterRow", 0, 0, HIGH).still(1, "judge")
            .times(1, "alterRow", 0, 0, LOW).still(1, "judge");
    }

    static void promise42APlanNeedNotBeBest() {
        new Run().pair(2, 9, 5, 0, 15).due(1, "prove", 1).due(0, "alterRow", 0, 0, 1).still(1, "judge").due(5, "alterRow", 0, 1, 0)
            .still(0, "judge");
    }

    static void promise42OverAheadOfARow() {
        Run x = rivals().due(4, "prove", 4).due(12, "ends", 4).still(0, "judge").due(4, "ends", 3).still(4, "judge").due(3, "ends", 1)
            .still(2, "judge");
        x.due(3, "month").still(1, "judge");
    }

    static void promise42OverAheadOfARowThatHidesNobody() {
        new Run().due(2, "prove", 2).due(12, "ends", 2).still(0, "judge").due(2, "ends", 1).still(2, "judge").due(0, "month")
            .still(1, "judge");
    }

    static void promise42FromHowItIsNow() {
        rivals().due(2, "prove", 2).due(0, "promise", 1, -1).still(1, "judge").due(6, "promise", 1, 0).still(0, "judge");
    }
}
