import java.math.BigInteger;

/** Boundary cases of promises 32 to 38: strange winds, lots. */
final class ChanceEdges implements Answers {

    static void promise32KindIs1To5() {
        new Run().bounds(1, 5, 0, "report", 1, 0, 0, 0);
    }

    static void promise32HouseIs0To7() {
        new Run().bounds(0, 7, 1, "report", 1, 0, 0, 0);
    }

    static void promise32LeastIs0To99() {
        new Run().bounds(0, 99, 2, "report", 1, 0, 0, 99);
        new Run().still(BAD, "report", 1, 0, 100, 100).still(BAD, "report", 1, 0, -1, -1);
    }

    static void promise32MostIs0To99() {
        new Run().bounds(0, 99, 3, "report", 1, 0, 0, 0);
    }

    static void promise32MostIsNotBelowLeast() {
        new Run().bounds(50, 99, 3, "report", 1, 0, 50, 50).bounds(0, 50, 2, "report", 1, 0, 50, 50);
    }

    static void promise32SixAtMostNumberedAsTheyCome() {
        Run x = new Run();
        for (int r = 0; r < 6; r++) {
            x.due(r, "report", 1, 0, 0, 99);
        }
        x.still(FULL, "report", 1, 0, 0, 99).still(FULL, "report", 5, 7, 99, 99).due(6, "many", 3);
    }

    static void promise32BadAheadOfFull() {
        Run x = Run.full().bounds(1, 5, 0, "report", 1, 0, 0, 0).bounds(0, 7, 1, "report", 1, 0, 0, 0);
        x.bounds(0, 9, 2, "report", 1, 0, 0, 9).bounds(9, 99, 3, "report", 1, 0, 9, 9);
    }

    static void promise33NoneAndSix() {
        new Run().still(0, "forget");
        Run.full().due(6, "forget").due(0, "many", 3).still(0, "forget");
    }

    static void promise33NumbersBeginAnew() {
        Run.full().due(6, "forget").due(72, "span", 0).due(0, "report", 4, 7, 9, 9).due(1, "span", 0).due(7, "span", 1);
    }

    static void promise34WhatIs0To2() {
        new Run().bounds(0, 2, 0, "span", 0);
        new Run().due(0, "report", 1, 0, 99, 99).still(BAD, "span", -1).still(BAD, "span", 3);
    }

    static void promise34NoReports() {
        new Run().still(72, "span", 0).still(0, "span", 1).still(1, "span", 2);
    }

    static void promise34NoneFit() {
        new Run().due(0, "report", 1, 0, 5, 99).still(0, "span", 0).still(NONE, "span", 1).still(NONE, "span", 2);
        new Run().due(0, "report", 4, 0, 10, 99).still(0, "span", 0);
        new Run().due(0, "report", 3, 0, 11, 99).still(0, "span", 0);
        new Run().due(0, "report", 5, 0, 10, 99).still(0, "span", 0);
    }

    static void promise34TheGreatestPointAndForce() {
        new Run().due(0, "report", 4, 7, 9, 9).still(1, "span", 0).still(7, "span", 1).still(9, "span", 2);
    }

    static void promise34TheLeastPointThenTheLeastForce() {
        new Run().due(0, "report", 4, 0, 0, 0).still(16, "span", 0).still(1, "span", 1).still(1, "span", 2);
        new Run().due(0, "report", 4, 1, 8, 8).still(3, "span", 0).still(0, "span", 1).still(9, "span", 2);
        new Run().due(0, "report", 4, 0, 8, 9).still(4, "span", 0).still(0, "span", 1).still(8, "span", 2);
    }

    static void promise34FromLeastToMost() {
        new Run().due(0, "report", 4, 0, 8, 8).still(3, "span", 0).still(0, "span", 1).still(8, "span", 2);
        new Run().due(0, "report", 4, 0, 9, 99).still(1, "span", 0);
        new Run().due(0, "report", 3, 0, 10, 10).still(3, "span", 0).still(0, "span", 1).still(9, "span", 2);
        new Run().due(0, "report", 3, 0, 1, 1).still(6, "span", 0).still(2, "span", 1).still(1, "span", 2);
        new Run().due(0, "report", 5, 0, 9, 9).still(9, "span", 0).still(0, "span", 1).still(1, "span", 2);
        new Run().due(0, "report", 1, 0, 4, 4).still(4, "span", 0).still(0, "span", 1).still(8, "span", 2);
        new Run().due(0, "report", 2, 0, 9, 9).still(3, "span", 0);
        new Run().due(0, "report", 2, 0, 0, 0).still(6, "span", 0).still(2, "span", 1).still(1, "span", 2);
    }

    static void promise34MonthIs3OrLaterWhateverMonthIs() {
        new Run().due(0, "report", 4, 0, 9, 9).still(1, "span", 0).times(2, "month").still(1, "span", 0).due(0, "month")
            .still(1, "span", 0);
    }

    static void promise34EachReportIsSo() {
        Run x = new Run().due(0, "report", 4, 0, 8, 9).due(1, "report", 4, 1, 9, 9).still(1, "span", 0).still(1, "span", 1)
            .still(9, "span", 2);
        x.due(2, "report", 1, 0, 0, 99).due(3, "report", 1, 0, 0, 99).due(4, "report", 1, 0, 0, 99).still(1, "span", 0)
            .due(5, "report", 4, 2, 9, 9).still(0, "span", 0);
    }

    static void promise34EachReportByItsOwnKindAndHouse() {
        Run x = new Run().due(0, "report", 1, 0, 0, 99).due(1, "report", 3, 2, 10, 10).still(3, "span", 0).still(1, "span", 1)
            .still(9, "span", 2);
        x.due(2, "report", 5, 3, 9, 9).still(1, "span", 0).still(3, "span", 1).still(9, "span", 2);
        x.due(3, "report", 4, 3, 9, 9).due(4, "report", 2, 4, 9, 9).due(5, "report", 1, 3, 4, 4).still(1, "span", 0).still(NONE, "liar");
    }

    static void promise35NoReports() {
        new Run().still(NONE, "liar");
    }

    static void promise35SomeFit() {
        new Run().due(0, "report", 4, 0, 9, 9).still(NONE, "liar");
    }

    static void promise35OneAlone() {
        new Run().due(0, "report", 1, 0, 99, 99).still(0, "liar");
    }

    static void promise35TheLeast() {
        new Run().due(0, "report", 4, 0, 9, 9).due(1, "report", 4, 1, 9, 9).still(0, "liar");
        new Run().due(0, "report", 1, 0, 0, 99).due(1, "report", 4, 0, 9, 9).due(2, "report", 4, 1, 9, 9).still(1, "liar");
    }

    static void promise35TheLastOfSix() {
        Run x = new Run();
        for (int r = 0; r < 5; r++) {
            x.due(r, "report", 4, 0, 9, 9);
        }
        x.due(5, "report", 4, 1, 9, 9).still(5, "liar");
    }

    static void promise35NoSuchReport() {
        new Run().due(0, "report", 4, 0, 9, 9).due(1, "report", 4, 1, 9, 9).due(2, "report", 4, 2, 9, 9).still(NONE, "liar");
        new Run().due(0, "report", 1, 0, 99, 99).due(1, "report", 1, 0, 99, 99).still(NONE, "liar");
    }

    static void promise36AnyIntWillDo() {
        new Run().due(1, "seed", LOW).due(LOW, "seed", HIGH).due(HIGH, "seed", 0).due(0, "seed", -1).due(-1, "seed", 1).still(1, "seed", 1);
    }

    /** What z becomes, by more bits than an int has, cut to an int in the end. */
    private static int next(int z) {
        return BigInteger.valueOf(z).multiply(BigInteger.valueOf(1103515245)).add(BigInteger.valueOf(12345)).intValue();
    }

    private static int actOf(int z, int girls) {
        return (int) ((z & 0xffffffffL) / 65536 % (girls + 1));
    }

    static void promise37ZWraps() {
        for (int z : new int[] {LOW, HIGH, 0, -1, 1, 65535, 65536, -65536, 1 << 30, 3}) {
            new Run().due(1, "seed", z).due(0, "lot").due(next(z), "seed", 0);
        }
    }

    static void promise37WhoIsHidden() {
        boolean[] seen = new boolean[7];
        for (int z = -12; z <= 12; z++) {
            Run x = new Run().due(0, "wind", 0, 1, 15, 15).due(1, "seed", z);
            for (int g = 0; g < 6; g++) {
                x.due(g, "girl", 1, 0, 9).due(6, "promise", g, 0);
            }
            int act = actOf(next(z), 6);
            seen[act] = true;
            x.due(0, "lot");
            for (int g = 0; g < 6; g++) {
                x.due(g == act - 1 ? 9 : 8, "girlOf", g, 4);
            }
        }
        for (int act = 0; act < 7; act++) {
            if (!seen[act]) {
                EdgesTest.complain("no z was tried that leaves " + act);
            }
        }
    }

    static void promise37OfOneGirl() {
        for (int z : new int[] {2, -2087924461, LOW, HIGH}) {
            new Run().pair(2, 9, 5, 0, 15).due(1, "seed", z).due(actOf(next(z), 1) == 0 ? 5 : 0, "lot");
        }
    }

    static void promise37NobodyIsThere() {
        new Run().due(0, "lot").due(1, "state", 0).due(next(1), "seed", 0);
    }

    static void promise37WhenItIsOverZStays() {
        new Run().due(12, "ends", 1).due(0, "lot").still(STATE, "lot").due(1, "state", 0).due(next(1), "seed", 0);
    }

    static void promise37ItCountsForScoreAndMonth() {
        new Run().pair(2, 9, 5, 0, 15).due(1, "seed", 2).due(5, "lot").due(1, "state", 0).due(5, "state", 2);
    }

    static void promise38NIs1To40() {
        new Run().bounds(1, 40, 0, "often", 1, 0);
        Run.full().bounds(1, 40, 0, "often", 1, 0);
    }

    static void promise38VIs0To999() {
        new Run().bounds(0, 999, 1, "often", 1, 0);
        Run.full().bounds(0, 999, 1, "often", 1, 0);
    }

    static void promise38VOrMore() {
        // by z = 2 nobody is HIDDEN in the first MONTH, and she is in the second one
        new Run().pair(2, 9, 5, 0, 15).due(12, "ends", 2).due(1, "seed", 2).still(1, "often", 1, 0).still(1, "often", 1, 4)
            .still(1, "often", 1, 5).still(0, "often", 1, 6);
    }

    static void promise38ZGoesOnAndIsAsItWasInTheEnd() {
        int z = 7;
        int times = 0;
        for (int i = 0; i < 40; i++) {
            z = next(z);
            times += actOf(z, 1) == 0 ? 1 : 0;
        }
        new Run().pair(2, 9, 5, 0, 15).due(12, "ends", 1).due(1, "seed", 7).still(times, "often", 40, 5).still(times, "often", 40, 1)
            .still(40, "often", 40, 0).due(7, "seed", 0);
    }

    static void promise38EachFromHowItIsNow() {
        // by what is left of her FAITH: only who is HIDDEN in the first MONTH is courted in the second
        int z = 7;
        int times = 0;
        for (int i = 0; i < 40; i++) {
            int first = next(z);
            z = next(first);
            times += actOf(first, 1) == 1 && actOf(z, 1) == 0 ? 1 : 0;
        }
        new Run().pair(2, 1, 5, 1, 15).due(12, "ends", 2).due(1, "seed", 7).still(times, "often", 40, 5);
    }

    static void promise38WhenItIsOver() {
        new Run().pair(2, 9, 5, 0, 15).due(12, "ends", 1).due(5, "month").still(40, "often", 40, 0).still(0, "often", 40, 1)
            .still(1, "often", 1, 0);
    }

    static void promise38NobodyIsThere() {
        new Run().still(40, "often", 40, 0).still(0, "often", 40, 1);
    }
}
