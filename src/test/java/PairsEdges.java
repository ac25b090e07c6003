/** Boundary cases of promises 21 to 24: promises. */
final class PairsEdges implements Answers {

    static void promise21NobodyIsThere() {
        new Run().still(0, "leave");
        new Run().due(0, "girl", 1, 0, 1).still(0, "leave");
        new Run().due(0, "wind", 0, 1, 0, 0).still(0, "leave");
    }

    private static Run six() {
        Run x = new Run();
        for (int i = 0; i < 6; i++) {
            x.due(i, "girl", 2, i, 9).due(i, "wind", i, 9, 15, 15);
        }
        return x;
    }

    static void promise21AllPairs() {
        six().still(36, "leave").still(0, "first");
    }

    static void promise21AGirlLikesAnyWindBetterThanNone() {
        new Run().due(0, "girl", 4, 4, 1).due(0, "wind", 0, 1, 15, 15).due(0, "gain", 0, 0, 0).still(1, "leave").due(6, "promise", 0, 0)
            .still(0, "leave");
    }

    static void promise21AsMuchAndItsNumberIsLess() {
        Run x = new Run().due(0, "girl", 2, 0, 1).due(0, "wind", 0, 5, 0, 0).due(1, "wind", 0, 5, 0, 0);
        x.due(6, "promise", 0, 1).still(1, "leave").due(1, "promise", 0, 0).still(0, "leave");
    }

    static void promise21SheGains1MoreOr1Less() {
        Run x = new Run().due(0, "girl", 2, 0, 1).due(0, "wind", 0, 5, 0, 0).due(1, "wind", 0, 6, 0, 0).due(2, "wind", 0, 4, 0, 0);
        x.due(6, "promise", 0, 0).still(1, "leave").still(1, "first").due(0, "promise", 0, 1).still(0, "leave");
    }

    static void promise21ItsTurnIsAsMuchAndHerNumberIsLess() {
        Run x = new Run().due(0, "girl", 2, 1, 1).due(1, "girl", 2, 7, 1).due(0, "wind", 0, 5, 0, 0);
        x.due(6, "promise", 1, 0).still(1, "leave").due(0, "promise", 1, -1).due(6, "promise", 0, 0).still(0, "leave");
    }

    static void promise21ItsTurnIs1LessOr1More() {
        Run x = new Run().due(0, "girl", 2, 1, 1).due(1, "girl", 2, 0, 1).due(2, "girl", 2, 2, 1).due(0, "wind", 0, 5, 0, 0);
        x.due(6, "promise", 0, 0).still(1, "leave").still(10, "first");
    }

    static void promise21BetterThanEachWhoIsPromisedToIt() {
        Run x = new Run().due(0, "girl", 2, 0, 1).due(1, "girl", 2, 1, 1).due(2, "girl", 2, 2, 1).due(0, "wind", 0, 5, 0, 0);
        x.due(6, "promise", 0, 0).due(6, "promise", 2, 0).still(0, "leave").due(0, "promise", 0, -1).still(2, "leave");
    }

    static void promise21WhetherItBlowsOrNot() {
        new Run().due(0, "girl", 2, 0, 1).due(0, "wind", 0, 5, 15, 15).still(1, "leave").due(1, "wind", 0, 5, 0, 0).still(2, "leave");
    }

    /** A late one, promised to the farther of two WINDS: early ones GAIN nothing, so the lesser number is what she LIKES. */
    private static Run late() {
        return new Run().due(12, "ends", 16).due(0, "girl", 4, 0, 9).due(0, "wind", 4, 9, 0, 15).due(1, "wind", 0, 9, 0, 15)
            .due(6, "promise", 0, 0);
    }

    static void promise21InMonth() {
        late().times(2, "month").still(0, "leave").due(0, "month").still(1, "leave");
    }

    static void promise21MonthIsHeldTo15() {
        late().times(15, "month").still(1, "leave").due(5, "month").still(1, "leave");
    }

    static void promise22None() {
        new Run().still(NONE, "first");
        new Run().due(0, "girl", 1, 0, 1).still(NONE, "first");
        new Run().due(0, "wind", 0, 1, 0, 0).still(NONE, "first");
        new Run().pair(2, 1, 5, 0, 0).still(NONE, "first");
    }

    static void promise22TheLeastThatCanBe() {
        new Run().due(0, "girl", 2, 0, 1).due(0, "wind", 0, 5, 0, 0).still(0, "first");
    }

    static void promise22TheGreatestThatCanBe() {
        Run x = six();
        for (int i = 0; i < 5; i++) {
            x.due(6, "promise", i, i);
        }
        x.still(55, "first").still(1, "leave");
    }

    static void promise22ByGirlsThenByWinds() {
        Run x = new Run().pair(2, 1, 5, 0, 0).due(1, "girl", 2, 2, 1).due(1, "wind", 0, 4, 0, 0).due(2, "wind", 0, 3, 0, 0);
        x.still(11, "first").still(2, "leave").due(6, "promise", 1, 1).still(NONE, "first").due(0, "promise", 0, 2).still(0, "first");
    }

    static void promise22InMonth() {
        late().times(2, "month").still(NONE, "first").due(0, "month").still(1, "first");
        late().times(15, "month").still(1, "first").due(5, "month").still(1, "first");
    }

    static void promise23OnlyGirlsThatAreThere() {
        new Run().still(BAD, "kept", 0);
        new Run().due(0, "girl", 1, 0, 1).bounds(0, 0, 0, "kept", 0);
        Run.full().bounds(0, 5, 0, "kept", 0);
    }

    static void promise23NoWinds() {
        new Run().due(0, "girl", 1, 0, 1).due(1, "girl", 1, 0, 1).still(6, "kept", 0).still(6, "kept", 1);
    }

    static void promise23OneWindForSix() {
        Run x = new Run().due(0, "wind", 3, 1, 0, 0);
        int[] houses = {0, 1, 4, 2, 7, 5};
        for (int g = 0; g < 6; g++) {
            x.due(g, "girl", 2, houses[g], 1);
        }
        for (int g = 0; g < 6; g++) {
            x.still(g == 2 ? 0 : 6, "kept", g);
        }
    }

    static void promise23OneGirlForSix() {
        Run x = new Run().due(0, "girl", 2, 0, 1);
        int[] forces = {1, 8, 9, 9, 8, 1};
        for (int w = 0; w < 6; w++) {
            x.due(w, "wind", 0, forces[w], 0, 0);
        }
        x.still(2, "kept", 0);
    }

    static void promise23SixForSix() {
        Run x = new Run();
        int[] houses = {4, 3, 2, 1, 0, 0};
        for (int i = 0; i < 6; i++) {
            x.due(i, "girl", 4, houses[i], 1).due(i, "wind", 0, 9, 0, 0);
        }
        // all LIKE the WINDS by their numbers, and each WIND LIKES the nearer ones
        int[] due = {5, 4, 3, 2, 0, 1};
        for (int g = 0; g < 6; g++) {
            x.still(due[g], "kept", g);
        }
    }

    static void promise23WhatEachGirlLikesBest() {
        // two ways hold: each GIRL with the WIND that points elsewhere, which she LIKES, or with that which LIKES her
        Run x = new Run().due(0, "girl", 5, 0, 1).due(1, "girl", 2, 4, 1).due(0, "wind", 0, 9, 0, 0).due(1, "wind", 4, 1, 0, 0);
        x.still(1, "kept", 0).still(0, "kept", 1);
    }

    static void promise23WhoeverIsPromisedNow() {
        Run x = new Run().due(0, "girl", 2, 0, 1).due(1, "girl", 2, 4, 1).due(0, "wind", 4, 5, 0, 0).due(1, "wind", 0, 5, 0, 0);
        x.due(6, "promise", 0, 0).due(6, "promise", 1, 0).still(1, "kept", 0).still(0, "kept", 1);
    }

    static void promise23InMonth() {
        late().times(2, "month").still(0, "kept", 0).due(0, "month").still(1, "kept", 0);
        late().times(15, "month").still(1, "kept", 0).due(5, "month").still(1, "kept", 0);
    }

    static void promise24OnlyGirlsThatAreThere() {
        new Run().still(BAD, "ring", 0);
        new Run().due(0, "girl", 1, 0, 1).bounds(0, 0, 0, "ring", 0);
        Run.full().bounds(0, 5, 0, "ring", 0);
    }

    static void promise24OneAloneIsNone() {
        new Run().pair(2, 1, 5, 0, 0).due(1, "wind", 0, 9, 0, 0).still(NONE, "ring", 0);
    }

    static void promise24PromisedToNone() {
        crossed().due(0, "promise", 0, -1).still(NONE, "ring", 0).still(NONE, "ring", 1);
    }

    private static Run crossed() {
        Run x = new Run().due(12, "ends", 16).due(0, "girl", 2, 0, 9).due(1, "girl", 2, 4, 9);
        return x.due(0, "wind", 4, 5, 15, 15).due(1, "wind", 0, 5, 15, 15).due(6, "promise", 0, 0).due(6, "promise", 1, 1);
    }

    static void promise24TwoAtLeast() {
        crossed().still(2, "ring", 0).still(2, "ring", 1);
    }

    static void promise24SixAtMost() {
        int[] kinds = {5, 5, 1, 1, 5, 5};
        int[] houses = {7, 6, 5, 2, 1, 0};
        int[] points = {0, 7, 6, 5, 2, 1};
        int[] forces = {1, 1, 8, 8, 7, 6};
        Run x = new Run();
        for (int i = 0; i < 6; i++) {
            x.due(i, "girl", kinds[i], houses[i], 9).due(i, "wind", points[i], forces[i], 15, 15).due(6, "promise", i, i);
        }
        x.times(3, "month");
        for (int g = 0; g < 6; g++) {
            x.again().still(6, "ring", g);
        }
        // without the sixth there is no way back
        x.due(5, "promise", 5, -1);
        for (int g = 0; g < 6; g++) {
            x.again().still(NONE, "ring", g);
        }
    }

    static void promise24AsMuchIsNotMore() {
        Run x = new Run().due(0, "girl", 2, 0, 9).due(1, "girl", 2, 0, 9).due(0, "wind", 0, 5, 0, 0).due(1, "wind", 1, 5, 0, 0);
        x.due(6, "promise", 0, 0).due(6, "promise", 1, 1).still(NONE, "ring", 0).still(NONE, "ring", 1);
    }

    static void promise24OneWindForBoth() {
        new Run().pair(2, 9, 5, 0, 0).due(1, "girl", 2, 4, 9).due(6, "promise", 1, 0).still(NONE, "ring", 0).still(NONE, "ring", 1);
    }

    static void promise24TheFewest() {
        // 0 would have the WIND of 1 or of 2, 1 that of 2, and 2 that of 0
        Run x = new Run().due(0, "girl", 2, 4, 9).due(1, "girl", 2, 4, 9).due(2, "girl", 5, 0, 9);
        x.due(0, "wind", 0, 1, 15, 15).due(1, "wind", 4, 5, 15, 15).due(2, "wind", 4, 9, 15, 15);
        x.due(6, "promise", 0, 0).due(6, "promise", 1, 1).due(6, "promise", 2, 2).times(3, "month");
        x.still(2, "ring", 0).still(3, "ring", 1).still(2, "ring", 2);
    }

    static void promise24WhoWantsButIsNotWanted() {
        crossed().due(2, "girl", 2, 0, 9).due(2, "wind", 2, 1, 15, 15).due(6, "promise", 2, 2).still(NONE, "ring", 2).still(2, "ring", 0);
    }

    static void promise24InMonth() {
        crossed().due(2, "remake", 0, 4).due(2, "remake", 1, 4).times(2, "month").still(NONE, "ring", 0).due(0, "month")
            .still(2, "ring", 0);
    }

    static void promise24MonthIsHeldTo15() {
        Run x = new Run().due(12, "ends", 16).times(16, "month").due(0, "girl", 4, 0, 9).due(1, "girl", 4, 4, 9);
        x.due(0, "wind", 4, 5, 15, 15).due(1, "wind", 0, 5, 15, 15).due(6, "promise", 0, 0).due(6, "promise", 1, 1).still(2, "ring", 0);
    }
}
