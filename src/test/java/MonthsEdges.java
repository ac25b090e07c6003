/** Boundary cases of promises 15 to 20: months. */
final class MonthsEdges implements Answers {

    static void promise15OverIsState() {
        new Run().due(12, "ends", 1).due(0, "month").still(STATE, "month").due(1, "state", 0);
        new Run().pair(2, 9, 5, 0, 15).due(12, "ends", 16).times(15, "month").due(5, "month").still(STATE, "month").due(80, "state", 2);
    }

    static void promise15MonthIs1More() {
        new Run().due(0, "month").due(1, "state", 0).due(0, "month").due(2, "state", 0);
    }

    static void promise15ItCourtsHerFromFromToTo() {
        new Run().pair(2, 9, 5, 1, 2).due(0, "month").due(5, "month").due(5, "month").due(0, "month");
    }

    static void promise15OneGirlAMonth() {
        Run x = new Run().pair(2, 3, 5, 0, 15);
        for (int g = 1; g < 6; g++) {
            x.due(g, "girl", 2, 0, 3).due(6, "promise", g, 0);
        }
        x.due(5, "month").due(3, "girlOf", 0, 4);
        for (int g = 1; g < 6; g++) {
            x.due(2, "girlOf", g, 4).due(0, "girlOf", g, 3);
        }
    }

    static void promise15EachWindCourtsOneGirlAMonth() {
        for (int wind = 0; wind < 6; wind++) {
            Run x = new Run().due(0, "girl", 2, 0, 3).due(1, "girl", 2, 0, 3);
            for (int w = 0; w < 6; w++) {
                x.due(w, "wind", 0, 5, 0, 15);
            }
            x.due(6, "promise", 0, wind).due(6, "promise", 1, wind).due(5, "month").due(3, "girlOf", 0, 4).due(2, "girlOf", 1, 4);
            x.due(wind, "promise", 0, 5 - wind).due(10, "month").due(3, "girlOf", 1, 4);
        }
    }

    static void promise15WorthOfAllWhoAreCourted() {
        Run x = new Run();
        for (int g = 0; g < 6; g++) {
            x.pair(2, 1, g + 4, 0, 0);
        }
        x.due(4 + 5 + 6 + 7 + 8 + 9, "month").due(39, "state", 2);
    }

    static void promise15FaithBecomesDowryWhenItCourtsHer() {
        new Run().pair(2, 3, 5, 1, 1).due(0, "month").due(2, "girlOf", 0, 4).due(3, "change", 0, 2, 8).due(5, "month")
            .due(8, "girlOf", 0, 4);
    }

    static void promise15With0SheIsPromisedToNone() {
        new Run().pair(2, 1, 5, 9, 9).due(0, "month").due(6, "girlOf", 0, 3).due(1, "girlOf", 0, 4);
        Run x = new Run().pair(2, 2, 5, 9, 9).due(0, "month").due(0, "girlOf", 0, 3).due(1, "girlOf", 0, 4);
        x.due(0, "month").due(6, "girlOf", 0, 3).due(2, "girlOf", 0, 4);
    }

    static void promise15FaithOfABrokenPromiseBecomesDowryAsItIsThen() {
        new Run().pair(2, 1, 5, 9, 9).due(1, "change", 0, 2, 7).due(0, "month").due(6, "girlOf", 0, 3).due(7, "girlOf", 0, 4);
    }

    static void promise15PromisedToNoneFaithStays() {
        new Run().due(0, "girl", 2, 0, 3).due(3, "change", 0, 2, 5).due(0, "month").due(3, "girlOf", 0, 4).due(6, "girlOf", 0, 3);
    }

    static void promise15SheDoesNothingWhenHerWindBlows() {
        Run x = new Run().pair(2, 3, 5, 0, 15).due(1, "girl", 2, 0, 3).due(6, "promise", 1, 0).due(1, "wind", 0, 9, 0, 15)
            .told(1, "girl leave;");
        x.due(5, "month").due(0, "girlOf", 0, 3).due(0, "girlOf", 1, 3).due(2, "girlOf", 1, 4);
        x.told(1, "girl turn;").due(5, "month").due(0, "girlOf", 0, 3).due(0, "girlOf", 1, 3).due(1, "girlOf", 1, 4);
    }

    static void promise15WaitIsNothing() {
        new Run().pair(2, 3, 5, 1, 1).due(1, "wind", 0, 9, 0, 15).told(1, "girl wait;").due(0, "month").due(0, "girlOf", 0, 3)
            .due(2, "girlOf", 0, 4);
    }

    static void promise15TurnOfSeveralTheLeast() {
        Run x = new Run().due(0, "girl", 2, 0, 3).told(1, "girl turn;");
        x.due(0, "wind", 0, 4, 0, 0).due(1, "wind", 0, 5, 0, 0).due(2, "wind", 2, 6, 0, 0).due(3, "wind", 0, 5, 0, 0);
        x.due(5, "month").due(1, "girlOf", 0, 3);
    }

    static void promise15TurnOnlyToWindsThatBlow() {
        Run x = new Run().due(0, "girl", 2, 0, 3).told(1, "girl turn;").times(1, "month");
        x.due(0, "wind", 0, 9, 0, 0).due(1, "wind", 0, 1, 1, 1).due(2, "wind", 0, 9, 2, 2);
        x.due(1, "month").due(1, "girlOf", 0, 3);
    }

    static void promise15TurnOnlyToWindsToWhichNobodyIsPromised() {
        Run x = new Run().due(0, "girl", 2, 0, 3).due(1, "girl", 2, 0, 3).told(1, "girl turn;");
        x.due(0, "wind", 0, 9, 0, 0).due(1, "wind", 0, 1, 0, 0).due(6, "promise", 1, 0);
        x.due(10, "month").due(1, "girlOf", 0, 3).due(0, "girlOf", 1, 3);
    }

    static void promise15TurnByNumbers() {
        Run x = new Run().due(0, "girl", 2, 0, 3).due(1, "girl", 2, 0, 3).due(2, "girl", 2, 0, 3).told(1, "girl turn;");
        x.due(0, "wind", 0, 4, 0, 0).due(1, "wind", 0, 9, 0, 0);
        x.due(13, "month").due(1, "girlOf", 0, 3).due(0, "girlOf", 1, 3).due(6, "girlOf", 2, 3);
    }

    static void promise15TurnWhenThereIsNone() {
        Run x = new Run().pair(2, 3, 5, 9, 9).due(1, "girl", 2, 0, 3).told(1, "girl turn;");
        x.due(0, "month").due(0, "girlOf", 0, 3).due(2, "girlOf", 0, 4).due(6, "girlOf", 1, 3).due(3, "girlOf", 1, 4);
        new Run().due(0, "girl", 2, 0, 3).told(1, "girl turn;").due(0, "month").due(6, "girlOf", 0, 3);
    }

    static void promise15TurnForAGainOf0() {
        new Run().due(0, "girl", 4, 4, 3).told(1, "girl turn;").due(0, "wind", 0, 1, 0, 0).due(0, "month").due(0, "girlOf", 0, 3);
    }

    static void promise15ItIsHersFromThenOn() {
        Run x = new Run().pair(2, 3, 5, 2, 15).due(1, "wind", 0, 4, 0, 0).told(1, "girl if month=0 turn;").due(4, "month")
            .due(1, "girlOf", 0, 3);
        x.due(3, "girlOf", 0, 4).due(0, "month").due(2, "girlOf", 0, 4).due(0, "month").due(1, "girlOf", 0, 4).due(0, "month")
            .due(6, "girlOf", 0, 3);
    }

    static void promise15WhoLeavesIsNotWorn() {
        Run x = new Run().pair(2, 3, 5, 9, 9).due(0, "month").due(2, "girlOf", 0, 4).due(3, "change", 0, 2, 6).told(1, "girl leave;");
        x.due(0, "month").due(6, "girlOf", 0, 3).due(6, "girlOf", 0, 4).due(0, "month").due(6, "girlOf", 0, 4);
    }

    static void promise15WhoLeavesFromNone() {
        new Run().due(0, "girl", 2, 0, 3).due(3, "change", 0, 2, 5).told(1, "girl leave;").due(0, "month").due(6, "girlOf", 0, 3)
            .due(5, "girlOf", 0, 4);
    }

    static void promise15TheRulesSeeFaithAsItIsThen() {
        Run x = new Run().pair(2, 3, 5, 9, 9).told(1, "girl if faith=1 leave;").due(0, "month").due(0, "month").due(0, "girlOf", 0, 3);
        x.due(1, "girlOf", 0, 4).due(0, "month").due(6, "girlOf", 0, 3).due(3, "girlOf", 0, 4);
    }

    static void promise15LateOnesGainFromMonth3On() {
        new Run().pair(4, 9, 5, 0, 15).due(0, "month").due(0, "month").due(0, "month").due(5, "month");
    }

    static void promise15CourtedFor0IsCourtedAllTheSame() {
        new Run().pair(4, 1, 5, 0, 15).due(0, "month").due(0, "girlOf", 0, 3).due(1, "girlOf", 0, 4);
    }

    static void promise16NIs0To16() {
        new Run().bounds(0, 16, 0, "on", 0);
        Run.full().bounds(0, 16, 0, "on", 0);
    }

    static void promise16OfNoMonths() {
        new Run().pair(2, 9, 5, 0, 15).still(0, "on", 0).still(5, "on", 1);
    }

    static void promise16FewerIfItIsOver() {
        Run x = new Run().pair(2, 9, 5, 0, 15).due(12, "ends", 3).still(10, "on", 2).still(15, "on", 3).still(15, "on", 4)
            .still(15, "on", 16);
        x.due(5, "month").still(10, "on", 2).still(10, "on", 3);
    }

    static void promise16AllSixteen() {
        new Run().pair(2, 9, 5, 0, 15).due(12, "ends", 16).still(75, "on", 15).still(80, "on", 16);
    }

    static void promise16WhenItIsOver() {
        new Run().pair(2, 9, 5, 0, 15).due(12, "ends", 1).due(5, "month").still(0, "on", 1).still(0, "on", 16).still(BAD, "on", 17);
    }

    static void promise17OnlyGirlsThatAreThere() {
        new Run().still(BAD, "courted", 0);
        new Run().due(0, "girl", 1, 0, 1).bounds(0, 0, 0, "courted", 0);
        Run.full().bounds(0, 5, 0, "courted", 0);
    }

    static void promise17NeverAndAlways() {
        new Run().pair(2, 9, 5, 0, 15).due(1, "girl", 2, 0, 9).due(6, "promise", 1, 0).due(12, "ends", 16).still(16, "courted", 0)
            .still(0, "courted", 1);
    }

    static void promise17TheFirstAndTheLastOfSix() {
        Run x = new Run();
        for (int g = 0; g < 6; g++) {
            x.pair(2, 9, 5, 0, g);
        }
        for (int g = 0; g < 6; g++) {
            x.still(g + 1, "courted", g);
        }
    }

    static void promise17AlsoTheLastMonth() {
        new Run().pair(2, 9, 5, 2, 15).due(12, "ends", 3).still(1, "courted", 0).due(3, "ends", 2).still(0, "courted", 0);
    }

    static void promise17ForAGainOf0() {
        new Run().pair(4, 9, 5, 0, 1).still(2, "courted", 0).due(0, "on", 16);
    }

    static void promise17WhenItIsOver() {
        new Run().pair(2, 9, 5, 0, 15).due(12, "ends", 1).due(5, "month").still(0, "courted", 0);
    }

    static void promise18OnlyGirlsThatAreThere() {
        new Run().still(BAD, "breaks", 0);
        new Run().pair(1, 1, 1, 9, 9).bounds(0, 0, 0, "breaks", 0);
        Run.full().bounds(0, 5, 0, "breaks", 0);
    }

    static void promise18NoneIfSheIsPromisedToNone() {
        new Run().due(0, "girl", 1, 0, 1).still(NONE, "breaks", 0);
        new Run().due(0, "girl", 1, 0, 1).due(0, "wind", 0, 1, 0, 15).told(1, "girl turn;").still(NONE, "breaks", 0);
    }

    static void promise18InMonth0() {
        new Run().pair(2, 1, 5, 9, 9).still(0, "breaks", 0);
    }

    static void promise18InMonth15() {
        new Run().pair(2, 9, 5, 0, 6).still(NONE, "breaks", 0).due(12, "ends", 16).still(15, "breaks", 0).due(16, "ends", 15)
            .still(NONE, "breaks", 0);
    }

    static void promise18TheLastMonthOfTheRest() {
        new Run().pair(2, 3, 5, 9, 9).due(12, "ends", 3).still(2, "breaks", 0).due(3, "ends", 2).still(NONE, "breaks", 0);
    }

    static void promise18TheMonthsNumberNotHowManyYet() {
        new Run().pair(2, 3, 5, 9, 9).due(0, "month").still(2, "breaks", 0).due(0, "month").still(2, "breaks", 0);
    }

    static void promise18ByTurningAndByLeaving() {
        Run x = new Run().pair(2, 9, 5, 0, 0).due(1, "wind", 0, 1, 3, 15).told(1, "girl turn;").still(3, "breaks", 0);
        x.told(1, "girl if month=2 leave;").still(2, "breaks", 0);
    }

    static void promise18NeverInTheRest() {
        new Run().pair(2, 1, 5, 0, 15).still(NONE, "breaks", 0);
    }

    static void promise18WhenItIsOver() {
        new Run().pair(2, 2, 5, 9, 9).due(12, "ends", 1).due(0, "month").still(NONE, "breaks", 0);
    }

    static void promise19OnlyGirlsThatAreThere() {
        new Run().still(BAD, "windFor", 0);
        new Run().due(0, "girl", 1, 0, 1).bounds(0, 0, 0, "windFor", 0);
        Run.full().bounds(0, 5, 0, "windFor", 0);
    }

    static void promise19NoWinds() {
        new Run().due(0, "girl", 1, 0, 1).still(6, "windFor", 0).due(12, "ends", 1).due(0, "month").still(6, "windFor", 0);
    }

    static void promise19NoneIsBest() {
        Run x = new Run().due(0, "girl", 2, 4, 9).due(1, "girl", 2, 0, 9).due(0, "wind", 0, 5, 0, 15).due(6, "promise", 1, 0)
            .still(6, "windFor", 0);
        x.due(6, "promise", 0, 0).still(6, "windFor", 0);
    }

    static void promise19OfSeveralTheLeast() {
        Run x = new Run().due(0, "girl", 2, 0, 1).due(0, "wind", 0, 4, 0, 15).due(1, "wind", 0, 5, 0, 15).due(2, "wind", 0, 5, 0, 15)
            .still(1, "windFor", 0);
        x.due(6, "promise", 0, 2).still(1, "windFor", 0);
    }

    static void promise19AWindIsLessThanNone() {
        new Run().due(0, "girl", 2, 0, 1).due(0, "wind", 0, 4, 15, 15).still(0, "windFor", 0);
    }

    static void promise19TheLastOfSix() {
        Run x = new Run().due(0, "girl", 2, 0, 1);
        for (int w = 0; w < 6; w++) {
            x.due(w, "wind", 0, w + 1, 0, 15);
        }
        x.still(5, "windFor", 0);
    }

    static void promise19FaithBecomesDowry() {
        new Run().pair(2, 3, 5, 4, 15).due(1, "wind", 0, 1, 4, 15).times(2, "month").due(1, "girlOf", 0, 4).still(0, "windFor", 0);
    }

    static void promise19WhenItIsOver() {
        new Run().pair(2, 3, 5, 0, 15).due(1, "wind", 0, 9, 0, 15).due(12, "ends", 1).due(5, "month").still(0, "windFor", 0);
    }

    static void promise20OnlyGirlsThatAreThere() {
        new Run().still(BAD, "dowryFor", 0);
        new Run().due(0, "girl", 1, 0, 1).bounds(0, 0, 0, "dowryFor", 0);
        Run.full().bounds(0, 5, 0, "dowryFor", 0);
    }

    static void promise20OneAtLeast() {
        new Run().due(0, "girl", 1, 0, 9).still(1, "dowryFor", 0);
        new Run().pair(2, 9, 5, 0, 15).still(1, "dowryFor", 0);
    }

    static void promise20NineAtMost() {
        new Run().pair(2, 1, 5, 8, 8).still(9, "dowryFor", 0);
        new Run().pair(2, 1, 5, 9, 9).still(1, "dowryFor", 0);
    }

    static void promise20OfSeveralTheLeast() {
        new Run().pair(2, 9, 5, 3, 9).still(4, "dowryFor", 0).still(0, "girlOf", 0, 3);
        new Run().pair(2, 9, 5, 1, 9).still(2, "dowryFor", 0);
    }

    static void promise20FaithBecomesThatNow() {
        new Run().pair(2, 9, 5, 3, 3).due(0, "month").due(8, "girlOf", 0, 4).still(3, "dowryFor", 0);
    }

    static void promise20DowryItselfCounts() {
        new Run().due(0, "girl", 2, 0, 2).due(0, "wind", 0, 5, 3, 3).told(1, "girl if dowry=7 turn;").still(7, "dowryFor", 0);
    }

    static void promise20WhenItIsOver() {
        new Run().pair(2, 9, 5, 0, 15).due(12, "ends", 1).due(5, "month").still(1, "dowryFor", 0);
    }
}
