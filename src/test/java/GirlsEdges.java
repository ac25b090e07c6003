/** Boundary cases of promises 1 to 12: girls, winds. */
final class GirlsEdges implements Answers {

    static void promise01NoGirlsWindsRulesReports() {
        for (int what = 0; what <= 3; what++) {
            new Run().still(0, "many", what);
        }
    }

    static void promise01NothingIsKept() {
        new Run().still(NONE, "again");
    }

    static void promise01MonthIs0EndIs12ScoreIs0() {
        new Run().due(0, "state", 0).due(12, "state", 1).due(0, "state", 2).due(0, "state", 3);
    }

    static void promise01ZIs1() {
        new Run().due(1, "seed", 0);
    }

    static void promise01SheetsAreMissing() {
        for (int sheet = 0; sheet < 4; sheet++) {
            new Run().still(NOTHING, "write", sheet, 0, 0).still(NOTHING, "item", sheet, 0, 0).still(NOTHING, "item", sheet, 4, 0);
        }
    }

    static void promise01ShelvesHoldNothing() {
        for (int shelf = 0; shelf < 4; shelf++) {
            new Run().still(NOTHING, "taken", shelf, 0).still(NOTHING, "taken", shelf, 14).still(0, "act", shelf, 0, 0);
        }
    }

    static void promise01NoRowsNoBytesNoTrace() {
        new Run().still(0, "many", 4).still(0, "many", 5).still(0, "many", 6).still(NO_ROW, "row", 0, 0).still(NONE, "trace", 0);
    }

    static void promise01ObjectsAreApart() {
        Run.full();
        Run x = new Run();
        x.due(0, "many", 0).due(0, "many", 1).due(0, "many", 2).due(0, "many", 3).due(0, "many", 4).due(0, "many", 5).due(0, "many", 6);
        x.due(1, "seed", 1).due(0, "state", 0).due(NOTHING, "taken", 0, 0).due(NOTHING, "item", 0, 0, 0).due(NONE, "again");
    }

    static void promise01The512thCallHolds() {
        new Run().times(511, "seed", 5).due(5, "seed", 0);
        Run x = Run.full();
        x.times(511 - x.size(), "month").due(11, "many", 6);
    }

    static void promise01TheAnswersThatHaveNames() {
        named("BAD", WindBrides.BAD, -1);
        named("FULL", WindBrides.FULL, -2);
        named("NONE", WindBrides.NONE, -3);
        named("STATE", WindBrides.STATE, -4);
    }

    private static void named(String name, int there, int due) {
        if (there != due) {
            EdgesTest.complain(name + " is " + there);
        }
    }

    static void promise02KindIs1To5() {
        new Run().bounds(1, 5, 0, "girl", 1, 0, 1);
    }

    static void promise02HouseIs0To7() {
        new Run().bounds(0, 7, 1, "girl", 1, 0, 1);
    }

    static void promise02DowryIs1To9() {
        new Run().bounds(1, 9, 2, "girl", 1, 0, 1);
    }

    static void promise02TheLeastAndTheGreatestAreKept() {
        Run x = new Run().due(0, "girl", 1, 0, 1).due(1, "girl", 5, 7, 9);
        x.due(1, "girlOf", 0, 0).due(0, "girlOf", 0, 1).due(1, "girlOf", 0, 2);
        x.due(5, "girlOf", 1, 0).due(7, "girlOf", 1, 1).due(9, "girlOf", 1, 2);
    }

    static void promise02SixAtMostNumberedAsTheyCome() {
        Run x = new Run();
        for (int g = 0; g < 6; g++) {
            x.due(g, "girl", 1, 0, 1);
        }
        x.still(FULL, "girl", 1, 0, 1).still(FULL, "girl", 5, 7, 9).due(6, "many", 0);
    }

    static void promise02BadAheadOfFull() {
        Run.full().bounds(1, 5, 0, "girl", 1, 0, 1).bounds(0, 7, 1, "girl", 1, 0, 1).bounds(1, 9, 2, "girl", 1, 0, 1);
    }

    static void promise02PromisedToNoneFaithIsDowryAtFirst() {
        Run x = new Run().due(0, "wind", 0, 1, 0, 15).due(0, "girl", 1, 0, 1).due(1, "girl", 1, 0, 9);
        x.due(6, "girlOf", 0, 3).due(1, "girlOf", 0, 4).due(6, "girlOf", 1, 3).due(9, "girlOf", 1, 4);
    }

    static void promise02AlsoWhenItIsOver() {
        new Run().due(12, "ends", 1).due(0, "month").due(0, "girl", 1, 0, 1).due(1, "many", 0);
    }

    static void promise03WhatIs0To5() {
        new Run().due(0, "girl", 1, 0, 1).bounds(0, 5, 1, "girlOf", 0, 0);
    }

    static void promise03OnlyGirlsThatAreThere() {
        new Run().still(BAD, "girlOf", 0, 0);
        new Run().due(0, "girl", 1, 0, 1).bounds(0, 0, 0, "girlOf", 0, 0);
        Run.full().bounds(0, 5, 0, "girlOf", 0, 0);
    }

    static void promise03NoneIs6() {
        Run x = Run.full();
        x.due(6, "girlOf", 5, 3).due(6, "promise", 5, 5).due(5, "girlOf", 5, 3).due(5, "promise", 5, 0).due(0, "girlOf", 5, 3);
    }

    static void promise03FaithIs1AtLeastAndDowryAtMost() {
        Run x = new Run().pair(2, 2, 5, 3, 15);
        x.due(2, "girlOf", 0, 4).due(0, "month").due(1, "girlOf", 0, 4).due(0, "month").due(2, "girlOf", 0, 4);
    }

    static void promise03SheWaitsIfNoRuleTells() {
        new Run().due(0, "girl", 1, 0, 1).still(0, "girlOf", 0, 5).told(1, "bred leave;").still(0, "girlOf", 0, 5);
    }

    static void promise03EachThatSheDoes() {
        Run x = new Run().due(0, "girl", 1, 0, 1);
        x.told(1, "girl wait;").still(0, "girlOf", 0, 5).told(1, "girl turn;").still(1, "girlOf", 0, 5);
        x.told(1, "girl leave;").still(2, "girlOf", 0, 5);
    }

    static void promise03WhatSheWouldDoThoughHerWindBlows() {
        new Run().pair(2, 2, 5, 0, 15).told(1, "girl leave;").still(2, "girlOf", 0, 5).due(5, "month").due(0, "girlOf", 0, 3);
    }

    static void promise03WhatSheWouldDoWhenItIsOver() {
        Run x = new Run().due(0, "girl", 1, 0, 1).due(12, "ends", 16).times(16, "month");
        x.told(1, "girl if month=16 leave;").still(2, "girlOf", 0, 5);
    }

    static void promise04WhatIs1Or2() {
        new Run().due(0, "girl", 1, 0, 1).bounds(1, 2, 1, "change", 0, 1, 5);
    }

    static void promise04HouseIs0To7() {
        new Run().due(0, "girl", 1, 3, 4).bounds(0, 7, 2, "change", 0, 1, 0).due(3, "change", 0, 1, 0).due(0, "change", 0, 1, 7)
            .due(7, "girlOf", 0, 1);
    }

    static void promise04DowryIs1To9() {
        new Run().due(0, "girl", 1, 3, 4).bounds(1, 9, 2, "change", 0, 2, 1).due(4, "change", 0, 2, 1).due(1, "change", 0, 2, 9)
            .due(9, "girlOf", 0, 2);
    }

    static void promise04OnlyGirlsThatAreThere() {
        new Run().still(BAD, "change", 0, 1, 1);
        new Run().due(0, "girl", 1, 0, 1).bounds(0, 0, 0, "change", 0, 1, 1).bounds(0, 0, 0, "change", 0, 2, 1);
        Run.full().bounds(0, 5, 0, "change", 0, 1, 1);
    }

    static void promise04OnlyThatOneChanges() {
        Run x = new Run().due(0, "girl", 1, 3, 4).due(1, "girl", 1, 3, 4).due(3, "change", 1, 1, 5).due(4, "change", 1, 2, 6);
        x.due(3, "girlOf", 0, 1).due(4, "girlOf", 0, 2).due(5, "girlOf", 1, 1).due(6, "girlOf", 1, 2).due(4, "girlOf", 1, 4);
    }

    static void promise04WhatItWasAlready() {
        new Run().due(0, "girl", 1, 3, 4).still(3, "change", 0, 1, 3).still(4, "change", 0, 2, 4);
    }

    static void promise05KindIs1To5() {
        new Run().due(0, "girl", 3, 0, 1).bounds(1, 5, 1, "remake", 0, 1).due(3, "remake", 0, 1).due(1, "remake", 0, 5)
            .due(5, "girlOf", 0, 0);
    }

    static void promise05OnlyGirlsThatAreThere() {
        new Run().still(BAD, "remake", 0, 1);
        new Run().due(0, "girl", 1, 0, 1).bounds(0, 0, 0, "remake", 0, 1);
        Run.full().bounds(0, 5, 0, "remake", 0, 1);
    }

    static void promise05AllElseStays() {
        Run x = new Run().pair(2, 3, 5, 9, 9).due(0, "month").due(2, "remake", 0, 4);
        x.due(0, "girlOf", 0, 1).due(3, "girlOf", 0, 2).due(0, "girlOf", 0, 3).due(2, "girlOf", 0, 4).still(4, "remake", 0, 4);
    }

    static void promise06PointIs0To7() {
        new Run().bounds(0, 7, 0, "wind", 0, 1, 0, 0);
    }

    static void promise06ForceIs1To9() {
        new Run().bounds(1, 9, 1, "wind", 0, 1, 0, 0);
    }

    static void promise06FromIs0To15() {
        new Run().bounds(0, 15, 2, "wind", 0, 1, 0, 15);
    }

    static void promise06ToIs0To15() {
        new Run().bounds(0, 15, 3, "wind", 0, 1, 0, 0);
    }

    static void promise06ToIsNotBelowFrom() {
        new Run().bounds(7, 15, 3, "wind", 0, 1, 7, 7).bounds(0, 7, 2, "wind", 0, 1, 7, 7).bounds(15, 15, 3, "wind", 0, 1, 15, 15);
        new Run().still(BAD, "wind", 0, 1, 16, 16).still(BAD, "wind", 0, 1, -1, -1);
    }

    static void promise06TheLeastAndTheGreatestAreKept() {
        Run x = new Run().due(0, "wind", 0, 1, 0, 0).due(1, "wind", 7, 9, 15, 15);
        int[] least = {0, 1, 0, 0};
        int[] most = {7, 9, 15, 15};
        for (int what = 0; what < 4; what++) {
            x.due(least[what], "windOf", 0, what).due(most[what], "windOf", 1, what);
        }
    }

    static void promise06SixAtMostNumberedAsTheyCome() {
        Run x = new Run();
        for (int w = 0; w < 6; w++) {
            x.due(w, "wind", 0, 1, 0, 0);
        }
        x.still(FULL, "wind", 0, 1, 0, 0).still(FULL, "wind", 7, 9, 15, 15).due(6, "many", 2);
    }

    static void promise06BadAheadOfFull() {
        Run x = Run.full().bounds(0, 7, 0, "wind", 0, 1, 0, 0).bounds(1, 9, 1, "wind", 0, 1, 0, 0);
        x.bounds(0, 3, 2, "wind", 0, 1, 0, 3).bounds(3, 15, 3, "wind", 0, 1, 3, 3);
    }

    static void promise07WhatIs0To5() {
        new Run().due(0, "wind", 0, 1, 0, 0).bounds(0, 5, 1, "windOf", 0, 0);
    }

    static void promise07OnlyWindsThatAreThere() {
        new Run().still(BAD, "windOf", 0, 0);
        new Run().due(0, "wind", 0, 1, 0, 0).bounds(0, 0, 0, "windOf", 0, 4);
        Run.full().bounds(0, 5, 0, "windOf", 0, 0);
    }

    static void promise07NobodyAndAllArePromisedToIt() {
        Run x = Run.full();
        x.still(0, "windOf", 5, 4);
        for (int g = 0; g < 6; g++) {
            x.call("promise", g, 5);
        }
        x.still(63, "windOf", 5, 4).still(0, "windOf", 0, 4);
        x.call("promise", 0, -1);
        x.still(62, "windOf", 5, 4);
    }

    static void promise07ItBlowsFromFromToTo() {
        Run x = new Run().due(0, "wind", 0, 1, 2, 3).due(1, "wind", 0, 1, 0, 0).due(12, "ends", 16);
        int[] first = {0, 0, 1, 1, 0};
        int[] second = {1, 0, 0, 0, 0};
        for (int month = 0; month < 5; month++) {
            x.still(first[month], "windOf", 0, 5).due(second[month], "windOf", 1, 5).due(0, "month");
        }
    }

    static void promise07NoneBlowsBehindMonth15() {
        Run x = new Run().due(0, "wind", 0, 1, 15, 15).due(12, "ends", 16).times(14, "month");
        x.due(0, "windOf", 0, 5).due(0, "month").due(1, "windOf", 0, 5).due(0, "month").due(0, "windOf", 0, 5);
    }

    static void promise08NoneIsMinus1() {
        Run x = new Run().pair(1, 2, 1, 9, 9);
        x.bounds(-1, 0, 1, "promise", 0, 0).due(0, "promise", 0, -1).due(6, "girlOf", 0, 3).still(6, "promise", 0, -1);
    }

    static void promise08OnlyWindsThatAreThere() {
        new Run().due(0, "girl", 1, 0, 1).bounds(-1, -1, 1, "promise", 0, -1);
        Run.full().bounds(-1, 5, 1, "promise", 0, 0);
    }

    static void promise08OnlyGirlsThatAreThere() {
        new Run().still(BAD, "promise", 0, -1);
        new Run().due(0, "wind", 0, 1, 0, 0).due(0, "girl", 1, 0, 1).bounds(0, 0, 0, "promise", 0, 0).bounds(0, 0, 0, "promise", 0, -1);
        Run.full().bounds(0, 5, 0, "promise", 0, 0);
    }

    static void promise08FaithBecomesDowry() {
        Run x = new Run().pair(1, 5, 1, 9, 9).due(0, "month").due(4, "girlOf", 0, 4);
        x.again().due(0, "promise", 0, 0).due(5, "girlOf", 0, 4);
        x.again().due(0, "promise", 0, -1).due(5, "girlOf", 0, 4);
        x.due(5, "change", 0, 2, 7).due(4, "girlOf", 0, 4).due(0, "promise", 0, 0).due(7, "girlOf", 0, 4);
    }

    static void promise08SeveralToOneWind() {
        new Run().pair(1, 1, 1, 9, 9).due(1, "girl", 1, 0, 1).due(6, "promise", 1, 0).due(3, "windOf", 0, 4);
    }

    static void promise08AlsoWhenItIsOver() {
        new Run().pair(1, 1, 1, 0, 9).due(12, "ends", 1).due(0, "month").due(0, "promise", 0, -1).due(6, "promise", 0, 0)
            .due(0, "girlOf", 0, 3);
    }

    static void promise09MonthIs0To15() {
        new Run().pair(1, 1, 1, 0, 0).bounds(0, 15, 2, "gain", 0, 0, 0);
    }

    static void promise09OnlyGirlsAndWindsThatAreThere() {
        new Run().still(BAD, "gain", 0, 0, 0);
        new Run().due(0, "girl", 1, 0, 1).still(BAD, "gain", 0, 0, 0);
        new Run().due(0, "wind", 0, 1, 0, 0).still(BAD, "gain", 0, 0, 0);
        new Run().pair(1, 1, 1, 0, 0).bounds(0, 0, 0, "gain", 0, 0, 0).bounds(0, 0, 1, "gain", 0, 0, 0);
        Run.full().bounds(0, 5, 0, "gain", 0, 0, 0).bounds(0, 5, 1, "gain", 0, 0, 0);
    }

    static void promise09TurnIsTheShorterWayRound() {
        int[] turns = {0, 1, 2, 3, 4, 3, 2, 1};
        for (int point = 0; point < 8; point++) {
            Run x = new Run().due(0, "wind", point, 9, 0, 0).due(0, "girl", 4, 0, 1);
            for (int house = 0; house < 8; house++) {
                x.call("change", 0, 1, house);
                x.due(9 - turns[(8 + house - point) % 8], "gain", 0, 0, 3);
            }
        }
    }

    /** GAIN of a KIND in a MONTH: a row of digits for each FORCE, in it one for each TURN 0 to 4, and so much more. */
    private static void gains(int kind, int month, int more, String... byForce) {
        for (int turn = 0; turn <= 4; turn++) {
            for (int force = 1; force <= 9; force++) {
                Run x = new Run().due(0, "girl", kind, turn, 1).due(0, "wind", 0, force, 0, 0);
                x.due(byForce[force - 1].charAt(turn) - '0' + more, "gain", 0, 0, month);
            }
        }
    }

    static void promise09Shared0AtLeast() {
        String[] table = {"00000", "10000", "11000", "21100", "22110", "32211", "33221", "43322", "44332"};
        gains(1, 0, 0, table);
        gains(1, 15, 0, table);
    }

    static void promise09Bred0AtLeast() {
        String[] table = {"11000", "22110", "33221", "44332", "55443", "66554", "77665", "88776", "99887"};
        gains(2, 0, 0, table);
        gains(2, 15, 0, table);
    }

    static void promise09TwiceIsBredsAnd1() {
        String[] bred = {"11000", "22110", "33221", "44332", "55443", "66554", "77665", "88776", "99887"};
        gains(3, 0, 1, bred);
        gains(3, 15, 1, bred);
    }

    static void promise09LateFromMonth3On() {
        String[] early = {"00000", "00000", "00000", "00000", "00000", "00000", "00000", "00000", "00000"};
        String[] later = {"10000", "21000", "32100", "43210", "54321", "65432", "76543", "87654", "98765"};
        gains(4, 0, 0, early);
        gains(4, 2, 0, early);
        gains(4, 3, 0, later);
        gains(4, 15, 0, later);
    }

    static void promise09CalmIsLatesAnd9LessForce() {
        String[] early = {"88888", "77777", "66666", "55555", "44444", "33333", "22222", "11111", "00000"};
        String[] later = {"98888", "98777", "98766", "98765", "98765", "98765", "98765", "98765", "98765"};
        gains(5, 0, 0, early);
        gains(5, 2, 0, early);
        gains(5, 3, 0, later);
        gains(5, 15, 0, later);
    }

    static void promise09WhetherItBlowsOrNot() {
        new Run().pair(2, 1, 5, 7, 7).still(5, "gain", 0, 0, 6).still(5, "gain", 0, 0, 8);
    }

    static void promise10EndIs1To16() {
        new Run().bounds(1, 16, 0, "ends", 1).due(12, "ends", 1).due(1, "ends", 16).due(16, "state", 1);
    }

    static void promise10NotBelowMonth() {
        Run x = new Run().times(5, "month").still(STATE, "ends", 4).still(STATE, "ends", 1).due(12, "ends", 5).due(1, "state", 3);
        x.still(STATE, "ends", 4).due(5, "ends", 6).due(0, "state", 3);
    }

    static void promise10BadAheadOfState() {
        new Run().times(5, "month").still(BAD, "ends", 0).still(BAD, "ends", LOW).still(BAD, "ends", 17).still(BAD, "ends", HIGH);
    }

    static void promise10AtTheVeryEnd() {
        new Run().due(12, "ends", 16).times(16, "month").still(STATE, "ends", 15).still(16, "ends", 16).due(1, "state", 3);
    }

    static void promise11AtMonth0() {
        new Run().pair(2, 2, 5, 0, 15).still(0, "anew").still(0, "anew");
    }

    static void promise11WhenItIsOver() {
        Run x = new Run().pair(2, 2, 5, 0, 15).due(12, "ends", 16).times(16, "month").due(80, "state", 2);
        x.due(16, "anew").due(0, "state", 0).due(16, "state", 1).due(0, "state", 2).due(0, "state", 3).due(5, "month");
    }

    static void promise11FaithOfAllIsDowry() {
        Run x = new Run();
        for (int g = 0; g < 5; g++) {
            x.pair(2, g + 3, 5, 15, 15);
        }
        x.due(5, "girl", 1, 0, 8).due(8, "change", 5, 2, 4).times(2, "month");
        int[] worn = {1, 2, 3, 4, 5, 8};
        int[] anew = {3, 4, 5, 6, 7, 4};
        for (int g = 0; g < 6; g++) {
            x.due(worn[g], "girlOf", g, 4);
        }
        x.due(2, "anew");
        for (int g = 0; g < 6; g++) {
            x.due(anew[g], "girlOf", g, 4);
        }
    }

    static void promise11PromisesStay() {
        new Run().pair(2, 2, 5, 1, 1).due(1, "girl", 1, 0, 1).times(2, "month").due(2, "anew").due(0, "girlOf", 0, 3)
            .due(6, "girlOf", 1, 3);
    }

    static void promise11EndRulesReportsAndZStay() {
        Run.full().due(12, "ends", 9).due(2, "anew").due(9, "state", 1).due(2, "many", 1).due(6, "many", 3).due(12345, "seed", 0);
    }

    static void promise11NobodyIsThere() {
        new Run().times(3, "month").due(3, "anew").due(0, "state", 0);
    }

    static void promise12WhatIs0To3() {
        new Run().bounds(0, 3, 0, "state", 0);
        Run.full().bounds(0, 3, 0, "state", 0);
    }

    static void promise12FromEndOnItIsOver() {
        Run x = new Run().due(12, "ends", 2).still(0, "state", 3).due(0, "month").still(0, "state", 3).due(0, "month").still(1, "state", 3);
        x.due(2, "state", 0).due(2, "ends", 3).still(0, "state", 3);
    }

    static void promise12ScoreIsWhatMonthsWereWorth() {
        Run x = new Run().pair(2, 2, 5, 0, 15).due(0, "state", 2).due(5, "month").due(5, "state", 2).due(5, "on", 1).due(5, "state", 2);
        x.due(1, "sheet", 0, 0, 2).due(10, "goAll", 0, 0, 2).due(15, "state", 2).due(1, "seed", 2).due(5, "lot").due(20, "state", 2);
    }
}
