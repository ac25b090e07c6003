/** Boundary cases of promises 53 and 54: kept. */
final class KeptEdges implements Answers {

    static void promise53OfANewObject() {
        Run x = new Run().due(1, "keep").due(0, "girl", 1, 0, 1).due(0, "wind", 0, 1, 0, 0).due(0, "report", 1, 0, 0, 0)
            .told(1, "girl wait;").due(0, "month").due(12, "ends", 3).due(1, "seed", 9);
        x.due(0, "again").due(0, "many", 0).due(0, "many", 1).due(0, "many", 2).due(0, "many", 3).due(0, "state", 0).due(12, "state", 1)
            .due(1, "seed", 1);
    }

    static void promise53TheLatest() {
        new Run().due(1, "keep").due(0, "girl", 1, 0, 1).due(1, "keep").due(1, "girl", 1, 0, 1).due(1, "again").due(1, "many", 0)
            .due(1, "again");
    }

    static void promise53ItChangesNothingNow() {
        Run.full().due(1, "keep").still(1, "keep");
    }

    static void promise53WhatIsKeptStaysApart() {
        Run x = Run.full().due(1, "keep");
        x.times(1, "change", 0, 1, 0).times(1, "change", 0, 2, 9).times(1, "remake", 0, 5).times(1, "promise", 0, 5).times(1, "ends", 16)
            .times(3, "month");
        x.times(1, "forget").times(1, "seed", 77).told(-115, "").told(1, "girl leave;").due(6, "again");
        x.due(1, "girlOf", 0, 0).due(2, "girlOf", 0, 1).due(2, "girlOf", 0, 2).due(0, "girlOf", 0, 3).due(2, "state", 0)
            .due(12, "state", 1).due(6, "many", 3).due(2, "many", 1).due(12345, "seed", 0);
    }

    static void promise54NothingIsKept() {
        new Run().still(NONE, "again").due(0, "girl", 1, 0, 1).still(NONE, "again");
    }

    static void promise54HowManyGirls() {
        new Run().due(1, "keep").due(0, "again").due(0, "girl", 1, 0, 1).due(1, "keep").due(1, "again");
        Run.full().due(1, "keep").due(6, "again");
    }

    static void promise54ItStays() {
        Run x = new Run().pair(2, 2, 5, 9, 9).due(1, "keep");
        for (int i = 0; i < 3; i++) {
            x.due(0, "month").due(0, "month").due(6, "girlOf", 0, 3).due(2, "change", 0, 2, 9).due(1, "girl", 1, 0, 1).due(1, "again");
            x.due(0, "girlOf", 0, 3).due(2, "girlOf", 0, 2).due(2, "girlOf", 0, 4).due(1, "many", 0);
        }
    }

    static void promise54AllSixGirls() {
        Run x = new Run().due(0, "wind", 0, 5, 15, 15);
        for (int g = 0; g < 6; g++) {
            x.due(g, "girl", 1 + g % 5, g + 1, 9 - g).due(6, "promise", g, g == 3 ? -1 : 0);
        }
        x.due(0, "month").due(1, "keep");
        for (int g = 0; g < 6; g++) {
            x.times(1, "remake", g, 5 - g % 5).times(1, "change", g, 1, 0).times(1, "change", g, 2, 1)
                .times(1, "promise", g, g == 3 ? 0 : -1);
        }
        x.due(6, "again");
        for (int g = 0; g < 6; g++) {
            x.due(1 + g % 5, "girlOf", g, 0).due(g + 1, "girlOf", g, 1).due(9 - g, "girlOf", g, 2).due(g == 3 ? 6 : 0, "girlOf", g, 3)
                .due(g == 3 ? 6 : 8 - g, "girlOf", g, 4);
        }
    }

    static void promise54GirlsAndWindsThatCameLaterAreGone() {
        Run x = new Run().pair(2, 2, 5, 9, 9).due(1, "keep").due(1, "girl", 1, 0, 1).due(1, "wind", 0, 1, 0, 0).due(0, "promise", 0, 1)
            .due(1, "again");
        x.still(BAD, "girlOf", 1, 0).still(BAD, "windOf", 1, 0).still(BAD, "promise", 0, 1).due(0, "girlOf", 0, 3).due(1, "girl", 3, 3, 3)
            .due(6, "girlOf", 1, 3);
    }

    static void promise54AllSixWinds() {
        Run x = new Run();
        for (int w = 0; w < 6; w++) {
            x.due(w, "wind", w + 2, 9 - w, w, 10 + w);
        }
        x.due(1, "keep").due(0, "again");
        for (int w = 0; w < 6; w++) {
            x.due(w + 2, "windOf", w, 0).due(9 - w, "windOf", w, 1).due(w, "windOf", w, 2).due(10 + w, "windOf", w, 3);
        }
        x.still(FULL, "wind", 0, 1, 0, 0);
    }

    static void promise54RulesFromEightToNoneAndBack() {
        Run x = new Run().due(0, "girl", 1, 0, 1).told(8, "bred wait;".repeat(7) + "girl if month=0 leave;").due(1, "keep").told(0, "")
            .due(0, "girlOf", 0, 5);
        x.due(1, "again").due(8, "many", 1).due(2, "girlOf", 0, 5).told(0, "").due(1, "keep").told(1, "girl turn;").due(1, "again")
            .due(0, "many", 1).due(0, "girlOf", 0, 5);
    }

    static void promise54Reports() {
        Run x = new Run().due(0, "report", 4, 3, 9, 9).due(1, "keep").due(1, "forget").due(0, "report", 4, 5, 9, 9)
            .due(1, "report", 4, 5, 0, 99).due(0, "again");
        x.due(1, "many", 3).due(3, "span", 1).due(9, "span", 2).due(1, "report", 1, 0, 0, 99);
    }

    static void promise54AllSixReports() {
        Run x = new Run();
        for (int r = 0; r < 5; r++) {
            x.due(r, "report", 4, 0, 9, 9);
        }
        x.due(5, "report", 4, 1, 9, 9).due(1, "keep").due(6, "forget");
        for (int r = 0; r < 6; r++) {
            x.due(r, "report", 1 + r % 3, 7, 3, 4);
        }
        x.due(0, "again").due(6, "many", 3).due(5, "liar").due(0, "span", 0).due(6, "forget").due(0, "again").due(5, "liar");
    }

    static void promise54TheConditionsOfEachRule() {
        Run x = new Run().due(0, "girl", 1, 0, 1).due(1, "girl", 2, 7, 9);
        x.told(3, "bred if dowry=9 and house=7 turn; girl if number=0 or number=1 leave; girl turn;").due(1, "keep");
        x.told(3, "girl if faith=1 wait; girl if house>6 leave; girl if not(1=1 and 2=2) or 3=3 turn;").due(0, "girlOf", 0, 5)
            .due(2, "girlOf", 1, 5);
        x.due(2, "again").due(2, "girlOf", 0, 5).due(1, "girlOf", 1, 5).told(1, "girl wait;").due(2, "again").due(2, "girlOf", 0, 5)
            .due(1, "girlOf", 1, 5);
        x.due(1, "keep").told(2, "girl if 1=2 and 1=2 turn; girl if 1=2 turn;").due(0, "girlOf", 0, 5).due(2, "again")
            .due(2, "girlOf", 0, 5).due(1, "girlOf", 1, 5);
    }

    static void promise54TheConditionOfTheEighthRule() {
        Run x = new Run().due(0, "girl", 1, 0, 1).told(8, "bred wait;".repeat(7) + "girl if 1=2 or 1=1 leave;").due(1, "keep");
        x.told(8, "bred if 1=1 wait;".repeat(7) + "girl if 1=2 turn;").due(0, "girlOf", 0, 5).due(1, "again").due(2, "girlOf", 0, 5)
            .due(8, "many", 1);
    }

    static void promise54MonthEndScoreAndZ() {
        Run x = new Run().pair(2, 9, 5, 0, 15).due(12, "ends", 2).due(5, "month").due(5, "month").due(1, "seed", LOW).due(1, "keep");
        x.due(2, "anew").due(2, "ends", 16).due(LOW, "seed", 3).due(5, "month").due(1, "again");
        x.due(2, "state", 0).due(2, "state", 1).due(10, "state", 2).due(1, "state", 3).due(STATE, "month").due(LOW, "seed", 0);
    }

    static void promise54TheTapeStaysAsItIs() {
        new Run().feed("girl").due(1, "keep").feed(" wait;").due(0, "again").due(10, "many", 5).due(1, "rules");
        new Run().feed("girl").due(1, "keep").due(-104, "rules").due(0, "again").due(0, "many", 5);
    }

    static void promise54RowsStayAsTheyAre() {
        new Run().due(4, "prove", 4).due(1, "keep").due(1, "prove", 1).due(0, "alterRow", 0, 1, 7).due(0, "again").due(1, "many", 4)
            .due(7, "row", 0, 1);
    }

    static void promise54SheetsStayAsTheyAre() {
        Run x = new Run().due(1, "sheet", 0, 0, 3).due(1, "keep").due(1, "write", 0, 0, 5).due(1, "sheet", 1, 2, 1).due(0, "again")
            .due(5, "item", 0, 0, 0).due(0, "item", 1, 2, 0);
        x.due(1, "sheet", 0, -1, 0).due(0, "again").due(NOTHING, "item", 0, 0, 0);
    }

    static void promise54ShelvesStayAsTheyAre() {
        Run x = new Run().due(0, "girl", 1, 0, 1).due(1, "sheet", 0, 0, 3).due(1, "shelf", 0, 0, 0).due(1, "keep")
            .due(1, "shelf", 0, 1, 0).due(1, "shelf", 1, 0, 0).due(1, "again");
        x.due(3, "taken", 0, 10).due(0, "taken", 1, 1);
    }

    static void promise54TheTraceStaysAsItIs() {
        new Run().due(0, "girl", 1, 0, 7).due(1, "shelf", 0, 0, 0).times(1, "act", 0, 0, 1).due(1, "keep").times(1, "act", 0, 3, 1)
            .due(1, "again").due(5, "many", 6).due(13, "trace", 0);
    }

    static void promise54ManyTimes() {
        Run x = Run.full().due(1, "keep");
        for (int i = 0; i < 20; i++) {
            x.times(1, "month").due(6, "again").due(2, "state", 0);
        }
        x.still(6, "again");
    }
}
