/** Boundary cases of promises 43 to 52: the host. */
final class HostEdges implements Answers {

    static void promise43SheetIs0To3() {
        new Run().bounds(0, 3, 0, "sheet", 0, 0, 1);
        new Run().bounds(0, 3, 0, "sheet", 0, -1, 1);
    }

    static void promise43SortIs0To4OrMinus1() {
        new Run().bounds(-1, 4, 1, "sheet", 0, 0, 1);
    }

    static void promise43FortyAtMost() {
        for (int sort = 0; sort <= 4; sort++) {
            Run x = new Run().still(BAD, "sheet", 0, sort, 41).still(BAD, "sheet", 0, sort, 296).still(BAD, "sheet", 0, sort, HIGH);
            x.due(1, "sheet", 0, sort, 40).due(0, "item", 0, sort, 39).due(OUTSIDE, "item", 0, sort, 40);
        }
    }

    static void promise43ASizeBelow0() {
        for (int sort = 0; sort <= 4; sort++) {
            new Run().still(BELOW_0, "sheet", 0, sort, -1).still(BELOW_0, "sheet", 3, sort, LOW).still(NOTHING, "item", 0, sort, 0);
        }
        Run.full().still(BELOW_0, "sheet", 0, 0, -1);
    }

    static void promise43ASizeOf0() {
        for (int sort = 0; sort <= 4; sort++) {
            new Run().due(1, "sheet", 0, sort, 0).still(OUTSIDE, "item", 0, sort, 0).still(OUTSIDE, "write", 0, 0, 1)
                .still(OTHER_SORT, "item", 0, (sort + 1) % 5, 0);
        }
    }

    static void promise43BadAheadOfASizeBelow0() {
        new Run().still(BAD, "sheet", 4, 0, -1).still(BAD, "sheet", -1, 0, -1).still(BAD, "sheet", 0, 5, -1).still(BAD, "sheet", 0, -2, -1);
    }

    static void promise43WhenMissingNCountsNothing() {
        for (int n : new int[] {LOW, -1, 0, 40, 41, HIGH}) {
            Run.full().due(1, "sheet", 0, -1, n).due(NOTHING, "item", 0, 0, 0).due(NOTHING, "write", 0, 0, 0);
            new Run().still(1, "sheet", 3, -1, n);
        }
    }

    static void promise43AllAre0Anew() {
        Run x = new Run().due(1, "sheet", 2, 0, 40);
        for (int i = 0; i < 40; i++) {
            x.due(1, "write", 2, i, 9);
        }
        x.due(1, "sheet", 2, 0, 3).due(1, "sheet", 2, 2, 40);
        for (int i = 0; i < 40; i++) {
            x.due(0, "item", 2, 2, i);
        }
    }

    static void promise43FourThatAreApart() {
        Run x = new Run();
        for (int sheet = 0; sheet < 4; sheet++) {
            x.due(1, "sheet", sheet, 2, 40).due(1, "write", sheet, 0, 10 + sheet).due(1, "write", sheet, 39, 20 + sheet);
        }
        for (int sheet = 0; sheet < 4; sheet++) {
            x.due(10 + sheet, "item", sheet, 2, 0).due(20 + sheet, "item", sheet, 2, 39);
        }
        x.due(1, "sheet", 1, -1, 0).due(10, "item", 0, 2, 0).due(NOTHING, "item", 1, 2, 0).due(12, "item", 2, 2, 0);
    }

    static void promise44SheetIs0To3() {
        new Run().bounds(0, 3, 0, "write", 0, 0, 1);
        Run.full().bounds(0, 3, 0, "write", 0, 0, 1);
    }

    static void promise44Missing() {
        new Run().still(NOTHING, "write", 0, 0, 1).still(NOTHING, "write", 3, 0, 1);
    }

    static void promise44APlaceOutside() {
        Run x = new Run().due(1, "sheet", 0, 2, 3).still(OUTSIDE, "write", 0, -1, 1).still(OUTSIDE, "write", 0, 3, 1)
            .still(OUTSIDE, "write", 0, 40, 1);
        x.still(OUTSIDE, "write", 0, LOW, 1).still(OUTSIDE, "write", 0, HIGH, 1).due(1, "write", 0, 0, 5).due(1, "write", 0, 2, 6)
            .due(5, "item", 0, 2, 0).due(6, "item", 0, 2, 2);
        new Run().due(1, "sheet", 1, 2, 40).due(1, "sheet", 0, 2, 40).still(OUTSIDE, "write", 0, 40, 1).still(OUTSIDE, "write", 1, -1, 1);
    }

    static void promise44MissingAheadOfOutside() {
        new Run().still(NOTHING, "write", 0, -1, 1).still(NOTHING, "write", 0, 40, 1).still(BAD, "write", 4, -1, 1)
            .still(BAD, "write", -1, HIGH, 1);
    }

    private static void narrowed(int sort, int v, int due) {
        new Run().due(1, "sheet", 1, sort, 2).due(1, "write", 1, 1, v).due(due, "item", 1, sort, 1).due(0, "item", 1, sort, 0);
    }

    static void promise44NarrowedToBytes() {
        int[][] due = {{127, 127}, {128, -128}, {-128, -128}, {-129, 127}, {255, -1}, {256, 0}, {LOW, 0}, {HIGH, -1}};
        for (int[] d : due) {
            narrowed(0, d[0], d[1]);
        }
    }

    static void promise44NarrowedToShorts() {
        int[][] due = {{32767, 32767}, {32768, -32768}, {-32768, -32768}, {-32769, 32767}, {65535, -1}, {65536, 0}, {LOW, 0}, {HIGH, -1}};
        for (int[] d : due) {
            narrowed(1, d[0], d[1]);
        }
    }

    static void promise44IntsAndLongsHoldAnyInt() {
        for (int v : new int[] {LOW, HIGH, -1, 0, 1, 65536}) {
            narrowed(2, v, v);
            narrowed(3, v, v);
        }
    }

    static void promise44BooleansHoldWhetherItIsNot0() {
        for (int v : new int[] {LOW, HIGH, -1, 1, 2, 256, 65536}) {
            narrowed(4, v, 1);
        }
        narrowed(4, 0, 0);
        new Run().due(1, "sheet", 0, 4, 1).due(1, "write", 0, 0, 7).due(1, "write", 0, 0, 0).due(0, "item", 0, 4, 0);
    }

    static void promise45SheetIs0To3() {
        new Run().bounds(0, 3, 0, "item", 0, 0, 0);
        Run.full().bounds(0, 3, 0, "item", 0, 0, 0);
    }

    static void promise45SortIs0To4() {
        new Run().bounds(0, 4, 1, "item", 0, 0, 0);
        Run.full().bounds(0, 4, 1, "item", 0, 0, 0);
    }

    static void promise45AnotherSort() {
        for (int sort = 0; sort <= 4; sort++) {
            Run x = new Run().due(1, "sheet", 0, sort, 3);
            for (int other = 0; other <= 4; other++) {
                x.still(other == sort ? 0 : OTHER_SORT, "item", 0, other, 2);
            }
        }
    }

    static void promise45AnotherSortAheadOfOutside() {
        new Run().due(1, "sheet", 0, 2, 3).still(OTHER_SORT, "item", 0, 3, 3).still(OTHER_SORT, "item", 0, 3, -1)
            .still(OUTSIDE, "item", 0, 2, 3);
    }

    static void promise45MissingAheadOfOutside() {
        new Run().still(NOTHING, "item", 0, 0, -1).still(NOTHING, "item", 0, 4, 99).still(NOTHING, "item", 3, 2, HIGH);
    }

    static void promise45BadAheadOfTheOthers() {
        new Run().still(BAD, "item", 0, 5, 0).still(BAD, "item", 0, -1, 0).still(BAD, "item", 4, 0, 0).due(1, "sheet", 0, 2, 1)
            .still(BAD, "item", 0, 5, 9).still(BAD, "item", -1, 3, 9);
    }

    static void promise45APlaceOutside() {
        Run x = new Run().due(1, "sheet", 0, 2, 3).due(1, "write", 0, 2, 8).still(OUTSIDE, "item", 0, 2, -1).still(0, "item", 0, 2, 0)
            .still(8, "item", 0, 2, 2).still(OUTSIDE, "item", 0, 2, 3);
        x.still(OUTSIDE, "item", 0, 2, LOW).still(OUTSIDE, "item", 0, 2, HIGH);
    }

    static void promise45AnItemMayBeAsLowAsARefusal() {
        for (int v = -15; v < 0; v++) {
            for (int sort = 0; sort < 4; sort++) {
                narrowed(sort, v, v);
            }
        }
    }

    /** Six of DOWRY 9, promised to a WIND that doesn't BLOW: who isn't HIDDEN loses FAITH. SHEET 0 has 40 bytes. */
    private static Run sixInACalm() {
        Run x = new Run().due(0, "wind", 0, 5, 15, 15).due(12, "ends", 16).due(1, "sheet", 0, 0, 40);
        for (int g = 0; g < 6; g++) {
            x.due(g, "girl", 2, 0, 9).due(6, "promise", g, 0);
        }
        return x;
    }

    /** One who is courted for 5 in each MONTH in which she isn't HIDDEN; SHEET 0 has these bytes. */
    private static Run oneWith(int... bytes) {
        Run x = new Run().pair(2, 9, 5, 0, 15).due(12, "ends", 16).due(1, "sheet", 0, 0, bytes.length);
        for (int i = 0; i < bytes.length; i++) {
            x.due(1, "write", 0, i, bytes[i]);
        }
        return x;
    }

    static void promise46SheetIs0To3() {
        new Run().bounds(0, 3, 0, "goAll", 0, 0, 0);
        oneWith(0).bounds(0, 3, 0, "goAll", 0, 0, 1);
    }

    static void promise46NIs0To20() {
        sixInACalm().bounds(0, 20, 2, "goAll", 0, 0, 0);
    }

    static void promise46AnotherSort() {
        for (int sort = 1; sort <= 4; sort++) {
            new Run().due(1, "sheet", 2, sort, 3).still(OTHER_SORT, "goAll", 2, 0, 1).still(OTHER_SORT, "goAll", 2, 0, 0)
                .still(OTHER_SORT, "goAll", 2, 9, 1);
        }
    }

    static void promise46Missing() {
        new Run().still(NOTHING, "goAll", 0, 0, 1).still(NOTHING, "goAll", 3, 0, 0).still(NOTHING, "goAll", 3, -1, 1);
    }

    static void promise46BadAheadOfTheOthers() {
        new Run().still(BAD, "goAll", 0, 0, 21).still(BAD, "goAll", 0, 0, -1).due(1, "sheet", 0, 1, 3).still(BAD, "goAll", 0, 0, 21)
            .still(BAD, "goAll", 0, 99, -1);
        oneWith(0).still(BAD, "goAll", 0, 9, 21).still(BAD, "goAll", 4, 9, 1);
    }

    static void promise46NoItems() {
        oneWith(0).still(0, "goAll", 0, 0, 0).still(0, "goAll", 0, 1, 0).still(0, "goAll", 0, -1, 0).still(0, "goAll", 0, HIGH, 0)
            .still(0, "goAll", 0, LOW, 0);
        new Run().due(1, "sheet", 0, 0, 0).still(0, "goAll", 0, 0, 0).still(OUTSIDE, "goAll", 0, 0, 1);
    }

    static void promise46TheFirstPlaceOutside() {
        Run x = oneWith(0, 0, 0).still(OUTSIDE, "goAll", 0, 3, 1).still(OUTSIDE, "goAll", 0, -1, 1).still(OUTSIDE, "goAll", 0, -1, 3);
        x.still(OUTSIDE, "goAll", 0, HIGH, 20).still(OUTSIDE, "goAll", 0, LOW, 20).still(OUTSIDE, "goAll", 0, -20, 20);
    }

    static void promise46WhatStoodAheadOfAPlaceOutsideWasDone() {
        oneWith(0, 1, 0).due(OUTSIDE, "goAll", 0, 0, 4).due(3, "state", 0).due(10, "state", 2);
        oneWith(0, 1, 0).due(OUTSIDE, "goAll", 0, 2, 20).due(1, "state", 0).due(5, "state", 2);
    }

    static void promise46TheLastItems() {
        oneWith(0, 1, 0).due(5, "goAll", 0, 1, 2).due(2, "state", 0).due(5, "state", 2);
        oneWith(0, 1, 0).due(5, "goAll", 0, 2, 1).due(1, "state", 0);
    }

    static void promise46TwentyOfForty() {
        Run x = new Run().pair(2, 9, 5, 0, 15).due(12, "ends", 16).due(1, "sheet", 0, 0, 40);
        x.again().due(80, "goAll", 0, 0, 20).due(16, "state", 0);
        x.again().due(80, "goAll", 0, 20, 20).due(16, "state", 0);
        x.again().due(OUTSIDE, "goAll", 0, 21, 20).due(16, "state", 0).due(80, "state", 2);
    }

    static void promise46WhatIsNoActIsLeftOut() {
        oneWith(2, -1, 127, -128, 0).due(5, "goAll", 0, 0, 5).due(1, "state", 0);
        oneWith(2, -1, 127, -128, 0).still(0, "goAll", 0, 0, 4);
        new Run().due(1, "sheet", 0, 0, 2).due(1, "write", 0, 0, 1).still(0, "goAll", 0, 0, 1).due(0, "goAll", 0, 1, 1).due(1, "state", 0);
        sixInACalm().due(1, "write", 0, 0, 7).still(0, "goAll", 0, 0, 1);
    }

    static void promise46EachAct() {
        for (int act = 0; act <= 6; act++) {
            Run x = sixInACalm().due(1, "write", 0, 39, act).due(0, "goAll", 0, 39, 1).due(1, "state", 0);
            for (int g = 0; g < 6; g++) {
                x.due(g == act - 1 ? 9 : 8, "girlOf", g, 4);
            }
        }
    }

    static void promise46WhoIsHiddenIsNotCourtedAndDoesNothing() {
        oneWith(1, 1).due(0, "goAll", 0, 0, 1).due(9, "girlOf", 0, 4).due(0, "girlOf", 0, 3);
        Run y = new Run().pair(2, 9, 5, 15, 15).due(1, "wind", 0, 9, 0, 15).told(1, "girl if month=0 turn; ").due(1, "sheet", 0, 0, 1)
            .due(1, "write", 0, 0, 1);
        y.due(0, "goAll", 0, 0, 1).due(0, "girlOf", 0, 3).due(9, "girlOf", 0, 4);
    }

    static void promise46WhenItIsOverTheRestIsLeftOut() {
        oneWith(0, 0, 0, 0).due(16, "ends", 2).due(10, "goAll", 0, 0, 4).due(2, "state", 0).still(0, "goAll", 0, 0, 4)
            .still(OUTSIDE, "goAll", 0, 4, 1);
    }

    static void promise47SheetIs0To3() {
        new Run().bounds(0, 3, 0, "wouldBe", 0, 0, 0);
        oneWith(0).bounds(0, 3, 0, "wouldBe", 0, 0, 1);
    }

    static void promise47NIs0To20() {
        sixInACalm().bounds(0, 20, 2, "wouldBe", 0, 0, 0);
    }

    static void promise47AnotherSort() {
        for (int sort = 1; sort <= 4; sort++) {
            new Run().due(1, "sheet", 2, sort, 3).still(OTHER_SORT, "wouldBe", 2, 0, 1).still(OTHER_SORT, "wouldBe", 2, 0, 0)
                .still(OTHER_SORT, "wouldBe", 2, 9, 1);
        }
    }

    static void promise47Missing() {
        new Run().still(NOTHING, "wouldBe", 0, 0, 1).still(NOTHING, "wouldBe", 3, 0, 0).still(NOTHING, "wouldBe", 3, -1, 1);
    }

    static void promise47BadAheadOfTheOthers() {
        new Run().still(BAD, "wouldBe", 0, 0, 21).still(BAD, "wouldBe", 0, 0, -1).due(1, "sheet", 0, 1, 3).still(BAD, "wouldBe", 0, 0, 21)
            .still(BAD, "wouldBe", 0, 99, -1);
        oneWith(9).still(BAD, "wouldBe", 0, 9, 21).still(BAD, "wouldBe", 4, 0, 1);
    }

    static void promise47NoItems() {
        oneWith(0).still(0, "wouldBe", 0, 0, 0).still(0, "wouldBe", 0, -1, 0).still(0, "wouldBe", 0, HIGH, 0)
            .still(0, "wouldBe", 0, LOW, 0);
        new Run().due(12, "ends", 1).due(0, "month").due(1, "sheet", 0, 0, 0).still(0, "wouldBe", 0, 0, 0);
    }

    static void promise47APlaceOutside() {
        Run x = oneWith(0, 0, 0).still(OUTSIDE, "wouldBe", 0, 3, 1).still(OUTSIDE, "wouldBe", 0, -1, 1)
            .still(OUTSIDE, "wouldBe", 0, -1, 3).still(OUTSIDE, "wouldBe", 0, 0, 4);
        x.still(OUTSIDE, "wouldBe", 0, HIGH, 20).still(OUTSIDE, "wouldBe", 0, LOW, 20).still(OUTSIDE, "wouldBe", 0, -20, 20)
            .still(5, "wouldBe", 0, 2, 1).still(15, "wouldBe", 0, 0, 3);
    }

    static void promise47NoAct() {
        for (int v : new int[] {2, -1, 127, -128}) {
            oneWith(0, v).still(5, "wouldBe", 0, 0, 1).still(STATE, "wouldBe", 0, 0, 2).still(STATE, "wouldBe", 0, 1, 1);
        }
        new Run().due(1, "sheet", 0, 0, 2).due(1, "write", 0, 1, 1).still(0, "wouldBe", 0, 0, 1).still(STATE, "wouldBe", 0, 1, 1);
        sixInACalm().due(1, "write", 0, 0, 6).still(0, "wouldBe", 0, 0, 1).due(1, "write", 0, 0, 7).still(STATE, "wouldBe", 0, 0, 1);
    }

    static void promise47OverAheadOfAnItem() {
        oneWith(0, 0, 0).due(16, "ends", 2).still(10, "wouldBe", 0, 0, 2).still(STATE, "wouldBe", 0, 0, 3).due(5, "month")
            .still(5, "wouldBe", 0, 0, 1).still(STATE, "wouldBe", 0, 0, 2);
        oneWith(0).due(16, "ends", 1).due(5, "month").still(STATE, "wouldBe", 0, 0, 1);
    }

    static void promise47ByItems() {
        oneWith(0, 2).still(STATE, "wouldBe", 0, 0, 3).still(STATE, "wouldBe", 0, 1, 20).still(OUTSIDE, "wouldBe", 0, 2, 1);
        oneWith(0, 0).due(16, "ends", 1).still(STATE, "wouldBe", 0, 0, 3);
    }

    static void promise47OutsideAheadOfOver() {
        oneWith(0, 0).due(16, "ends", 2).still(OUTSIDE, "wouldBe", 0, 0, 3).due(5, "month").due(5, "month")
            .still(OUTSIDE, "wouldBe", 0, 2, 1);
    }

    static void promise47SixteenAndTwenty() {
        Run x = new Run().pair(2, 9, 5, 0, 15).due(12, "ends", 16).due(1, "sheet", 0, 0, 40).still(80, "wouldBe", 0, 0, 16)
            .still(STATE, "wouldBe", 0, 0, 17).still(STATE, "wouldBe", 0, 20, 20);
        x.still(80, "wouldBe", 0, 24, 16);
    }

    static void promise48ShelfIs0To3() {
        new Run().bounds(0, 3, 0, "shelf", 0, 2, 0);
        Run.full().bounds(0, 3, 0, "shelf", 0, 0, 0);
    }

    static void promise48WhatIs0To2() {
        new Run().due(0, "girl", 1, 0, 1).bounds(0, 2, 1, "shelf", 0, 0, 0);
    }

    static void promise48OnlyGirlsThatAreThere() {
        new Run().still(BAD, "shelf", 0, 0, 0);
        new Run().due(0, "girl", 1, 0, 1).bounds(0, 0, 2, "shelf", 0, 0, 0);
        Run.full().bounds(0, 5, 2, "shelf", 0, 0, 0);
    }

    static void promise48SheetsAre0To3() {
        new Run().bounds(0, 3, 2, "shelf", 0, 1, 0);
        Run.full().bounds(0, 3, 2, "shelf", 0, 1, 0);
    }

    static void promise48NothingWhateverNIs() {
        for (int n : new int[] {LOW, -1, 0, 6, HIGH}) {
            Run.full().due(1, "shelf", 0, 2, n).due(NOTHING, "taken", 0, 0);
        }
    }

    static void promise48AMissingSheetsRowIsNothing() {
        Run.full().due(2, "taken", 0, 0).due(1, "shelf", 0, 1, 3).due(NOTHING, "taken", 0, 0).due(NOTHING, "taken", 0, 10)
            .due(0, "act", 0, 0, 1);
    }

    static void promise48FourThatAreApart() {
        Run x = new Run();
        for (int i = 0; i < 4; i++) {
            x.due(i, "girl", 2, 0, 1).due(1, "shelf", i, 0, i);
        }
        x.due(1, "shelf", 1, 2, 0).due(0, "taken", 0, 2).due(NOTHING, "taken", 1, 2).due(2, "taken", 2, 2).due(3, "taken", 3, 2);
    }

    static void promise48ItGoesOnHoldingTheRow() {
        Run x = new Run().due(1, "sheet", 0, 3, 7).due(1, "shelf", 0, 1, 0).due(1, "sheet", 0, 0, 2).due(7, "taken", 0, 13)
            .due(1, "sheet", 0, -1, 0).due(7, "taken", 0, 13);
        x.due(1, "shelf", 0, 1, 0).due(NOTHING, "taken", 0, 13);
    }

    static void promise49ShelfIs0To3() {
        new Run().bounds(0, 3, 0, "taken", 0, 0);
        Run.full().bounds(0, 3, 0, "taken", 0, 10);
    }

    static void promise49AsIs0To5Or10To14() {
        Run x = Run.full();
        for (int as : new int[] {LOW, -1, 6, 7, 8, 9, 15, 20, HIGH}) {
            x.again().still(BAD, "taken", 0, as).still(BAD, "taken", 1, as).still(BAD, "taken", 2, as);
        }
        x.still(2, "taken", 0, 0).still(OTHER_SORT, "taken", 0, 5).still(OTHER_SORT, "taken", 0, 10).still(OTHER_SORT, "taken", 0, 14);
    }

    static void promise49BadAheadOfTheOthers() {
        new Run().still(BAD, "taken", 0, 6).still(BAD, "taken", 0, 9).still(BAD, "taken", 4, 0).still(BAD, "taken", -1, 99);
    }

    static void promise49Nothing() {
        for (int as : new int[] {0, 1, 2, 3, 4, 5, 10, 11, 12, 13, 14}) {
            new Run().still(NOTHING, "taken", 0, as).still(NOTHING, "taken", 3, as);
        }
    }

    static void promise49TheKindOrOneUnderIt() {
        // by KINDS 1 to 5, as 0 to 5
        String[] due = {"110000", "101000", "101100", "100010", "100011"};
        for (int kind = 1; kind <= 5; kind++) {
            Run x = Run.full().due(kind, "girlOf", kind - 1, 0).due(1, "shelf", 3, 0, kind - 1);
            for (int as = 0; as <= 5; as++) {
                x.due(due[kind - 1].charAt(as) == '1' ? kind - 1 : OTHER_SORT, "taken", 3, as);
            }
            for (int as = 10; as <= 14; as++) {
                x.due(OTHER_SORT, "taken", 3, as);
            }
        }
    }

    static void promise49RowsBySort() {
        for (int sort = 0; sort <= 4; sort++) {
            for (int size : new int[] {0, 1, 40}) {
                Run x = new Run().due(1, "sheet", 0, sort, size).due(1, "shelf", 2, 1, 0);
                for (int as = 10; as <= 14; as++) {
                    x.due(as == 10 + sort ? size : OTHER_SORT, "taken", 2, as);
                }
                x.due(OTHER_SORT, "taken", 2, 0).due(OTHER_SORT, "taken", 2, 5).due(OTHER_SORT, "taken", 2, sort);
            }
        }
    }

    static void promise49TheFirstAndTheLastOfSix() {
        Run.full().due(1, "shelf", 0, 0, 0).due(0, "taken", 0, 0).due(1, "shelf", 0, 0, 5).due(5, "taken", 0, 0);
    }

    static void promise49HerKindAtTheTime() {
        new Run().due(0, "girl", 5, 0, 1).due(1, "shelf", 0, 0, 0).due(0, "taken", 0, 5).due(5, "remake", 0, 4)
            .due(OTHER_SORT, "taken", 0, 5).due(0, "taken", 0, 4);
    }

    static void promise49NothingIfThereIsNoSuchGirlAtTheTime() {
        Run x = new Run().due(0, "girl", 1, 0, 1).due(1, "keep").due(1, "girl", 2, 0, 1).due(1, "shelf", 0, 0, 0).due(1, "shelf", 1, 0, 1)
            .due(1, "again");
        x.still(0, "taken", 0, 1).still(NOTHING, "taken", 1, 2).still(NOTHING, "taken", 1, 10).due(0, "act", 1, 0, 1).due(0, "many", 6);
        x.due(1, "girl", 3, 0, 1).due(1, "taken", 1, 3);
    }

    /** What an ACT answers, by closed forms over more bits than an int has. */
    private static int answer(int kind, int n, int a, int act, int x) {
        long rest = x % (n - a);
        long sails = kind == 1 ? 3L * x - n - 2 : kind == 3 ? 3L * x + 3 - n : 3L * x - n;
        long calls = kind == 2 || kind == 3 ? sails + a ^ n : kind == 5 ? 1 - sails - a : sails + a;
        long shares = kind == 4 ? 2 * rest : kind == 5 ? 2 * rest ^ 2L * n : rest;
        long weds = calls - (int) shares;
        long more = kind == 3 ? 3L * a + 3 - n + a ^ n : 0;
        return (int) (act == 0 ? sails : act == 1 ? calls : act == 2 ? shares : (int) weds + more);
    }

    private static void acts(int kind) {
        for (int act = 0; act < 4; act++) {
            Run x = new Run();
            for (int g = 0; g < 6; g++) {
                x.due(g, "girl", kind, 0, g == 0 ? 1 : 9 - g);
            }
            for (int g = 0; g < 6; g++) {
                x.due(1, "shelf", 3, 0, g);
                for (int v : new int[] {LOW, LOW + 1, -1000, -1, 0, 1, 7, 715827882, 715827883, HIGH - 1, HIGH}) {
                    x.due(answer(kind, g, g == 0 ? 1 : 9 - g, act, v), "act", 3, act, v);
                }
            }
        }
    }

    static void promise50SharedWraps() {
        acts(1);
    }

    static void promise50BredWraps() {
        acts(2);
    }

    static void promise50TwiceWraps() {
        acts(3);
    }

    static void promise50LateWraps() {
        acts(4);
    }

    static void promise50CalmWraps() {
        acts(5);
    }

    static void promise50WhatXLeavesIsBelow0IfXIs() {
        Run x = new Run().due(0, "girl", 1, 0, 7).due(1, "shelf", 0, 0, 0);
        x.due(6, "act", 0, 2, 20).due(-6, "act", 0, 2, -20).due(0, "act", 0, 2, 21).due(0, "act", 0, 2, -21).due(0, "act", 0, 2, 0);
    }

    static void promise50LowByMinus1Leaves0() {
        new Run().due(0, "girl", 1, 0, 1).due(1, "shelf", 0, 0, 0).due(0, "act", 0, 2, LOW);
    }

    static void promise50PartedBy0() {
        for (int kind = 1; kind <= 5; kind++) {
            for (int g = 1; g < 6; g++) {
                Run x = new Run();
                for (int i = 0; i <= g; i++) {
                    x.call("girl", kind, 0, g);
                }
                x.due(1, "shelf", 0, 0, g).due(PARTED_BY_0, "act", 0, 2, 5).due(PARTED_BY_0, "act", 0, 3, 5)
                    .due(PARTED_BY_0, "act", 0, 2, 0).due(PARTED_BY_0, "act", 0, 3, LOW);
                x.due(kind == 1 ? 13 - g : kind == 3 ? 18 - g : 15 - g, "act", 0, 0, 5);
            }
        }
    }

    static void promise50ByOneMoreOrLessItIsNotParted() {
        Run x = new Run().due(0, "girl", 1, 0, 1).due(1, "girl", 1, 0, 2).due(1, "shelf", 0, 0, 1).due(0, "act", 0, 2, 5);
        x.due(2, "change", 1, 2, 1).due(PARTED_BY_0, "act", 0, 2, 5).due(1, "change", 1, 2, 3).due(1, "act", 0, 2, 5);
    }

    static void promise50NoSuchShelfOrAct() {
        for (int shelf : new int[] {LOW, -1, 4, HIGH}) {
            Run.full().due(0, "act", shelf, 0, 5).due(0, "many", 6).due(NONE, "trace", 0);
        }
        for (int act : new int[] {LOW, -1, 4, HIGH}) {
            Run.full().due(0, "act", 0, act, 5).due(0, "many", 6).due(NONE, "trace", 0);
        }
    }

    static void promise50NothingAndARow() {
        Run.full().due(0, "act", 2, 0, 5).due(0, "many", 6).due(NONE, "trace", 0);
        Run.full().due(0, "act", 1, 0, 5).due(0, "many", 6).due(NONE, "trace", 0);
    }

    static void promise50HerDowryAtTheTime() {
        new Run().due(0, "girl", 2, 0, 1).due(1, "shelf", 0, 0, 0).due(4, "act", 0, 1, 1).due(1, "change", 0, 2, 9).due(12, "act", 0, 1, 1);
    }

    static void promise50ItChangesOnlyTheTrace() {
        Run.full().still(answer(3, 2, 4, 3, 9), "act", 0, 3, 9);
    }

    static void promise51NoActYet() {
        new Run().still(NONE, "trace", 0).still(NONE, "trace", -1).still(NONE, "trace", 30);
    }

    static void promise51FromTheFirstToTheLast() {
        int[] bodies = {51, 13, 30, 11, 50, 10, 12, 30, 11, 50, 10};
        Run x = Run.full().due(11, "many", 6).still(NONE, "trace", -1).still(NONE, "trace", 11).still(NONE, "trace", LOW)
            .still(NONE, "trace", HIGH);
        for (int i = 0; i < bodies.length; i++) {
            x.due(bodies[i], "trace", i);
        }
    }

    static void promise51OfTheLatestActOnly() {
        Run.full().due(answer(3, 2, 4, 0, 1), "act", 0, 0, 1).due(2, "many", 6).due(50, "trace", 0).due(10, "trace", 1)
            .due(NONE, "trace", 2);
    }

    private static void traced(int kind, int act, int... bodies) {
        Run x = new Run().due(0, "girl", kind, 0, 7).due(1, "shelf", 0, 0, 0).times(1, "act", 0, act, 20).due(bodies.length, "many", 6);
        for (int i = 0; i < bodies.length; i++) {
            x.due(bodies[i], "trace", i);
        }
        x.due(NONE, "trace", bodies.length);
    }

    static void promise51OfShared() {
        traced(1, 0, 20, 10);
        traced(1, 1, 11, 20, 10);
        traced(1, 2, 12);
        traced(1, 3, 13, 11, 20, 10, 12);
    }

    static void promise51OfBred() {
        traced(2, 0, 10);
        traced(2, 1, 30, 11, 10);
        traced(2, 2, 12);
        traced(2, 3, 13, 30, 11, 10, 12);
    }

    static void promise51OfTwice() {
        traced(3, 0, 50, 10);
        traced(3, 1, 30, 11, 50, 10);
        traced(3, 2, 12);
        traced(3, 3, 51, 13, 30, 11, 50, 10, 12, 30, 11, 50, 10);
    }

    static void promise51OfLate() {
        traced(4, 0, 10);
        traced(4, 1, 11, 10);
        traced(4, 2, 40, 12);
        traced(4, 3, 13, 11, 10, 40, 12);
    }

    static void promise51OfCalm() {
        traced(5, 0, 10);
        traced(5, 1, 60, 11, 10);
        traced(5, 2, 61, 40, 12, 10);
        traced(5, 3, 13, 60, 11, 10, 61, 40, 12, 10);
    }

    private static void tracedTillParted(int kind, int act, int... bodies) {
        Run x = new Run().due(0, "girl", 1, 0, 1).due(1, "girl", kind, 0, 1).due(1, "shelf", 0, 0, 1).due(PARTED_BY_0, "act", 0, act, 20)
            .due(bodies.length, "many", 6);
        for (int i = 0; i < bodies.length; i++) {
            x.due(bodies[i], "trace", i);
        }
        x.due(NONE, "trace", bodies.length);
    }

    static void promise51TillItIsPartedBy0() {
        tracedTillParted(1, 2, 12);
        tracedTillParted(1, 3, 13, 11, 20, 10, 12);
        tracedTillParted(2, 3, 13, 30, 11, 10, 12);
        tracedTillParted(3, 3, 51, 13, 30, 11, 50, 10, 12);
        tracedTillParted(4, 2, 40, 12);
        tracedTillParted(4, 3, 13, 11, 10, 40, 12);
        tracedTillParted(5, 2, 61, 40, 12);
        tracedTillParted(5, 3, 13, 60, 11, 10, 61, 40, 12);
    }

    static void promise52WhatIs0To7() {
        new Run().bounds(0, 7, 0, "many", 0);
        Run.full().bounds(0, 7, 0, "many", 0);
    }

    static void promise52AllAre0AtFirst() {
        for (int what = 0; what <= 7; what++) {
            new Run().still(0, "many", what);
        }
    }

    static void promise52AsManyAsThereMayBe() {
        Run x = Run.full().told(-115, "").due(6, "many", 0).due(6, "many", 2).due(6, "many", 3);
        x.told(8, "girl wait;".repeat(8)).due(8, "many", 1).due(4, "prove", 4).due(4, "many", 4).feed(" ".repeat(200)).due(200, "many", 5)
            .due(11, "many", 6);
        for (int g = 0; g < 6; g++) {
            x.call("promise", g, 0);
        }
        x.due(6, "many", 7).due(0, "promise", 3, -1).due(5, "many", 7);
    }
}
