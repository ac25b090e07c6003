/** Boundary cases of promises 13 and 14: the rules. */
final class RulesEdges implements Answers {
    private static final long BLANKS = 0x2020202020202020L;
    private static final String[] KINDS = {"girl", "shared", "bred", "twice", "late", "calm"};
    private static final String[] DEEDS = {"wait", "turn", "leave"};
    private static final String[] FACTS = {"month", "faith", "dowry", "house", "number"};

    static void promise13NIs1To8() {
        new Run().bounds(1, 8, 1, "feed", 0, 1);
    }

    static void promise13TheTapeTakes200() {
        Run x = new Run().times(24, "feed", BLANKS, 8).due(200, "feed", BLANKS, 8).due(200, "many", 5);
        x.still(FULL, "feed", BLANKS, 1).still(FULL, "feed", BLANKS, 8);
    }

    static void promise13OneMoreThan200IsFull() {
        new Run().times(24, "feed", BLANKS, 8).due(193, "feed", BLANKS, 1).still(FULL, "feed", BLANKS, 8).due(200, "feed", BLANKS, 7);
        new Run().times(24, "feed", BLANKS, 8).due(199, "feed", BLANKS, 7).still(FULL, "feed", BLANKS, 2).due(200, "feed", BLANKS, 1);
    }

    static void promise13BadAheadOfFull() {
        new Run().times(25, "feed", BLANKS, 8).still(BAD, "feed", BLANKS, 0).still(BAD, "feed", BLANKS, 9).still(BAD, "feed", BLANKS, LOW)
            .still(BAD, "feed", BLANKS, HIGH);
    }

    static void promise13TheLowestFirst() {
        // "calm tur", "n;"
        new Run().due(0, "girl", 5, 0, 1).due(8, "feed", 0x727574206d6c6163L, 8).due(10, "feed", 0x3b6e, 2).due(1, "rules")
            .due(1, "girlOf", 0, 5);
    }

    static void promise13OnlyNOfThemCome() {
        Run x = new Run().due(0, "girl", 5, 0, 1);
        String text = "girl leave;";
        for (int i = 0; i < text.length(); i++) {
            x.due(i + 1, "feed", 0x5a5a5a5a5a5a5a00L | text.charAt(i), 1);
        }
        x.due(1, "rules").due(2, "girlOf", 0, 5);
    }

    static void promise13TheEighthByteMayHaveTheHighestBit() {
        new Run().due(8, "feed", 0xff20202020202020L, 8).due(-107, "rules");
        new Run().due(8, "feed", -1L, 8).due(-100, "rules");
        new Run().due(8, "feed", 0x8020202020202020L, 8).due(16, "feed", BLANKS, 8).due(-107, "rules");
    }

    static void promise13ABytesHighestBitCounts() {
        new Run().due(8, "feed", 0xa020202020202020L, 8).due(-107, "rules");
        new Run().due(0, "girl", 1, 0, 1).told(-100, (char) ('g' + 128) + "irl wait;");
        new Run().told(-104, "girl" + (char) (' ' + 128) + "wait;");
    }

    static void promise13WhenItIsUsedUpItTakes200Again() {
        Run x = new Run().times(25, "feed", BLANKS, 8).due(0, "rules").due(0, "many", 5).due(1, "feed", BLANKS, 1);
        x.times(24, "feed", BLANKS, 8).due(FULL, "feed", BLANKS, 8).due(200, "feed", BLANKS, 7);
    }

    static void promise14NoBytesTellNoRules() {
        new Run().due(0, "girl", 1, 0, 1).told(1, "girl leave;").due(2, "girlOf", 0, 5).due(0, "rules").due(0, "many", 1)
            .due(0, "girlOf", 0, 5);
    }

    static void promise14BlanksAloneTellNoRules() {
        new Run().told(1, "girl leave;").told(0, " ").due(0, "many", 1).told(1, "girl leave;").told(0, " ".repeat(200)).due(0, "many", 1);
    }

    static void promise14EightRulesAtMost() {
        Run x = new Run().due(0, "girl", 1, 0, 1).told(8, "bred wait;".repeat(7) + "girl leave;").due(8, "many", 1).due(2, "girlOf", 0, 5);
        x.told(8, "girl wait;".repeat(8) + "    ").told(7, "girl wait;".repeat(7));
    }

    static void promise14TheFirstNameOfTheNinthRuleIsTheFault() {
        String eight = "girl wait;".repeat(8);
        new Run().told(-180, eight + "girl wait;").told(-182, eight + "  girl wait;").told(-180, eight + "girl").told(-180, eight + "boy");
        new Run().told(-180, eight + ";").told(-180, "girl wait;".repeat(20)).told(-181, eight + " 1").due(0, "many", 1);
    }

    static void promise14AFaultLeavesTheRulesAndUsesTheTapeUp() {
        Run x = new Run().due(0, "girl", 1, 0, 1).told(2, "bred wait;girl turn;");
        for (String text : new String[] {";", "girl leave; girl", "girl leave; girl leave; girl leave; x", "girl leave;".repeat(8) + "girl leave;"}) {
            x.feed(text);
            if (x.call("rules") > -100) {
                EdgesTest.complain("[" + text + "] was taken");
            }
            x.due(0, "many", 5).due(2, "many", 1).due(1, "girlOf", 0, 5);
        }
        x.due(0, "rules").due(0, "many", 1);
    }

    static void promise14FaultAtTheFirstByte() {
        new Run().told(-100, ";").told(-100, "x").told(-100, "1").told(-100, "" + (char) 255);
    }

    static void promise14FaultAtTheLastByte() {
        new Run().told(-299, " ".repeat(199) + "x").told(-299, "girl wait;" + " ".repeat(189) + ";");
    }

    static void promise14FaultAtTheEndOf200Bytes() {
        new Run().told(-300, "girl wait" + " ".repeat(191)).told(-300, " ".repeat(196) + "girl");
        new Run().told(-300, "girl if " + "not ".repeat(48)).told(-300, "girl if " + "1=1 or ".repeat(27) + "1 =");
    }

    static void promise14TheEndIfMoreMustCome() {
        String text = "girl if not (month<3 and 12=faith) or dowry>9 turn;";
        int start = 0;
        for (int size = 1; size < text.length(); size++) {
            if (!letter(text, size - 2) && letter(text, size - 1)) {
                start = size - 1;
            }
            boolean brokenName = letter(text, size - 1) && letter(text, size);
            new Run().told(-100 - (brokenName ? start : size), text.substring(0, size));
        }
        new Run().told(1, text);
    }

    private static boolean letter(String text, int i) {
        return i >= 0 && i < text.length() && text.charAt(i) >= 'a' && text.charAt(i) <= 'z';
    }

    /** Behind a beginning each sort of NAME, NUMBER or byte stands (then the end is the FAULT, more must come), or it is the FAULT. */
    private static void behind(String beginning, String standing) {
        String[] all = {
            "girl", "shared", "bred", "twice", "late", "calm", "wait", "turn", "leave", "if", "and", "or", "not",
            "month", "faith", "dowry", "house", "number", "0", "9999", "(", ")", ";", "<", "=", ">", "12345", "x", "Girl", "?", "" + (char) 0
        };
        for (String one : all) {
            String text = beginning + " " + one;
            boolean stands = (" " + standing + " ").contains(" " + one + " ");
            new Run().told(-100 - (stands ? text.length() : beginning.length() + 1), text);
        }
    }

    static void promise14WhatCanStandFirst() {
        behind("", "girl shared bred twice late calm");
        behind("girl wait;", "girl shared bred twice late calm");
    }

    static void promise14WhatCanStandBehindAKind() {
        for (String kind : KINDS) {
            behind(kind, "wait turn leave if");
        }
    }

    static void promise14WhatCanStandBehindADo() {
        for (String deed : DEEDS) {
            // behind ";" a TEXT may end, so it is looked at apart
            for (String one : new String[] {"girl", "wait", "if", "and", "not", "month", "0", "(", ")", "<", "x"}) {
                new Run().told(-106 - deed.length(), "girl " + deed + " " + one);
            }
            new Run().told(1, "girl " + deed + " ;").told(1, "girl if 1=1 " + deed + ";");
        }
    }

    static void promise14WhatCanStandWhereAConditionBegins() {
        String values = "month faith dowry house number 0 9999";
        for (String beginning : new String[] {"girl if", "girl if not", "girl if not not", "girl if 1=1 and", "girl if 1=1 or", "girl if (", "girl if (1=1 or"}) {
            behind(beginning, "not ( " + values);
        }
    }

    static void promise14WhatCanStandBehindAValue() {
        for (String fact : FACTS) {
            behind("girl if " + fact, "< = >");
        }
        behind("girl if 0", "< = >");
        behind("girl if (9999", "< = >");
    }

    static void promise14WhatCanStandBehindASign() {
        for (String sign : new String[] {"<", "=", ">"}) {
            behind("girl if month" + sign, "month faith dowry house number 0 9999");
        }
    }

    static void promise14WhatCanStandBehindAComparison() {
        behind("girl if month<3", "and or wait turn leave");
        behind("girl if (month<3", "and or )");
        behind("girl if (month<3)", "and or wait turn leave");
        behind("girl if ((month<3)", "and or )");
        behind("girl if (((month<3)))", "and or wait turn leave");
    }

    static void promise14ThreeOpenAtMost() {
        new Run().told(1, "girl if (((1=1))) turn;").told(-111, "girl if ((((1=1)))) turn;").told(-113, "girl if ( (( (1=1");
        new Run().told(-123, "girl if not(not(not(not(1=1");
        behind("girl if (((", "not month faith dowry house number 0 9999");
    }

    static void promise14ThreeOpenWithinOneAnother() {
        new Run().told(1, "girl if (((1=1)))and(((1=1)))or((1=1)or((1=1)))and(1=1) turn;");
        new Run().told(-119, "girl if (1=1)and((((1=1").told(-121, "girl if ((1=1)or((1=1").told(-118, "girl if ((1=1)or(((1=1");
    }

    static void promise14NumbersHave1To4Digits() {
        new Run().told(1, "girl if 9999=9 turn;").told(1, "girl if 0=0000 turn;").told(-108, "girl if 10000=9 turn;")
            .told(-110, "girl if 9=00000 turn;");
        new Run().told(-108, "girl if 12340=1 turn;").told(-108, "girl if 12349=1 turn;").told(-108, "girl if " + "0".repeat(192));
    }

    /** What a GIRL (calm, HOUSE 5, DOWRY 3, number 0) in MONTH 1 with FAITH 2 does by a TEXT of one RULE. */
    private static void does(int want, String condition) {
        Run x = new Run().due(0, "girl", 5, 5, 3).due(0, "wind", 0, 1, 9, 9).due(6, "promise", 0, 0).due(0, "month");
        x.told(1, "girl if " + condition + " turn;");
        int got = x.call("girlOf", 0, 5);
        if (got != want) {
            EdgesTest.complain("by [" + condition + "] she does " + got + ", due is " + want);
        }
    }

    static void promise14NumbersAre0To9999() {
        does(1, "9999>9998");
        does(1, "0000=0");
        does(1, "0999=999");
        does(1, "1000>999");
        does(1, "0<1");
        does(0, "9999<9999");
        does(1, "0019=19");
    }

    static void promise14NamesAndNumbersAreAsLongAsTheyGo() {
        new Run().told(-100, "girlwait;").told(-105, "girl waitx;").told(-115, "girl wait;girl waitgirl").told(-100, "girlif 1=1 wait;");
        new Run().told(-108, "girl if notmonth=1 turn;").told(-112, "girl if 1=1 andmonth=1 turn;").told(-110, "girl if 1 2=3 turn;");
        new Run().told(1, "girl if1=1turn;").told(1, "girl if(1=1)turn;").told(1, "girl if not(1=1)and not(2=2)or month=3turn;");
    }

    static void promise14BlanksStandAsOneLikes() {
        new Run().told(2, "   girl   if  not  (  month  <  3  )  turn  ;  bred  wait  ;  ").told(1, "girl wait ;");
        new Run().told(-100, "gi rl wait;").told(-105, "girl wa it;").told(-113, "girl if 1=1 1 turn;".replace("1 1", "1  1"));
    }

    static void promise14Only32IsABlank() {
        for (int b : new int[] {0, 9, 10, 11, 12, 13, 31, 33, 95, 127, 133, 160}) {
            new Run().told(-104, "girl" + (char) b + "wait;").told(-110, "girl wait;" + (char) b);
        }
    }

    static void promise14LettersAreAToZ() {
        new Run().told(-100, "girla wait;").told(-100, "girlz wait;").told(-104, "girl` wait;").told(-104, "girl{ wait;")
            .told(-104, "girlA wait;").told(-104, "girlZ wait;");
    }

    static void promise14DigitsAre0To9() {
        new Run().told(1, "girl if 0909=9090 turn;").told(-109, "girl if 1/=1 turn;").told(-109, "girl if 1:=1 turn;");
    }

    static void promise14NamesThatAreNone() {
        for (String name : new String[] {"g", "gir", "girls", "share", "sharedd", "bre", "twic", "lat", "cal", "calmm", "wait", "numbers"}) {
            new Run().told(-100, name + " wait;");
        }
        for (String name : new String[] {"wai", "waits", "tur", "turns", "leav", "leaves", "i", "iff", "girl"}) {
            new Run().told(-105, "girl " + name + ";");
        }
        for (String name : new String[] {"mont", "months", "fait", "dowr", "dowryy", "hous", "numbe", "no", "nott", "anumber", "bnumber"}) {
            new Run().told(-108, "girl if " + name + "=1 turn;");
        }
        for (String name : new String[] {"an", "ands", "o", "ors"}) {
            new Run().told(-112, "girl if 1=1 " + name + " 1=1 turn;");
        }
    }

    static void promise14LessEqualMore() {
        int[][] due = {{1, 0, 0}, {0, 1, 0}, {0, 0, 1}};
        String[] signs = {"<", "=", ">"};
        for (int sign = 0; sign < 3; sign++) {
            for (int right = 1; right <= 3; right++) {
                does(due[sign][3 - right], "faith" + signs[sign] + right);
                does(due[sign][right - 1], right + signs[sign] + "faith");
            }
        }
        new Run().told(-110, "girl if 1<=1 turn;").told(-110, "girl if 1>=1 turn;").told(-110, "girl if 1==1 turn;")
            .told(-109, "girl if 1!=1 turn;");
    }

    static void promise14NotBindsClosest() {
        does(0, "not 1=2 and 1=2");
        does(1, "not 1=1 or 1=1");
        does(0, "not (1=2 or 1=1)");
        does(1, "not not 1=1");
        does(0, "not not not 1=1");
        does(1, "1=1 and not not(not(1=2))");
    }

    static void promise14AndBindsCloserThanOr() {
        does(1, "1=1 or 1=1 and 1=2");
        does(1, "1=2 and 1=1 or 1=1");
        does(0, "(1=1 or 1=1) and 1=2");
        does(0, "1=2 and (1=1 or 1=1)");
        does(0, "1=2 or 1=1 and 1=2 or 1=2");
        does(1, "1=2 or 1=1 and 1=1 or 1=2");
    }

    static void promise14ManyParts() {
        does(1, "1=2 or ".repeat(24) + "1=1");
        does(0, "1=2 or ".repeat(24) + "1=2");
        does(1, "1=1 and ".repeat(20) + "1=1");
        does(0, "1=1 and ".repeat(20) + "1=2");
        does(0, "1=2 and ".repeat(1) + "1=1 and ".repeat(19) + "1=1");
        does(1, "1=1 or ".repeat(1) + "1=2 or ".repeat(23) + "1=2");
    }

    static void promise14ATextOf200Bytes() {
        Run x = new Run().due(0, "girl", 1, 0, 1);
        x.told(1, "girl if " + "not ".repeat(45) + "1=1 turn;" + "   ").due(0, "girlOf", 0, 5);
        x.told(1, "girl if " + "not ".repeat(44) + "1=1 turn;" + "       ").due(1, "girlOf", 0, 5);
        x.told(1, "girl if " + "not ".repeat(45) + "1=1    turn;").due(0, "girlOf", 0, 5);
        x.told(1, "girl if((" + "1<1or ".repeat(30) + "1<2)) turn;").due(1, "girlOf", 0, 5);
    }

    static void promise14NothingIsLeftOfAnOlderText() {
        Run x = new Run().due(0, "girl", 1, 0, 1).told(1, "girl if 1=2 turn;").due(0, "girlOf", 0, 5).told(1, "girl leave;")
            .due(2, "girlOf", 0, 5);
        for (int i = 0; i < 9; i++) {
            x.told(1, "girl if " + "1=2 or ".repeat(9) + "1=2 turn;").due(0, "girlOf", 0, 5)
                .told(1, "girl if " + "1=1 and ".repeat(9) + "1=1 turn;").due(1, "girlOf", 0, 5);
        }
        x.told(-110, "girl if 1=").told(1, "girl if 2=2 leave;").due(2, "girlOf", 0, 5);
    }

    static void promise14TwoHundredThatStandApart() {
        new Run().told(-100, ";".repeat(200)).told(-100, "(".repeat(200)).told(-100, "1a".repeat(100))
            .told(-110, "girl wait;" + ";".repeat(190));
        new Run().told(-108, "girl if " + ")".repeat(192)).told(-111, "girl if " + "(".repeat(192));
    }

    static void promise14EachLetterOfANameCounts() {
        for (String kind : KINDS) {
            changedLetters("", kind, " wait;");
        }
        for (String deed : DEEDS) {
            changedLetters("girl ", deed, ";");
        }
        for (String fact : FACTS) {
            changedLetters("girl if ", fact, "=1 wait;");
            changedLetters("girl if 1=", fact, " wait;");
        }
        changedLetters("girl ", "if", " 1=1 wait;");
        changedLetters("girl if ", "not", " 1=1 wait;");
        changedLetters("girl if 1=1 ", "and", " 1=1 wait;");
        changedLetters("girl if 1=1 ", "or", " 1=1 wait;");
    }

    private static void changedLetters(String ahead, String name, String behind) {
        new Run().told(1, ahead + name + behind);
        for (int i = 0; i < name.length(); i++) {
            String changed = name.substring(0, i) + "q" + name.substring(i + 1);
            new Run().told(-100 - ahead.length(), ahead + changed + behind);
        }
    }

    static void promise14MonthIsTheOneThatComes() {
        Run x = new Run().due(0, "girl", 1, 0, 1).due(12, "ends", 16)
            .told(3, "girl if month=0 turn; girl if month=15 leave; girl if month=16 turn;");
        x.due(1, "girlOf", 0, 5).due(0, "month").due(0, "girlOf", 0, 5).times(14, "month").due(2, "girlOf", 0, 5).due(0, "month")
            .due(1, "girlOf", 0, 5);
    }

    static void promise14FaithDowryHouseNumber() {
        Run x = new Run().due(0, "girl", 1, 0, 9).due(1, "girl", 1, 7, 1).due(0, "wind", 0, 1, 9, 9).due(6, "promise", 0, 0)
            .due(0, "month");
        x.told(1, "girl if faith=8 leave;").due(2, "girlOf", 0, 5).due(0, "girlOf", 1, 5);
        x.told(1, "girl if dowry=9 leave;").due(2, "girlOf", 0, 5).due(0, "girlOf", 1, 5);
        x.told(1, "girl if faith=1 leave;").due(0, "girlOf", 0, 5).due(2, "girlOf", 1, 5);
        x.told(1, "girl if dowry=1 leave;").due(0, "girlOf", 0, 5).due(2, "girlOf", 1, 5);
        x.told(1, "girl if house=0 leave;").due(2, "girlOf", 0, 5).due(0, "girlOf", 1, 5);
        x.told(1, "girl if house=7 leave;").due(0, "girlOf", 0, 5).due(2, "girlOf", 1, 5);
        x.told(1, "girl if number=0 leave;").due(2, "girlOf", 0, 5).due(0, "girlOf", 1, 5);
        x.told(1, "girl if number=1 leave;").due(0, "girlOf", 0, 5).due(2, "girlOf", 1, 5);
        Run.full().told(-115, "").told(1, "girl if number=5 leave;").due(0, "girlOf", 4, 5).due(2, "girlOf", 5, 5);
    }

    static void promise14TheKindIsHersOrAboveIt() {
        // by KINDS of RULES, for GIRLS of KINDS 1 to 5
        int[][] due = {{1, 1, 1, 1, 1}, {1, 0, 0, 0, 0}, {0, 1, 1, 0, 0}, {0, 0, 1, 0, 0}, {0, 0, 0, 1, 1}, {0, 0, 0, 0, 1}};
        Run x = new Run();
        for (int kind = 1; kind <= 5; kind++) {
            x.call("girl", kind, 0, 1);
        }
        for (int rule = 0; rule < 6; rule++) {
            x.told(1, KINDS[rule] + " turn;");
            for (int g = 0; g < 5; g++) {
                x.due(due[rule][g], "girlOf", g, 5);
            }
        }
    }

    static void promise14TheFirstThatHoldsTells() {
        Run x = new Run().due(0, "girl", 5, 0, 1);
        x.told(2, "girl turn; calm leave;").due(1, "girlOf", 0, 5).told(2, "calm leave; girl turn;").due(2, "girlOf", 0, 5);
        x.told(3, "calm if 1=2 leave; bred leave; late turn;").due(1, "girlOf", 0, 5);
    }

    static void promise14WaitTellsToo() {
        new Run().due(0, "girl", 5, 0, 1).told(2, "girl wait; girl turn;").due(0, "girlOf", 0, 5);
    }
}
