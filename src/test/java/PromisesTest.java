/** Each promise of the document by its number: ordinary inputs, the edges that it names, and wrong inputs. */
public final class PromisesTest {
    private static final int BAD = -1, FULL = -2, NONE = -3, STATE = -4;
    private static final int LOW = Integer.MIN_VALUE, HIGH = Integer.MAX_VALUE;
    private static int wrong = 0;

    public static void main(String[] args) {
        newObject();
        girls();
        girlOf();
        changeAndRemake();
        winds();
        promises();
        gains();
        endsAnewState();
        tape();
        texts();
        conditions();
        faults();
        months();
        calms();
        theRest();
        bestChoices();
        leaving();
        keptOnes();
        rings();
        plans();
        bounds();
        games();
        reports();
        lots();
        rows();
        sheets();
        goingAll();
        shelves();
        acts();
        traces();
        many();
        keeping();
        if (wrong != 0) {
            System.out.println(wrong + " answers are not as due");
            System.exit(1);
        }
    }

    private static void due(int promise, String call, int got, int want) {
        if (got != want) {
            wrong++;
            System.out.println("promise " + promise + ": " + call + " answered " + got + ", due is " + want);
        }
    }

    private static int tell(WindBrides x, String text) {
        for (int i = 0; i < text.length(); i += 8) {
            int n = Math.min(8, text.length() - i);
            long eight = 0;
            for (int k = n - 1; k >= 0; k--) {
                eight = eight << 8 | text.charAt(i + k);
            }
            x.feed(eight, n);
        }
        return x.rules();
    }

    /** One GIRL (bred, HOUSE 0, DOWRY 2), promised to one WIND (POINT 0, FORCE 5, MONTHS 0 and 1). */
    private static WindBrides onePair() {
        WindBrides x = new WindBrides();
        x.girl(2, 0, 2);
        x.wind(0, 5, 0, 1);
        x.promise(0, 0);
        return x;
    }

    private static void newObject() {
        WindBrides x = new WindBrides();
        for (int what = 0; what <= 7; what++) {
            due(1, "many(" + what + ")", x.many(what), 0);
        }
        due(1, "again", x.again(), NONE);
        due(1, "state 0", x.state(0), 0);
        due(1, "state 1", x.state(1), 12);
        due(1, "state 2", x.state(2), 0);
        due(1, "seed", x.seed(5), 1);
        due(1, "item", x.item(0, 0, 0), -11);
        due(1, "taken", x.taken(3, 0), -11);
        due(1, "row", x.row(0, 0), -9);
        due(1, "BAD", WindBrides.BAD, -1);
        due(1, "FULL", WindBrides.FULL, -2);
        due(1, "NONE", WindBrides.NONE, -3);
        due(1, "STATE", WindBrides.STATE, -4);
    }

    private static void girls() {
        WindBrides x = new WindBrides();
        int[][] bad = {{0, 0, 1}, {6, 0, 1}, {LOW, 0, 1}, {1, -1, 1}, {1, 8, 1}, {1, 0, 0}, {1, 0, 10}, {1, HIGH, 1}, {1, 0, LOW}};
        for (int[] b : bad) {
            due(2, "a bad girl", x.girl(b[0], b[1], b[2]), BAD);
        }
        due(2, "none came", x.many(0), 0);
        for (int i = 0; i < 6; i++) {
            due(2, "girl", x.girl(1 + i % 5, i + 2, 9 - i), i);
        }
        due(2, "the seventh", x.girl(1, 0, 1), FULL);
        due(2, "a bad seventh", x.girl(0, 0, 1), BAD);
        due(2, "six", x.many(0), 6);
    }

    private static void girlOf() {
        WindBrides x = new WindBrides();
        x.girl(3, 7, 4);
        x.wind(0, 1, 3, 3);
        due(3, "KIND", x.girlOf(0, 0), 3);
        due(3, "HOUSE", x.girlOf(0, 1), 7);
        due(3, "DOWRY", x.girlOf(0, 2), 4);
        due(3, "to none", x.girlOf(0, 3), 6);
        due(3, "FAITH", x.girlOf(0, 4), 4);
        due(3, "waits", x.girlOf(0, 5), 0);
        x.promise(0, 0);
        x.month();
        due(3, "her WIND", x.girlOf(0, 3), 0);
        due(3, "FAITH behind a calm", x.girlOf(0, 4), 3);
        tell(x, "girl if month=1 leave; girl turn;");
        due(3, "leaves", x.girlOf(0, 5), 2);
        x.month();
        due(3, "turns", x.girlOf(0, 5), 1);
        due(3, "what 6", x.girlOf(0, 6), BAD);
        due(3, "what -1", x.girlOf(0, -1), BAD);
        due(3, "no girl", x.girlOf(1, 0), BAD);
        due(3, "girl -1", x.girlOf(-1, 0), BAD);
    }

    private static void changeAndRemake() {
        WindBrides x = new WindBrides();
        x.girl(1, 2, 3);
        due(4, "HOUSE", x.change(0, 1, 0), 2);
        due(4, "HOUSE", x.change(0, 1, 7), 0);
        due(4, "its new one", x.girlOf(0, 1), 7);
        due(4, "DOWRY", x.change(0, 2, 9), 3);
        due(4, "its new one", x.girlOf(0, 2), 9);
        due(4, "FAITH stays", x.girlOf(0, 4), 3);
        int[][] bad = {{0, 0, 1}, {0, 3, 1}, {0, 1, 8}, {0, 1, -1}, {0, 2, 0}, {0, 2, 10}, {1, 1, 1}, {-1, 1, 1}};
        for (int[] b : bad) {
            due(4, "a bad change", x.change(b[0], b[1], b[2]), BAD);
        }
        due(4, "nothing changed", x.girlOf(0, 1) * 10 + x.girlOf(0, 2), 79);
        due(5, "remake", x.remake(0, 5), 1);
        due(5, "the new KIND", x.girlOf(0, 0), 5);
        due(5, "KIND 0", x.remake(0, 0), BAD);
        due(5, "KIND 6", x.remake(0, 6), BAD);
        due(5, "no girl", x.remake(1, 1), BAD);
        due(5, "it stayed", x.girlOf(0, 0), 5);
    }

    private static void winds() {
        WindBrides x = new WindBrides();
        int[][] bad = {{-1, 1, 0, 0}, {8, 1, 0, 0}, {0, 0, 0, 0}, {0, 10, 0, 0}, {0, 1, -1, 0}, {0, 1, 16, 16}, {0, 1, 5, 4}, {0, 1, 0, 16}};
        for (int[] b : bad) {
            due(6, "a bad wind", x.wind(b[0], b[1], b[2], b[3]), BAD);
        }
        for (int i = 0; i < 6; i++) {
            due(6, "wind", x.wind(i + 2, 9 - i, i, i == 5 ? 15 : i), i);
        }
        due(6, "the seventh", x.wind(0, 1, 0, 0), FULL);
        due(6, "a bad seventh", x.wind(0, 1, 1, 0), BAD);
        due(6, "six", x.many(2), 6);
        due(7, "POINT", x.windOf(5, 0), 7);
        due(7, "FORCE", x.windOf(5, 1), 4);
        due(7, "FROM", x.windOf(5, 2), 5);
        due(7, "TO", x.windOf(5, 3), 15);
        due(7, "nobody", x.windOf(5, 4), 0);
        due(7, "0 BLOWS in 0", x.windOf(0, 5), 1);
        due(7, "1 doesn't", x.windOf(1, 5), 0);
        for (int i = 0; i < 4; i++) {
            x.girl(1, 0, 1);
        }
        x.promise(1, 5);
        x.promise(3, 5);
        due(7, "brides", x.windOf(5, 4), 10);
        x.month();
        due(7, "0 doesn't BLOW in 1", x.windOf(0, 5), 0);
        due(7, "1 does", x.windOf(1, 5), 1);
        due(7, "what 6", x.windOf(0, 6), BAD);
        due(7, "what -1", x.windOf(0, -1), BAD);
        due(7, "wind 6", x.windOf(6, 0), BAD);
        due(7, "wind -1", x.windOf(-1, 0), BAD);
    }

    private static void promises() {
        WindBrides x = new WindBrides();
        x.girl(1, 0, 5);
        x.wind(0, 1, 9, 9);
        x.wind(0, 1, 9, 9);
        due(8, "from none", x.promise(0, 1), 6);
        x.month();
        due(8, "worn", x.girlOf(0, 4), 4);
        due(8, "from 1 to 1", x.promise(0, 1), 1);
        due(8, "FAITH anew", x.girlOf(0, 4), 5);
        due(8, "to none", x.promise(0, -1), 1);
        due(8, "none", x.girlOf(0, 3), 6);
        due(8, "from none to none", x.promise(0, -1), 6);
        due(8, "no wind", x.promise(0, 2), BAD);
        due(8, "wind 6", x.promise(0, 6), BAD);
        due(8, "wind -2", x.promise(0, -2), BAD);
        due(8, "no girl", x.promise(1, 0), BAD);
        due(8, "girl -1", x.promise(-1, 0), BAD);
    }

    private static void gains() {
        WindBrides x = new WindBrides();
        for (int kind = 1; kind <= 5; kind++) {
            x.girl(kind, 0, 1);
        }
        x.wind(7, 9, 0, 0);
        x.wind(3, 6, 0, 0);
        x.wind(4, 1, 0, 0);
        int[][] at5 = {{4, 9, 10, 8, 8}, {1, 5, 6, 3, 6}, {0, 0, 1, 0, 8}};
        int[][] at2 = {{4, 9, 10, 0, 0}, {1, 5, 6, 0, 3}, {0, 0, 1, 0, 8}};
        for (int w = 0; w < 3; w++) {
            for (int g = 0; g < 5; g++) {
                due(9, "gain of " + g + " by " + w, x.gain(g, w, 5), at5[w][g]);
                due(9, "early gain of " + g + " by " + w, x.gain(g, w, 2), at2[w][g]);
            }
        }
        due(9, "month 0", x.gain(0, 0, 0), 4);
        due(9, "from month 3", x.gain(3, 0, 3), 8);
        due(9, "month 15", x.gain(3, 0, 15), 8);
        due(9, "month 16", x.gain(3, 0, 16), BAD);
        due(9, "month -1", x.gain(3, 0, -1), BAD);
        due(9, "no girl", x.gain(5, 0, 0), BAD);
        due(9, "no wind", x.gain(0, 3, 0), BAD);
        due(9, "wind -1", x.gain(0, -1, 0), BAD);
    }

    private static void endsAnewState() {
        WindBrides x = onePair();
        due(10, "ends 16", x.ends(16), 12);
        due(10, "ends 1", x.ends(1), 16);
        due(10, "ends 0", x.ends(0), BAD);
        due(10, "ends 17", x.ends(17), BAD);
        x.ends(3);
        due(15, "month", x.month(), 5);
        due(15, "month", x.month(), 5);
        due(10, "below MONTH", x.ends(1), STATE);
        due(10, "bad ahead of STATE", x.ends(0), BAD);
        due(10, "as MONTH", x.ends(2), 3);
        due(12, "MONTH", x.state(0), 2);
        due(12, "END", x.state(1), 2);
        due(12, "SCORE", x.state(2), 10);
        due(12, "OVER", x.state(3), 1);
        due(12, "what 4", x.state(4), BAD);
        due(12, "what -1", x.state(-1), BAD);
        x.ends(9);
        due(12, "not OVER", x.state(3), 0);
        x.month();
        due(11, "worn", x.girlOf(0, 4), 1);
        due(11, "anew", x.anew(), 3);
        due(11, "FAITH", x.girlOf(0, 4), 2);
        due(11, "MONTH", x.state(0), 0);
        due(11, "SCORE", x.state(2), 0);
        due(11, "END stays", x.state(1), 9);
        due(11, "promises stay", x.girlOf(0, 3), 0);
    }

    private static void tape() {
        WindBrides x = new WindBrides();
        due(13, "n 0", x.feed(0, 0), BAD);
        due(13, "n 9", x.feed(0, 9), BAD);
        due(13, "n -1", x.feed(0, -1), BAD);
        due(13, "girl", x.feed('g' | 'i' << 8 | 'r' << 16 | (long) 'l' << 24 | (long) 'x' << 32, 4), 4);
        due(13, "blank, wait", x.feed(0x7469617720L, 5), 9);
        due(13, ";", x.feed(';', 1), 10);
        due(13, "what it told", x.rules(), 1);
        for (int i = 1; i <= 25; i++) {
            due(13, "blanks", x.feed(0x2020202020202020L, 8), 8 * i);
        }
        due(13, "one more", x.feed(' ', 1), FULL);
        due(13, "bad ahead of full", x.feed(' ', 0), BAD);
        due(13, "200", x.many(5), 200);
        due(14, "200 blanks", x.rules(), 0);
        for (int i = 0; i < 24; i++) {
            x.feed(0x2020202020202020L, 8);
        }
        due(13, "199", x.feed(0x20202020202020L, 7), 199);
        due(13, "two more", x.feed(0x2020, 2), FULL);
        due(13, "the last one", x.feed(0x80, 1), 200);
        due(14, "a byte above 127", x.rules(), -299);
        due(14, "used up", x.many(5), 0);
    }

    private static void texts() {
        WindBrides x = new WindBrides();
        due(14, "none", tell(x, ""), 0);
        due(14, "one", tell(x, "girl wait;"), 1);
        due(14, "eight, close", tell(x, "girl wait;shared wait;bred wait;twice wait;late wait;calm wait;girl turn;girl leave;"), 8);
        due(14, "many", x.many(1), 8);
        due(14, "no blanks", tell(x, "girl if not(month<3)and faith>0or dowry=9turn;"), 1);
        due(14, "many blanks", tell(x, "   girl   if  (  month  <  3  )  turn  ;   "), 1);
        due(14, "three open", tell(x, "girl if (((1=1))) and (((2=2))) turn;"), 1);
        due(14, "many nots", tell(x, "girl if not not not not not not not 1=2 turn;"), 1);
        due(14, "zeros", tell(x, "girl if 0009=9 turn;"), 1);
        due(14, "9999", tell(x, "girl if 9999>house turn;"), 1);
        due(14, "in place of all", x.many(1), 1);
        due(14, "none in place of all", tell(x, "  "), 0);
        due(14, "none in place of all", x.many(1), 0);
    }

    /** What a GIRL (calm, HOUSE 5, DOWRY 3, number 0) in MONTH 1 with FAITH 2 does by a TEXT. */
    private static int does(String text) {
        WindBrides x = new WindBrides();
        x.girl(5, 5, 3);
        x.wind(0, 1, 9, 9);
        x.promise(0, 0);
        x.month();
        tell(x, text);
        return x.girlOf(0, 5);
    }

    private static void conditions() {
        due(14, "month", does("girl if month=1 turn;"), 1);
        due(14, "faith", does("girl if faith=2 turn;"), 1);
        due(14, "dowry", does("girl if dowry=3 turn;"), 1);
        due(14, "house", does("girl if house=5 turn;"), 1);
        due(14, "number", does("girl if number=0 turn;"), 1);
        WindBrides x = new WindBrides();
        for (int g = 0; g < 6; g++) {
            x.girl(1, 0, 1);
        }
        tell(x, "girl if number=4 turn; girl if number>4 leave;");
        due(14, "number 3", x.girlOf(3, 5), 0);
        due(14, "number 4", x.girlOf(4, 5), 1);
        due(14, "number 5", x.girlOf(5, 5), 2);
        due(14, "less", does("girl if faith<3 turn;"), 1);
        due(14, "not less", does("girl if faith<2 turn;"), 0);
        due(14, "more", does("girl if 3>faith turn;"), 1);
        due(14, "not more", does("girl if 2>faith turn;"), 0);
        due(14, "two facts", does("girl if house>dowry leave;"), 2);
        due(14, "and closer than or", does("girl if 1=1 or 1=1 and 1=2 turn;"), 1);
        due(14, "and closer than or behind", does("girl if 1=2 and 1=1 or 1=1 turn;"), 1);
        due(14, "not closest", does("girl if not 1=2 and 1=2 turn;"), 0);
        due(14, "brackets", does("girl if (1=1 or 1=1) and 1=2 turn;"), 0);
        due(14, "not of brackets", does("girl if not (1=1 and 1=2) turn;"), 1);
        due(14, "ors", does("girl if 1=2 or 1=3 or 1=1 or 1=4 turn;"), 1);
        due(14, "ands", does("girl if 1=1 and 1=1 and 1=2 and 1=1 turn;"), 0);
        due(14, "what waits ahead of brackets", does("girl if 1=2 and (1=2 or 1=1) turn;"), 0);
        due(14, "what waits ahead of brackets", does("girl if 1=2 or (1=1 and (1=2 or (1=1 or 1=2) and 1=1)) turn;"), 1);
        String seven = "girl if 1=2 turn;girl if 1=2 turn;girl if 1=2 turn;girl if 1=2 turn;girl if 1=2 turn;girl if 1=2 turn;girl if 1=2 turn;";
        due(14, "the eighth", does(seven + "girl if 1=1 leave;"), 2);
        due(14, "not the eighth", does(seven + "girl if 1=2 leave;"), 0);
        due(14, "mixed", does("girl if 1=2 and 1=1 or 1=1 and 2=2 or 1=3 turn;"), 1);
        due(14, "not not", does("girl if not not 1=1 turn;"), 1);
        due(14, "the first that holds", does("girl if 1=2 turn; calm leave; girl turn;"), 2);
        due(14, "above hers", does("late turn;"), 1);
        due(14, "beside hers", does("bred turn; shared turn; twice turn;"), 0);
        due(14, "none holds", does("calm if 1=2 turn;"), 0);
    }

    private static void faults() {
        String[] texts = {
            ";", "  boy turn;", "girls turn;", "girl", "girl ", "girl turn", "girl turn ;x", "girl jump;", "girl if", "girl if turn;",
            "girl if 1 turn;", "girl if 1=turn;", "girl if 1=1;", "girl if 12345=1 turn;", "girl if 1=00001 turn;",
            "girl if ((((1=1)))) turn;", "girl if (1=1 turn;", "girl if 1=1) turn;", "girl if 1=1 and turn;", "girl if not turn;",
            "girl wait;girl wait;girl wait;girl wait;girl wait;girl wait;girl wait;girl wait; girl wait;",
            "Girl turn;", "girl\tturn;", "girl if 1==1 turn;", "girl if month turn;", "girl turn wait;", "girl if 1=1 or or", "girl turn;;",
            "girlz turn;", "birl wait;", "girl if zonth=1 turn;", "girl if numbers=1 turn;", "girl if1 =1 turn; a", "girl if 10 000=1 turn;",
            ";".repeat(200), "(".repeat(200), "girl if " + "not ".repeat(48), "girl if" + "(((((".repeat(30)
        };
        int[] places = {
            0, 2, 0, 4, 5, 9, 11, 5, 7, 8,
            10, 10, 11, 8, 10,
            11, 13, 11, 16, 12,
            81,
            0, 4, 10, 14, 10, 15, 10,
            0, 0, 8, 8, 18, 11,
            0, 0, 200, 10
        };
        WindBrides x = new WindBrides();
        tell(x, "girl wait; girl wait;");
        for (int i = 0; i < texts.length; i++) {
            due(14, "[" + texts[i] + "]", tell(x, texts[i]), -100 - places[i]);
            due(14, "the RULES stay", x.many(1), 2);
            due(14, "the TAPE is used up", x.many(5), 0);
        }
    }

    private static void months() {
        WindBrides x = onePair();
        x.girl(2, 4, 1);
        x.promise(1, 0);
        x.change(0, 2, 3);
        due(15, "one girl a month", x.month(), 5);
        due(15, "FAITH becomes DOWRY when it courts her", x.girlOf(0, 4), 3);
        x.change(0, 2, 2);
        due(15, "the other one is worn out", x.girlOf(1, 3), 6);
        due(15, "her FAITH", x.girlOf(1, 4), 1);
        x.month();
        due(15, "a calm", x.month(), 0);
        due(15, "FAITH 1", x.girlOf(0, 4), 1);
        due(15, "another one", x.month(), 0);
        due(15, "broken", x.girlOf(0, 3), 6);
        due(15, "FAITH anew", x.girlOf(0, 4), 2);
        due(15, "MONTH", x.state(0), 4);
        x.ends(4);
        due(15, "OVER", x.month(), STATE);
        due(15, "nothing more", x.state(0), 4);
    }

    private static void calms() {
        WindBrides x = onePair();
        x.wind(2, 5, 2, 9);
        x.wind(1, 4, 2, 9);
        x.wind(7, 5, 2, 9);
        x.wind(0, 9, 5, 9);
        x.girl(4, 7, 9);
        x.promise(1, 3);
        tell(x, "bred if faith<2 leave; bred turn;");
        x.month();
        x.month();
        due(15, "she turns to the least of the best that is free", x.month(), 4);
        due(15, "it is hers", x.girlOf(0, 3), 1);
        WindBrides y = onePair();
        y.girl(3, 0, 9);
        y.wind(0, 9, 2, 2);
        y.promise(1, 1);
        tell(y, "bred turn;");
        y.month();
        y.month();
        due(15, "no WIND is free", y.month(), 10);
        due(15, "FAITH is worn", y.girlOf(0, 4), 1);
        tell(y, "bred leave;");
        due(15, "none BLOWS", y.month(), 0);
        due(15, "she has left", y.girlOf(0, 3), 6);
        due(15, "FAITH is DOWRY", y.girlOf(0, 4), 2);
        due(15, "so has the other", y.girlOf(1, 3), 6);
        WindBrides z = onePair();
        z.girl(2, 0, 1);
        tell(z, "girl turn;");
        due(15, "her WIND BLOWS, so she has no calm; the other finds none", z.month(), 5);
        due(15, "promised to none", z.girlOf(1, 3), 6);
    }

    private static void theRest() {
        WindBrides x = onePair();
        due(16, "on 0", x.on(0), 0);
        due(16, "on 1", x.on(1), 5);
        due(16, "on 16", x.on(16), 10);
        due(16, "on -1", x.on(-1), BAD);
        due(16, "on 17", x.on(17), BAD);
        due(16, "nothing went by", x.state(0), 0);
        due(17, "courted", x.courted(0), 2);
        due(17, "no girl", x.courted(1), BAD);
        due(17, "girl -1", x.courted(-1), BAD);
        due(18, "breaks", x.breaks(0), 3);
        due(18, "no girl", x.breaks(1), BAD);
        due(18, "girl -1", x.breaks(-1), BAD);
        x.girl(1, 0, 1);
        due(18, "promised to none", x.breaks(1), NONE);
        x.ends(3);
        due(18, "not till then", x.breaks(0), NONE);
        due(16, "till END", x.on(16), 10);
        x.ends(1);
        due(16, "till END", x.on(16), 5);
        due(17, "till END", x.courted(0), 1);
        x.month();
        due(16, "OVER", x.on(4), 0);
        due(17, "OVER", x.courted(0), 0);
        WindBrides y = onePair();
        y.wind(0, 1, 2, 15);
        tell(y, "girl turn;");
        due(18, "another WIND", y.breaks(0), 2);
    }

    private static void bestChoices() {
        WindBrides x = new WindBrides();
        x.girl(2, 0, 1);
        due(19, "no WIND", x.windFor(0), 6);
        x.wind(0, 1, 0, 0);
        x.wind(0, 5, 1, 3);
        x.wind(4, 6, 0, 3);
        x.wind(0, 4, 0, 3);
        due(19, "the least of the best", x.windFor(0), 2);
        due(19, "it isn't promised", x.girlOf(0, 3), 6);
        x.girl(2, 4, 1);
        x.promise(1, 2);
        due(19, "but it courts but one", x.windFor(1), 2);
        due(19, "the other one hinders her less", x.windFor(0), 3);
        x.ends(1);
        x.month();
        due(19, "OVER: all are alike", x.windFor(0), 0);
        due(19, "no girl", x.windFor(2), BAD);
        due(19, "girl -1", x.windFor(-1), BAD);
        WindBrides y = new WindBrides();
        y.girl(2, 4, 9);
        y.girl(2, 0, 9);
        y.wind(0, 5, 0, 15);
        y.promise(1, 0);
        due(19, "she had best have none", y.windFor(0), 6);
        y.promise(0, 0);
        due(19, "so had she who has it", y.windFor(0), 6);
        due(19, "nothing changed", y.girlOf(0, 3), 0);
        WindBrides z = new WindBrides();
        z.girl(2, 0, 2);
        z.wind(0, 5, 3, 4);
        z.promise(0, 0);
        due(20, "FAITH till MONTH 3", z.dowryFor(0), 4);
        due(20, "nothing changed", z.girlOf(0, 2) * 10 + z.girlOf(0, 4), 22);
        z.promise(0, -1);
        due(20, "all are alike", z.dowryFor(0), 1);
        z.wind(0, 5, 8, 8);
        z.promise(0, 1);
        due(20, "FAITH till MONTH 8", z.dowryFor(0), 9);
        z.promise(0, -1);
        tell(z, "girl if dowry=7 and month=3 turn;");
        due(20, "DOWRY itself counts, not only FAITH", z.dowryFor(0), 7);
        due(20, "no girl", z.dowryFor(1), BAD);
        due(20, "girl -1", z.dowryFor(-1), BAD);
    }

    /** Two GIRLS with each the HOUSE at which the other one's WIND points. */
    private static WindBrides crossed() {
        WindBrides x = new WindBrides();
        x.girl(2, 0, 9);
        x.girl(2, 4, 9);
        x.wind(4, 5, 15, 15);
        x.wind(0, 5, 15, 15);
        x.promise(0, 0);
        x.promise(1, 1);
        return x;
    }

    private static void leaving() {
        WindBrides x = new WindBrides();
        due(21, "nobody", x.leave(), 0);
        due(22, "nobody", x.first(), NONE);
        x = crossed();
        due(21, "both", x.leave(), 2);
        due(22, "the first of them", x.first(), 1);
        x.promise(0, 1);
        due(21, "one is content: the other one finds her WIND free", x.leave(), 1);
        due(22, "the first of them", x.first(), 10);
        x.promise(1, 0);
        due(21, "both are", x.leave(), 0);
        due(22, "both are", x.first(), NONE);
        x.girl(2, 0, 1);
        due(21, "as near, but of a greater number", x.leave(), 0);
        x.wind(4, 5, 0, 0);
        due(21, "none is least of all", x.leave(), 1);
        due(22, "none is least of all", x.first(), 22);
        WindBrides y = new WindBrides();
        y.girl(4, 0, 9);
        y.wind(4, 9, 0, 15);
        y.wind(0, 9, 0, 15);
        y.promise(0, 0);
        due(21, "early ones all GAIN nothing", y.leave(), 0);
        y.month();
        y.month();
        y.month();
        due(21, "later ones do", y.leave(), 1);
        due(22, "later ones do", y.first(), 1);
    }

    private static void keptOnes() {
        WindBrides x = crossed();
        due(23, "hers", x.kept(0), 1);
        due(23, "the other one's", x.kept(1), 0);
        x.girl(2, 0, 1);
        due(23, "two WINDS for three", x.kept(2), 6);
        x.wind(2, 1, 0, 0);
        due(23, "a third one", x.kept(2), 2);
        due(23, "no girl", x.kept(3), BAD);
        due(23, "girl -1", x.kept(-1), BAD);
        due(23, "nothing changed", x.girlOf(0, 3), 0);
        WindBrides y = new WindBrides();
        y.girl(3, 0, 1);
        due(23, "no WIND", y.kept(0), 6);
        // both want WIND 0, which is as near to both; WINDS would have them the other way round
        y.girl(3, 4, 1);
        y.wind(2, 9, 0, 0);
        y.wind(4, 5, 0, 0);
        due(23, "the lesser number", y.kept(0), 0);
        due(23, "what is left", y.kept(1), 1);
    }

    private static void rings() {
        WindBrides x = crossed();
        due(24, "two swap", x.ring(0), 2);
        due(24, "two swap", x.ring(1), 2);
        x.promise(0, -1);
        due(24, "who has none", x.ring(0), NONE);
        due(24, "who is left alone", x.ring(1), NONE);
        due(24, "no girl", x.ring(2), BAD);
        due(24, "girl -1", x.ring(-1), BAD);
        WindBrides y = new WindBrides();
        // each is nearest to the next one's WIND, and then to her own
        int[] houses = {2, 5, 7};
        int[] points = {0, 3, 5};
        for (int i = 0; i < 3; i++) {
            y.girl(4, houses[i], 9);
            y.wind(points[i], 9, 15, 15);
            y.promise(i, i);
        }
        due(24, "early: all GAIN alike", y.ring(0), NONE);
        y.month();
        y.month();
        y.month();
        for (int i = 0; i < 3; i++) {
            due(24, "a ring of three", y.ring(i), 3);
        }
        y.girl(4, 2, 9);
        y.promise(3, 0);
        due(24, "who shares a WIND of the ring", y.ring(3), 3);
        y.girl(4, 0, 9);
        y.wind(4, 1, 15, 15);
        y.promise(4, 3);
        due(24, "who wants in, but is wanted by nobody", y.ring(4), NONE);
    }

    private static void plans() {
        WindBrides x = new WindBrides();
        // both are promised to one WIND; who comes second is worn out, unless the first one is hidden
        x.girl(2, 4, 1);
        x.girl(2, 0, 1);
        x.wind(0, 5, 0, 15);
        x.promise(0, 0);
        x.promise(1, 0);
        due(25, "best 0", x.best(0), 0);
        due(25, "best 1", x.best(1), 5);
        due(25, "best 4", x.best(4), 20);
        due(25, "best 5", x.best(5), BAD);
        due(25, "best -1", x.best(-1), BAD);
        for (int i = 0; i < 4; i++) {
            due(26, "hide her each month", x.ith(4, i), 1);
        }
        due(26, "no fifth", x.ith(4, 4), BAD);
        due(26, "no -1st", x.ith(4, -1), BAD);
        due(26, "n 5", x.ith(5, 0), BAD);
        due(26, "it has but two", x.ith(2, 2), NONE);
        due(27, "one way", x.ways(4), 1);
        due(27, "of nothing", x.ways(0), 1);
        due(27, "n 5", x.ways(5), BAD);
        due(27, "n -1", x.ways(-1), BAD);
        due(25, "nothing went by", x.state(0), 0);
        x.promise(0, -1);
        due(27, "nobody or she", x.ways(1), 2);
        due(27, "in both months", x.ways(2), 4);
        due(26, "the lesser ACT", x.ith(2, 1), 0);
        x.ends(3);
        x.month();
        due(25, "fewer", x.best(4), 10);
        due(26, "fewer", x.ith(4, 2), NONE);
        x.month();
        x.month();
        due(25, "OVER", x.best(4), 0);
        due(26, "OVER", x.ith(4, 0), NONE);
        due(27, "OVER", x.ways(4), 1);
        due(27, "nobody is there", new WindBrides().ways(4), 1);
    }

    private static void bounds() {
        WindBrides x = new WindBrides();
        x.girl(2, 0, 1);
        x.girl(2, 0, 2);
        x.girl(2, 0, 9);
        x.wind(0, 1, 15, 15);
        x.promise(0, 0);
        x.promise(1, 0);
        due(28, "of nobody", x.bound(4, 0), 0);
        due(28, "now", x.bound(0, 3), 0);
        due(28, "who has none", x.bound(0, 4), NONE);
        due(28, "one ACT a month", x.bound(4, 1), 4);
        due(28, "a month goes without", x.bound(4, 2), 3);
        due(28, "both, in two months", x.bound(2, 3), NONE);
        due(28, "both, in one", x.bound(1, 3), 1);
        due(28, "a girl that isn't", x.bound(1, 8), BAD);
        due(28, "a set below 0", x.bound(1, -1), BAD);
        due(28, "n 5", x.bound(5, 0), BAD);
        due(28, "n -1", x.bound(-1, 0), BAD);
        due(29, "each by some plan", x.bars(4, 3), NONE);
        due(29, "who has none", x.bars(4, 7), 2);
        due(29, "of nobody", x.bars(4, 0), NONE);
        x.promise(0, -1);
        due(29, "the least", x.bars(4, 7), 0);
        due(29, "but of the told ones", x.bars(4, 6), 2);
        due(29, "a girl that isn't", x.bars(1, 8), BAD);
        due(29, "a set below 0", x.bars(1, LOW), BAD);
        due(29, "n 5", x.bars(5, 0), BAD);
        due(29, "n -1", x.bars(-1, 0), BAD);
    }

    private static void games() {
        WindBrides x = new WindBrides();
        x.girl(2, 4, 9);
        x.girl(2, 0, 9);
        x.wind(0, 5, 0, 15);
        x.promise(0, 0);
        x.promise(1, 0);
        due(30, "the first one hides the farther one", x.game(1), 5);
        due(31, "the first one hides the farther one", x.play(1), 1);
        due(30, "the other one hides nobody, or the nearer one", x.game(2), 8);
        due(30, "in turn", x.game(4), 16);
        due(31, "the least ACT", x.play(4), 1);
        x.promise(0, -1);
        due(30, "the other one hides her", x.game(2), 5);
        due(31, "nobody is as good", x.play(2), 0);
        x.promise(0, 0);
        due(31, "as it is now", x.play(2), 1);
        x.promise(0, -1);
        x.ends(1);
        due(30, "but one month", x.game(4), 5);
        for (int n : new int[] {0, 5, -1}) {
            due(30, "game " + n, x.game(n), BAD);
            due(31, "play " + n, x.play(n), BAD);
        }
        x.month();
        due(30, "OVER", x.game(2), 0);
        due(31, "OVER", x.play(2), NONE);
        due(31, "bad ahead of OVER", x.play(0), BAD);
    }

    private static void reports() {
        WindBrides x = new WindBrides();
        due(34, "all FIT", x.span(0), 72);
        due(34, "the least POINT", x.span(1), 0);
        due(34, "the least FORCE", x.span(2), 1);
        due(35, "nobody lies", x.liar(), NONE);
        int[][] bad = {{0, 0, 0, 0}, {6, 0, 0, 0}, {1, -1, 0, 0}, {1, 8, 0, 0}, {1, 0, -1, 0}, {1, 0, 0, 100}, {1, 0, 5, 4}, {1, 0, 100, 100}};
        for (int[] b : bad) {
            due(32, "a bad report", x.report(b[0], b[1], b[2], b[3]), BAD);
        }
        due(32, "report", x.report(4, 3, 9, 9), 0);
        due(34, "only one FITS", x.span(0), 1);
        due(34, "its POINT", x.span(1), 3);
        due(34, "its FORCE", x.span(2), 9);
        due(34, "what 3", x.span(3), BAD);
        due(34, "what -1", x.span(-1), BAD);
        due(32, "report", x.report(1, 3, 4, 99), 1);
        due(34, "still", x.span(0), 1);
        due(32, "report", x.report(2, 7, 0, 6), 2);
        due(34, "none", x.span(0), 0);
        due(34, "none", x.span(1), NONE);
        due(34, "none", x.span(2), NONE);
        due(35, "the least but for which some would", x.liar(), 0);
        due(32, "report", x.report(1, 3, 0, 0), 3);
        due(35, "but for each of them none", x.liar(), NONE);
        x.report(1, 0, 0, 99);
        due(32, "the sixth", x.report(1, 0, 99, 99), 5);
        due(32, "the seventh", x.report(1, 0, 0, 0), FULL);
        due(32, "a bad seventh", x.report(1, 0, 1, 0), BAD);
        due(33, "forget", x.forget(), 6);
        due(33, "none are left", x.forget(), 0);
        due(33, "all FIT", x.span(0), 72);
    }

    private static void lots() {
        WindBrides x = new WindBrides();
        x.girl(2, 0, 9);
        x.wind(0, 5, 0, 15);
        x.promise(0, 0);
        x.ends(2);
        // z: 2, -2087924461, 1495354192: without their lower 16 bits they leave 0 and 1 by 2
        due(36, "z at first", x.seed(2), 1);
        due(38, "of the first time", x.often(1, 5), 1);
        due(38, "more", x.often(1, 6), 0);
        due(38, "z stays", x.seed(2), 2);
        due(37, "nobody is hidden", x.lot(), 5);
        due(36, "z", x.seed(-2087924461), -2087924461);
        due(37, "she is hidden", x.lot(), 0);
        due(36, "z", x.seed(LOW), 1495354192);
        due(37, "SCORE", x.state(2), 5);
        due(37, "OVER", x.lot(), STATE);
        due(37, "z stays", x.seed(7), LOW);
        due(38, "OVER: 0 or more", x.often(40, 0), 40);
        due(38, "OVER: 1 or more", x.often(40, 1), 0);
        due(38, "n 0", x.often(0, 1), BAD);
        due(38, "n 41", x.often(41, 1), BAD);
        due(38, "v -1", x.often(1, -1), BAD);
        due(38, "v 1000", x.often(1, 1000), BAD);
        x.anew();
        x.ends(1);
        int z = 7;
        int times = 0;
        for (int i = 0; i < 40; i++) {
            z = z * 1103515245 + 12345;
            times += (z >>> 16) % 2 == 0 ? 1 : 0;
        }
        due(38, "z goes on from one to the next", x.often(40, 5), times);
        due(38, "nothing went by", x.state(0), 0);
    }

    private static void rows() {
        WindBrides x = new WindBrides();
        x.girl(2, 4, 1);
        x.girl(2, 0, 1);
        x.wind(0, 5, 0, 15);
        x.promise(0, 0);
        x.promise(1, 0);
        due(39, "prove 5", x.prove(5), BAD);
        due(39, "prove -1", x.prove(-1), BAD);
        due(39, "prove 2", x.prove(2), 2);
        due(40, "ACT", x.row(1, 0), 1);
        due(40, "WORTH", x.row(1, 1), 5);
        due(40, "promised", x.row(1, 2), 3);
        due(40, "no row 2", x.row(2, 0), -9);
        due(40, "no row -1", x.row(-1, 0), -9);
        due(40, "what 3", x.row(0, 3), -9);
        due(40, "what -1", x.row(0, -1), -9);
        due(42, "all right", x.judge(), 0);
        for (int what = 0; what < 3; what++) {
            int was = x.row(1, what);
            due(41, "alterRow", x.alterRow(1, what, 77), was);
            due(41, "it is 77", x.row(1, what), 77);
            due(42, "row 1 is wrong", x.judge(), 2);
            due(41, "back again", x.alterRow(1, what, was), 77);
            due(42, "right again", x.judge(), 0);
        }
        x.alterRow(0, 0, 2);
        due(42, "an ACT, but it gives less", x.judge(), 1);
        due(41, "no row 2", x.alterRow(2, 0, 0), -9);
        due(41, "what 3", x.alterRow(0, 3, 0), -9);
        due(41, "row -1", x.alterRow(-1, 0, 0), -9);
        x.prove(2);
        x.ends(1);
        due(42, "OVER at row 1", x.judge(), 2);
        due(39, "fewer", x.prove(4), 1);
        x.month();
        due(42, "OVER", x.judge(), 1);
        due(39, "none", x.prove(4), 0);
        due(42, "no rows: all is right", x.judge(), 0);
        due(40, "none", x.row(0, 0), -9);
    }

    private static void sheets() {
        WindBrides x = new WindBrides();
        for (int sheet = 0; sheet < 4; sheet++) {
            due(43, "each is apart", x.sheet(sheet, 2, 40), 1);
            due(44, "each is apart", x.write(sheet, 0, sheet + 1) + x.write(sheet, 39, -sheet), 2);
        }
        for (int sheet = 0; sheet < 4; sheet++) {
            due(45, "each is apart", x.item(sheet, 2, 0) * 10 + x.item(sheet, 2, 39), 9 * sheet + 10);
        }
        due(43, "sheet 4", x.sheet(4, 0, 1), BAD);
        due(43, "sheet -1", x.sheet(-1, 0, 1), BAD);
        due(43, "sort 5", x.sheet(0, 5, 1), BAD);
        due(43, "sort -2", x.sheet(0, -2, 1), BAD);
        due(43, "41 items", x.sheet(0, 0, 41), BAD);
        due(43, "below 0", x.sheet(0, 0, -1), -14);
        due(43, "bad ahead of below 0", x.sheet(0, 5, -1), BAD);
        due(43, "missing, n counts nothing", x.sheet(0, -1, 999), 1);
        due(43, "missing, n counts nothing", x.sheet(0, -1, -999), 1);
        due(44, "missing", x.write(0, 0, 0), -11);
        due(44, "sheet 4", x.write(4, 0, 0), BAD);
        int[] narrowed = {-56, -14136, 1231931592, 1231931592, 1};
        for (int sort = 0; sort <= 4; sort++) {
            due(43, "40 items", x.sheet(1, sort, 40), 1);
            due(45, "all 0", x.item(1, sort, 39), 0);
            due(44, "write", x.write(1, 39, 1231931592), 1);
            due(45, "narrowed", x.item(1, sort, 39), narrowed[sort]);
            due(44, "write", x.write(1, 0, -1), 1);
            due(45, "-1", x.item(1, sort, 0), sort == 4 ? 1 : -1);
            due(44, "write", x.write(1, 0, 0), 1);
            due(45, "0", x.item(1, sort, 0), 0);
            due(44, "outside", x.write(1, 40, 1), -12);
            due(44, "outside", x.write(1, -1, 1), -12);
            due(45, "outside", x.item(1, sort, 40), -12);
            due(45, "outside", x.item(1, sort, -1), -12);
            due(45, "another sort", x.item(1, (sort + 1) % 5, 99), -13);
        }
        due(44, "write", x.write(1, 5, 256), 1);
        due(45, "256 is not 0", x.item(1, 4, 5), 1);
        x.write(1, 0, 1);
        due(43, "a new row", x.sheet(1, 4, 6), 1);
        due(43, "is all 0", x.item(1, 4, 0), 0);
        due(43, "is all 0", x.item(1, 4, 5), 0);
        due(45, "sort 5", x.item(1, 5, 0), BAD);
        due(45, "sort -1", x.item(1, -1, 0), BAD);
        due(45, "sheet 4", x.item(4, 0, 0), BAD);
        due(45, "missing", x.item(0, 0, 99), -11);
        due(43, "no items", x.sheet(2, 2, 0), 1);
        due(45, "no items", x.item(2, 2, 0), -12);
    }

    private static void goingAll() {
        WindBrides x = new WindBrides();
        x.girl(2, 0, 9);
        x.wind(0, 5, 0, 15);
        x.promise(0, 0);
        x.sheet(0, 0, 5);
        int[] acts = {0, 1, 2, -1, 0};
        for (int i = 0; i < 5; i++) {
            x.write(0, i, acts[i]);
        }
        x.sheet(1, 1, 5);
        due(47, "two", x.wouldBe(0, 0, 2), 5);
        due(47, "none", x.wouldBe(0, 99, 0), 0);
        due(47, "no ACT", x.wouldBe(0, 0, 3), STATE);
        due(47, "no ACT below 0", x.wouldBe(0, 3, 1), STATE);
        due(47, "outside behind", x.wouldBe(0, 4, 2), -12);
        due(47, "outside ahead", x.wouldBe(0, -1, 2), -12);
        due(47, "no ACT comes first", x.wouldBe(0, 3, 9), STATE);
        due(47, "n 21", x.wouldBe(0, 0, 21), BAD);
        due(47, "n -1", x.wouldBe(0, 0, -1), BAD);
        due(47, "sheet 4", x.wouldBe(4, 0, 1), BAD);
        due(47, "shorts", x.wouldBe(1, 0, 1), -13);
        due(47, "missing", x.wouldBe(2, 0, 0), -11);
        due(47, "nothing went by", x.state(0), 0);
        due(46, "n 21", x.goAll(0, 0, 21), BAD);
        due(46, "n -1", x.goAll(0, 0, -1), BAD);
        due(46, "sheet -1", x.goAll(-1, 0, 1), BAD);
        due(46, "shorts", x.goAll(1, 0, 0), -13);
        due(46, "missing", x.goAll(2, 0, 0), -11);
        due(46, "none", x.goAll(0, HIGH, 0), 0);
        due(46, "outside", x.goAll(0, HIGH, 2), -12);
        due(46, "outside", x.goAll(0, -1, 2), -12);
        due(46, "all", x.goAll(0, 0, 5), 10);
        due(46, "three went by", x.state(0), 3);
        due(46, "what stood ahead was done", x.goAll(0, 4, 2), -12);
        due(46, "one more", x.state(0) * 100 + x.state(2), 415);
        x.ends(5);
        due(47, "OVER ahead of it", x.wouldBe(0, 0, 2), STATE);
        due(46, "OVER: left out", x.goAll(0, 0, 5), 5);
        due(46, "OVER", x.state(0), 5);
        due(46, "OVER: outside all the same", x.goAll(0, 4, 2), -12);
    }

    private static void shelves() {
        WindBrides x = new WindBrides();
        x.keep();
        for (int kind = 1; kind <= 5; kind++) {
            x.girl(kind, 0, 1);
        }
        due(48, "shelf 4", x.shelf(4, 2, 0), BAD);
        due(48, "shelf -1", x.shelf(-1, 2, 0), BAD);
        due(48, "what 3", x.shelf(0, 3, 0), BAD);
        due(48, "what -1", x.shelf(0, -1, 0), BAD);
        due(48, "no girl", x.shelf(0, 0, 5), BAD);
        due(48, "girl -1", x.shelf(0, 0, -1), BAD);
        due(48, "no sheet", x.shelf(0, 1, 4), BAD);
        due(48, "sheet -1", x.shelf(0, 1, -1), BAD);
        // of each KIND 1 to 5 the set of KINDS for which it can be taken
        int[] above = {3, 5, 13, 17, 49};
        for (int g = 0; g < 5; g++) {
            due(48, "a girl", x.shelf(0, 0, g), 1);
            for (int as = 0; as <= 5; as++) {
                due(49, "kind " + (g + 1) + " as " + as, x.taken(0, as), (above[g] >> as & 1) == 1 ? g : -13);
            }
            due(49, "as a row", x.taken(0, 10), -13);
        }
        for (int as : new int[] {-1, 6, 9, 15}) {
            due(49, "as " + as, x.taken(0, as), BAD);
        }
        due(49, "shelf 4", x.taken(4, 0), BAD);
        due(49, "shelf -1", x.taken(-1, 0), BAD);
        due(49, "nothing", x.taken(1, 0), -11);
        due(48, "a missing row", x.shelf(1, 1, 0), 1);
        due(49, "a missing row", x.taken(1, 10), -11);
        x.sheet(0, 3, 7);
        due(48, "a row", x.shelf(1, 1, 0), 1);
        due(49, "a row of longs", x.taken(1, 13), 7);
        due(49, "not of bytes", x.taken(1, 10), -13);
        due(49, "no girl", x.taken(1, 0), -13);
        x.sheet(0, 0, 2);
        due(49, "the row that was", x.taken(1, 13), 7);
        due(48, "nothing", x.shelf(1, 2, 99), 1);
        due(49, "nothing", x.taken(1, 13), -11);
        x.remake(4, 1);
        due(49, "she is of another KIND now", x.taken(0, 5), -13);
        due(49, "she is of another KIND now", x.taken(0, 1), 4);
        x.again();
        due(49, "she isn't there", x.taken(0, 1), -11);
        due(50, "she isn't there", x.act(0, 0, 1), 0);
        for (int i = 0; i < 5; i++) {
            x.girl(2, 0, 1);
        }
        due(49, "another one bears her number", x.taken(0, 2), 4);
    }

    private static void acts() {
        WindBrides x = new WindBrides();
        for (int kind = 1; kind <= 5; kind++) {
            x.girl(kind, 0, 7);
        }
        // by hand, x = 20: sails, calls, shares, weds of girls 0 to 4, all with DOWRY 7
        int[][] answers = {
            {58, 65, 6, 59}, {59, 67, 2, 65}, {61, 70, 0, 101}, {57, 64, 0, 64}, {56, -62, 12, -74}
        };
        for (int g = 0; g < 5; g++) {
            x.shelf(0, 0, g);
            for (int act = 0; act < 4; act++) {
                due(50, "act " + act + " of " + g, x.act(0, act, 20), answers[g][act]);
            }
        }
        x.shelf(0, 0, 3);
        due(50, "below 0, if x is", x.act(0, 2, -21), -2);
        due(50, "it wraps", x.act(0, 0, HIGH), HIGH * 3 - 3);
        x.change(2, 2, 2);
        x.shelf(1, 0, 2);
        due(50, "sails doesn't part", x.act(1, 0, 5), 16);
        due(50, "parted by 0", x.act(1, 2, 5), -15);
        due(50, "parted by 0", x.act(1, 3, 5), -15);
        x.change(0, 2, 1);
        x.shelf(1, 0, 0);
        due(50, "by -1", x.act(1, 2, LOW), 0);
        due(50, "no shelf", x.act(4, 0, 1), 0);
        due(50, "shelf -1", x.act(-1, 0, 1), 0);
        due(50, "act 4", x.act(0, 4, 1), 0);
        due(50, "act -1", x.act(0, -1, 1), 0);
        due(50, "nothing", x.act(2, 0, 1), 0);
        x.sheet(0, 0, 1);
        x.shelf(2, 1, 0);
        due(50, "a row", x.act(2, 0, 1), 0);
    }

    private static void traced(WindBrides x, String call, int... bodies) {
        due(52, "many bodies of " + call, x.many(6), bodies.length);
        for (int i = 0; i < bodies.length; i++) {
            due(51, "trace(" + i + ") of " + call, x.trace(i), bodies[i]);
        }
        due(51, "the end of " + call, x.trace(bodies.length), NONE);
        due(51, "-1 of " + call, x.trace(-1), NONE);
    }

    private static void traces() {
        WindBrides x = new WindBrides();
        traced(x, "nothing yet");
        for (int kind = 1; kind <= 5; kind++) {
            x.girl(kind, 0, 7);
        }
        x.shelf(0, 0, 0);
        x.act(0, 3, 1);
        traced(x, "weds of shared", 13, 11, 20, 10, 12);
        x.shelf(0, 0, 1);
        x.act(0, 1, 1);
        traced(x, "calls of bred", 30, 11, 10);
        x.shelf(0, 0, 2);
        x.act(0, 3, 1);
        traced(x, "weds of twice", 51, 13, 30, 11, 50, 10, 12, 30, 11, 50, 10);
        x.shelf(0, 0, 3);
        x.act(0, 3, 1);
        traced(x, "weds of late", 13, 11, 10, 40, 12);
        x.shelf(0, 0, 4);
        x.act(0, 3, 1);
        traced(x, "weds of calm", 13, 60, 11, 10, 61, 40, 12, 10);
        x.change(4, 2, 4);
        x.act(0, 2, 1);
        traced(x, "shares of calm, parted by 0", 61, 40, 12);
        x.act(0, 4, 1);
        traced(x, "no such act");
        x.act(0, 0, 1);
        traced(x, "sails of calm", 10);
        x.act(3, 0, 1);
        traced(x, "nothing");
    }

    private static void many() {
        WindBrides x = new WindBrides();
        x.girl(1, 0, 1);
        x.girl(1, 0, 1);
        x.girl(1, 0, 1);
        x.wind(0, 1, 0, 0);
        x.wind(0, 1, 0, 0);
        x.promise(2, 1);
        tell(x, "girl wait; girl wait; girl wait; girl wait;");
        x.report(1, 0, 0, 0);
        x.prove(3);
        x.feed(0, 5);
        x.shelf(0, 0, 0);
        x.act(0, 1, 0);
        int[] due = {3, 4, 2, 1, 3, 5, 3, 1};
        for (int what = 0; what < 8; what++) {
            due(52, "many(" + what + ")", x.many(what), due[what]);
        }
        due(52, "many(8)", x.many(8), BAD);
        due(52, "many(-1)", x.many(-1), BAD);
    }

    private static void keeping() {
        WindBrides x = onePair();
        x.month();
        tell(x, "girl if month=1 leave;");
        x.report(1, 1, 1, 1);
        x.seed(77);
        x.ends(9);
        x.feed(' ', 1);
        due(53, "keep", x.keep(), 1);
        x.remake(0, 5);
        x.change(0, 1, 7);
        x.change(0, 2, 8);
        x.girl(1, 1, 1);
        x.wind(1, 1, 1, 1);
        x.shelf(0, 0, 1);
        x.act(0, 0, 1);
        x.month();
        x.month();
        tell(x, "girl if month=2 wait; girl if house>6 and dowry<9 turn;");
        x.forget();
        x.report(2, 2, 2, 2);
        x.report(3, 3, 3, 3);
        x.seed(5);
        x.ends(4);
        x.prove(1);
        x.sheet(0, 0, 3);
        x.feed('g', 1);
        for (int i = 0; i < 2; i++) {
            due(54, "again", x.again(), 1);
            due(54, "KIND", x.girlOf(0, 0), 2);
            due(54, "HOUSE", x.girlOf(0, 1), 0);
            due(54, "DOWRY", x.girlOf(0, 2), 2);
            due(54, "WIND", x.girlOf(0, 3), 0);
            due(54, "FAITH", x.girlOf(0, 4), 2);
            due(54, "RULES", x.girlOf(0, 5), 2);
            due(54, "MONTH", x.state(0), 1);
            due(54, "END", x.state(1), 9);
            due(54, "SCORE", x.state(2), 5);
            due(54, "z", x.seed(6), 77);
            due(54, "WINDS", x.many(2), 1);
            due(54, "how many RULES", x.many(1), 1);
            due(54, "REPORTS", x.many(3), 1);
            due(54, "what was reported", x.span(1), 0);
            due(54, "ROWS are not kept", x.many(4), 1);
            due(54, "nor is THE TAPE", x.many(5), 1);
            due(54, "nor are SHEETS", x.item(0, 0, 2), 0);
            due(54, "nor is THE TRACE", x.trace(0), 20);
            x.anew();
            x.promise(0, -1);
            x.change(0, 2, 9);
        }
        due(53, "keep", x.keep(), 1);
        x.promise(0, 0);
        due(54, "the latest", x.again(), 1);
        due(54, "the latest", x.girlOf(0, 3), 6);
        due(54, "nothing is kept", new WindBrides().again(), NONE);
    }
}
