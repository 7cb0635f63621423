/** Promises 10 to 12: THE TAPE, TEXTS with their FAULTS, THE RULE. */
public final class TextsTest {
    private static final Due DUE = new Due();

    private static void feeds() {
        CushionHall x = new CushionHall();
        DUE.by("BAD: n is not 1 .. 8. FULL.");
        for (int bad : new int[] {0, -1, 9, Integer.MIN_VALUE, Integer.MAX_VALUE}) DUE.is("feed(" + bad + ")", x.feed(bad, 1), -2);
        DUE.is("count after BAD", x.count(4), 0);
        DUE.by("A TEXT is read from THE TAPE (160 bytes at most).");
        for (int i = 1; i <= 19; i++) DUE.is("feed", x.feed(8, 0x2020202020202020L), 8 * i);
        DUE.is("feed 7", x.feed(7, 0x20202020202020L), 159);
        DUE.is("feed 2 with room for 1", x.feed(2, 0x2020), -4);
        DUE.is("feed 9 with room for 1", x.feed(9, 0x2020), -2);
        DUE.is("count", x.count(4), 159);
        DUE.is("feed 1", x.feed(1, 0x20), 160);
        DUE.is("feed 1 more", x.feed(1, 0x20), -4);
        DUE.is("160 blanks end too early", x.text(), -260);
        DUE.is("count", x.count(4), 0);
        Due.feed(x, "late " + "1+".repeat(71) + "1;leave 0;");
        DUE.is("as many as there may be", x.count(4), 157);
        DUE.is("feed 3", x.feed(3, 0x200a20), 160);
        DUE.is("a TEXT of 160 bytes", x.text(), 1);
        x.hall(10, 2, 2);
        x.night(0, 0, 0, 1, 9);
        x.force(1);
        DUE.is("its late", x.told(0, 7), 72);
    }

    private static void lowestBytes() {
        CushionHall x = new CushionHall();
        DUE.by("The n lowest bytes of a number, the lowest first, come behind THE TAPE: how many it has.");
        // those above the n lowest don't come: "late" and then none of "XXXX"
        DUE.is("feed 4 of 8", x.feed(4, 0x585858586574616cL), 4);
        Due.feed(x, " 1;leave 0;");
        DUE.is("text", x.text(), 1);
        for (int n = 1; n <= 8; n++) {
            // n blanks, and in the bytes above them a sign that begins no TOKEN
            long blanks = 0x2020202020202020L >>> (64 - 8 * n);
            DUE.is("feed " + n, x.feed(n, n == 8 ? blanks : blanks | 0x3fL << (8 * n)), n);
            DUE.is("its size", x.text(), -100 - n);
            DUE.is("a byte of 255 as the last of " + n, x.feed(n, blanks & ~(255L << (8 * n - 8)) | 255L << (8 * n - 8)), n);
            DUE.is("its FAULT", x.text(), -100 - n + 1);
        }
        DUE.is("of a number below 0", x.feed(1, -1), 1);
        DUE.is("its FAULT", x.text(), -100);
    }

    private static void room() {
        CushionHall x = new CushionHall();
        DUE.by("There are 6 TEXTS at most, TEXT 0 with them.");
        DUE.is("TEXTS at first", x.count(3), 1);
        for (int i = 1; i < 6; i++) DUE.is("text " + i, Due.read(x, "late " + i + " ; leave 0 ;"), i);
        DUE.by("FULL (ahead of all): no TEXT more has room (THE TAPE stays).");
        DUE.is("no room, and nothing on THE TAPE", x.text(), -4);
        Due.feed(x, "late ?");
        DUE.is("no room, ahead of a FAULT", x.text(), -4);
        DUE.is("THE TAPE stays", x.count(4), 6);
        DUE.is("TEXTS", x.count(3), 6);
        DUE.is("the last one", x.force(5), 0);
        DUE.is("one more", x.force(6), -2);
    }

    private static void emptied() {
        CushionHall x = new CushionHall();
        DUE.by("THE TAPE, which is empty then (by a FAULT, too), is a TEXT: its number; -100 less the place of its FAULT.");
        DUE.is("nothing on THE TAPE", x.text(), -100);
        DUE.is("a TEXT", Due.read(x, "late 1;leave 0;"), 1);
        DUE.is("THE TAPE", x.count(4), 0);
        DUE.is("nothing on it again", x.text(), -100);
        DUE.is("a FAULT", Due.read(x, "late 1;leave;"), -112);
        DUE.is("THE TAPE", x.count(4), 0);
        DUE.is("what was read ahead of a FAULT is gone", Due.read(x, "0;"), -100);
        DUE.is("TEXTS", x.count(3), 2);
        DUE.is("the next TEXT", Due.read(x, "late 2;leave 0;"), 2);
    }

    private static void force() {
        CushionHall x = new CushionHall();
        x.hall(10, 2, 2);
        x.night(0, 0, 0, 5, 4);
        DUE.by("A TEXT is THE RULE: which was. BAD.");
        for (int bad : new int[] {-1, 1, Integer.MIN_VALUE, Integer.MAX_VALUE}) DUE.is("force(" + bad + ")", x.force(bad), -2);
        DUE.is("THE RULE after BAD", x.count(5), 0);
        Due.read(x, "late 17; leave 1;");
        DUE.is("a TEXT alone rules nothing", x.told(0, 7), 8);
        DUE.is("force", x.force(1), 0);
        DUE.is("THE RULE", x.count(5), 1);
        DUE.is("late", x.told(0, 7), 17);
        DUE.is("leave", x.told(0, 10), 1);
        DUE.is("LEFT OUT", x.count(6), 1);
        DUE.is("force again", x.force(1), 1);
        DUE.is("force back", x.force(0), 1);
        DUE.is("late", x.told(0, 7), 8);
        DUE.is("leave", x.told(0, 10), 0);
    }

    private static void firstRule() {
        CushionHall x = new CushionHall();
        x.hall(10, 2, 2);
        DUE.by("TEXT 0, at first THE RULE, is: late tired * 2 ; leave time = 0 ;");
        DUE.is("THE RULE", x.count(5), 0);
        for (int tired = 0; tired <= 9; tired++) {
            x.night(0, 0, 0, tired % 2, tired);
            DUE.is("late " + tired, x.told(tired, 7), 2 * tired);
            DUE.is("leave " + tired, x.told(tired, 10), tired % 2 == 0 ? 1 : 0);
        }
        DUE.by("leave: whether the NIGHT is LEFT OUT of what all NIGHTS say");
        DUE.is("LEFT OUT", x.count(6), 5);
    }

    /** A FAULT at a place; THE TAPE is empty then, and no TEXT came. */
    private static void fault(String text, int place) {
        CushionHall x = new CushionHall();
        DUE.is("«" + text + "»", Due.read(x, text), -100 - place);
        DUE.is("THE TAPE behind «" + text + "»", x.count(4), 0);
        DUE.is("TEXTS behind «" + text + "»", x.count(3), 1);
    }

    private static void fine(String text) {
        DUE.is("«" + text + "»", Due.read(new CushionHall(), text), 1);
    }

    private static void tooEarly() {
        DUE.by("(the text's size, if it ends too early)");
        fault("", 0);
        fault(" ", 1);
        fault("late", 4);
        fault("late ", 5);
        fault("late 1", 6);
        fault("late 1 \n ", 9);
        fault("late 1;", 7);
        fault("late 1 +", 8);
        fault("late -", 6);
        fault("late not", 8);
        fault("late (1", 7);
        fault("late 1; leave", 13);
        fault("late 1; leave 0", 15);
        fault("late 1; leave 0 ", 16);
    }

    private static void faults() {
        DUE.by("FAULT: the place of the first byte of the first TOKEN that can't stand there");
        fault("  leave 1;", 2);
        fault("1", 0);
        fault(";", 0);
        fault("late 1; late", 8);
        fault("late 1;;", 7);
        fault("late 1; leave 0;;", 16);
        fault("late 1; leave 0; late", 17);
        fault("late 1; leave 0; 1", 17);
        fault("late 1; leave ;", 14);
        DUE.by("TEXT: late E ; leave E ; E: AND { or AND }. AND: NOT { and NOT }. NOT: not NOT, or SUM, perhaps < or = and a SUM.");
        fault("leave 1; late 0;", 0);
        fault("late 1; leave 0; late 1; leave 0;", 17);
        fault("late 1 leave 0;", 7);
        fault("late ;", 5);
        fault("late or 1;", 5);
        fault("late and 1;", 5);
        fault("late < 1;", 5);
        fault("late = 1;", 5);
        fault("late * 1;", 5);
        fault("late 1 or;", 9);
        fault("late 1 and or", 11);
        fault("late 1 +;", 8);
        fault("late 1 *;", 8);
        fault("late 1 <;", 8);
        fault("late 1 2;", 7);
        fault("late 1 many;", 7);
        fault("late many (1);", 10);
        fault("late 1 not 2;", 7);
        fault("late (1) (2);", 9);
        fault("late 1 < 2 < 3;", 11);
        fault("late 1 = 2 = 3;", 11);
        fault("late 1 < 2 = 3;", 11);
        fault("late 1 < not 3;", 9);
        fault("late 1 = not 3;", 9);
        fault("late 1 + not 3;", 9);
        fault("late 1 * not 3;", 9);
        fault("late - not 3;", 7);
        fault("late + 3;", 5);
        fault("late (1;", 7);
        fault("late 1);", 6);
        fault("late ();", 6);
        fault("late late;", 5);
        fault("late leave;", 5);
        fault("late 1; leave late;", 14);
    }

    private static void brokenTokens() {
        DUE.by("also of a byte that begins none");
        fault("?", 0);
        fault("late `;", 5);
        fault("late {;", 5);
        fault("late /;", 5);
        fault("late :;", 5);
        fault("late @;", 5);
        fault("late [;", 5);
        fault("late 1,;", 6);
        fault("late 1>0;", 6);
        fault("late 1 ? 2;", 7);
        fault("late \u00e9;", 5);
        fault("late \u00ff;", 5);
        fault("late \0;", 5);
        fault("late A;", 5);
        fault("late Z;", 5);
        fault("late 1; leave 0; ?", 17);
        fault("late 1; leave 0;\0", 16);
        fault("late 1; leave 0;\u00ff", 16);
        DUE.by("blanks (32, 10) may stand between");
        fault("late 1\t;", 6);
        fault("late 1\r;", 6);
        fault("late 1\u000b;", 6);
        fault("late 1\u001f;", 6);
        fault("late 1!;", 6);
        fault("late 1\u00a0;", 6);
        DUE.by("a WORD that is neither KEY nor NAME");
        fault("late Many;", 5);
        fault("late manyx;", 5);
        fault("late man;", 5);
        fault("late fired;", 5);
        fault("lateleave", 0);
        fault("latez 1;", 0);
        fault("alate 1;", 0);
        fault("mate 1;", 0);
        fault("late (foo 1;leave 0;", 6);
        fault("late -foo 1;leave 0;", 6);
        fault("late not foo 1;leave 0;", 9);
        fault("late 1+foo 1;leave 0;", 7);
        fault("late 1 foo;leave 0;", 7);
        fault("late 1;foo leave 0;", 7);
        fault("late 1;leave foo 0;", 13);
        fault("late 1;leave 0;foo", 15);
        DUE.by("a NUMBER that is too long");
        fault("late 10000;", 5);
        fault("late 00001;", 5);
        fault("late 99999;", 5);
        fault("late 1 12345;", 7);
        fault("late (12345);", 6);
        fault("late 1 ; 12345 ?", 9);
        fault("late " + "0".repeat(99) + ";", 5);
    }

    /** What a byte by itself does behind "late 1" and in front of all. */
    private static void eachByte() {
        String taken = "abcdefghijklmnopqrstuvwxyz0123456789();+-*<= \n";
        for (char b = 0; b < 256; b++) {
            DUE.by("also of a byte that begins none");
            if (taken.indexOf(b) < 0) {
                fault("late 1" + b + "1;leave 0;", 6);
                fault("" + b, 0);
            }
            DUE.by("blanks (32, 10) may stand between");
            if (b == 32 || b == 10) {
                fine("late" + b + "1" + b + ";" + b + b + "leave" + b + "0;" + b);
                fault("" + b, 1);
            }
        }
    }

    private static void spelled() {
        DUE.by("NUMBERS (as many digits as stand there, 4 at most)");
        fine("late 9999 ; leave 0000;");
        fine("late 0;leave 0;");
        fault("late 123 4;leave 0;", 9);
        DUE.by("TOKENS, each as long as can be");
        fine("late many-1;leave not(kind=0)and time<5or tired;");
        fine("late 12*many;leave 0;");
        fault("late 12many;leave 0;", 7);
        fault("late many12;leave 0;", 9);
        fault("late manytime;leave 0;", 5);
        fault("late notmany;leave 0;", 5);
        DUE.by("WORDS (a .. z)");
        fine("late kind+hall;leave pitch or many and time < tired;");
        fault("late many`;", 9);
        fault("late many{;", 9);
        fault("late manY;", 5);
        DUE.by("SIGNS ( ) ; + - * < =");
        fine("late(1)+1-1*1;leave 1<1;");
        fine("late 1=1;leave 1=(1)-(1);");
        for (String sign : new String[] {"\u0027", ",", "/", ":", ">", "[", "]", ".", "!", "&", "|", "~"}) {
            fault("late 1" + sign + "1;leave 0;", 6);
        }
        DUE.by("blanks (32, 10) may stand between");
        fine("late 1;leave 0;");
        fine(" \n late\n1 ;leave 0; \n ");
    }

    /** Five of ( , not, - may be open, and a sixth is a FAULT. */
    private static void depths() {
        DUE.by("a ( , a not, a - ahead of a ONE while 5 of these are open");
        fine("late (((((1))))) ; leave 0;");
        fault("late ((((((1)))))) ; leave 0;", 10);
        fine("late -----1 ; leave 0;");
        fault("late ------1 ; leave 0;", 10);
        fine("late not not not not not 1 ; leave 0;");
        fault("late not not not not not not 1 ; leave 0;", 25);
        fine("late not (-(not 1)) ; leave 0;");
        fine("late not (-(not 1)) ; leave 0;");
        fine("late not (-(-1)) ; leave 0;");
        fault("late not (-(not -1)) ; leave 0;", 16);
        fault("late not (-(not (1))) ; leave 0;", 16);
        fault("late not (-(not not 2)) ; leave 0;", 16);
        fault("late not (-(not 1 + -2)) ; leave 0;", 20);
        fault("late 0 ; leave ((((((0))))));", 20);
        fault("late ((((( ; leave 0;", 11);
        fine("late (((((1 - 2 + many - 3))))) ; leave 0;");
        DUE.by("(a ( till its ) , not and - till what they belong to ends)");
        fine("late ((((-1 - -2 * -3)))) ; leave 0;");
        fine("late ((((not 1 < 2 and not 2 or (3))))) ; leave (((((0)))));");
        fine("late ((((not 1 and -2 < -3 or not 4)))) ; leave 0;");
        fine("late -----1 + -----1 * -----1 < -----1 ; leave -----1;");
        fine("late (((((1))))) * (((((2))))) ; leave not not not not not 0 or not not not not not 1;");
        fine("late -(-(-1)) - -(-(-1)) ; leave 0;");
        fault("late -(-(-1)) - -(-(-(1))) ; leave 0;", 21);
        fault("late ((((not 1 < -2)))) ; leave 0;", 17);
        fault("late ((((not 1 * -2)))) ; leave 0;", 17);
        fault("late ((((not 1 - -2)))) ; leave 0;", 17);
        fault("late (((((1 - -2))))) ; leave 0;", 14);
        fine("late (((((1) + (2 - 3))))) ; leave 0;");
        fault("late (((((1) + (2 - (-(-3)))))) ; leave 0;", 20);
    }

    /** What an E is, of a NIGHT with kind 4, hall 1, pitch 2, many 33, time 777, tired 6. */
    private static void value(String e, int want) {
        CushionHall x = new CushionHall();
        x.hall(10, 2, 2);
        x.hall(10, 2, 2);
        x.night(4, 12, 33, 777, 6);
        DUE.is("«" + e + "» is a TEXT", Due.read(x, "late 0;leave " + e + ";"), 1);
        x.force(1);
        DUE.is("leave " + e, x.told(0, 10), want == 0 ? 0 : 1);
        x.force(0);
        DUE.is("«" + e + "» = «" + want + "»", Due.read(x, "late 0;leave (" + e + ") = " + spell(want) + ";"), 2);
        x.force(2);
        DUE.is(e + " = " + want, x.told(0, 10), 1);
    }

    private static String spell(int v) {
        if (v == Integer.MIN_VALUE) return "8192*8192*32";
        if (v == Integer.MAX_VALUE) return "8192*8192*32-1";
        String digits = v < 0 ? "-" + -v : "" + v;
        return Math.abs(v) <= 9999 ? digits : v / 10000 + "*10*1000+" + "(" + v % 10000 + ")";
    }

    private static void truths() {
        DUE.by("of or, and, not, <, = 1 or 0 (what is not 0 is true)");
        int[] each = {0, 1, -1, 7, Integer.MIN_VALUE};
        for (int a : each) {
            value("not " + one(a), a == 0 ? 1 : 0);
            for (int b : each) {
                value(one(a) + " and " + one(b), a != 0 && b != 0 ? 1 : 0);
                value(one(a) + " or " + one(b), a != 0 || b != 0 ? 1 : 0);
                value(one(a) + " < " + one(b), a < b ? 1 : 0);
                value(one(a) + " = " + one(b), a == b ? 1 : 0);
            }
        }
    }

    private static String one(int v) {
        return "(" + spell(v) + ")";
    }

    private static void values() {
        DUE.by("NAMES are kind many pitch hall time tired; late, leave, or, and, not are KEYS.");
        fault("late late;leave 0;", 5);
        fault("late leave;leave 0;", 5);
        fault("late or;leave 0;", 5);
        fault("late and;leave 0;", 5);
        fault("late not;leave 0;", 8);
        fault("kind 1;leave 0;", 0);
        fault("late 1;many 0;", 7);
        DUE.by("Of a NIGHT: kind; many; pitch; hall: its HALL; time: what was heard; tired.");
        value("kind", 4);
        value("hall", 1);
        value("pitch", 2);
        value("many", 33);
        value("time", 777);
        value("tired", 6);
        DUE.by("TERM { + or - TERM }. TERM: ONE { * ONE }. ONE: a NUMBER, a NAME, - ONE, ( E ).");
        value("9999", 9999);
        value("0010", 10);
        value("1 + 2 * 3", 7);
        value("(1 + 2) * 3", 9);
        value("10 - 3 - 2", 5);
        value("10 - (3 - 2)", 9);
        value("-3 * -2", 6);
        value("- 3 + 5", 2);
        value("2 - -3", 5);
        DUE.by("An E is an int (32 bits, wrapping): of or, and, not, <, = 1 or 0 (what is not 0 is true).");
        value("1 < 2", 1);
        value("2 < 2", 0);
        value("-1 < 0", 1);
        value("2 = 2", 1);
        value("2 = 3", 0);
        value("1 + 1 = 2", 1);
        value("not 0", 1);
        value("not 7", 0);
        value("not not 7", 1);
        value("not 1 = 2", 1);
        value("not 1 and 0", 0);
        value("not (1 and 0)", 1);
        value("3 and 5", 1);
        value("3 and 0", 0);
        value("0 or 5", 1);
        value("0 or 0", 0);
        value("1 or 0 and 0", 1);
        value("(1 or 0) and 0", 0);
        value("5 or 1 < 0", 1);
        value("0 and 0 or 1", 1);
        value("8192 * 8192 * 64", 0);
        value("8192 * 8192 * 32", Integer.MIN_VALUE);
        value("8192 * 8192 * 32 - 1 < 0", 0);
        value("-(8192 * 8192 * 32)", Integer.MIN_VALUE);
        value("8192 * 8192 * 32 < 0", 1);
        value("8192 * 8192 * 32 - 1", Integer.MAX_VALUE);
        value("8192 * 8192 * 32 - 1 + 1", Integer.MIN_VALUE);
        value("8192 * 8192 * 16 + 8192 * 8192 * 16", Integer.MIN_VALUE);
        value("0 - 8192 * 8192 * 32", Integer.MIN_VALUE);
        value("8192 * 8192 * 64 or 0", 0);
        value("not (8192 * 8192 * 64)", 1);
        value("-5 or 0", 1);
        value("-5 and 8192 * 8192 * 32", 1);
        value("not -1", 0);
        value("(2 < 3) + (4 = 4) + (0 or 9) + (7 and 7) + (not 0)", 5);
        value("1 < 2 and 2 < 3", 1);
        value("1 = 1 or 0 = 1", 1);
        value("not 0 = 1", 1);
        value("2 * 3 < 7 - 1", 0);
    }

    public static void main(String[] args) {
        feeds();
        lowestBytes();
        room();
        emptied();
        force();
        firstRule();
        tooEarly();
        faults();
        brokenTokens();
        eachByte();
        spelled();
        depths();
        truths();
        values();
        DUE.end();
    }
}
