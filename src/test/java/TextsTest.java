/** Promises 10 to 12: THE TAPE, TEXTS with their FAULTS, THE RULE. */
public final class TextsTest {
    private static final Due DUE = new Due();

    private static void feeds() {
        CushionHall x = new CushionHall();
        for (int bad : new int[] {0, -1, 9, Integer.MIN_VALUE, Integer.MAX_VALUE}) DUE.is("feed(" + bad + ")", x.feed(bad, 1), -2);
        for (int i = 1; i <= 19; i++) DUE.is("feed", x.feed(8, 0x2020202020202020L), 8 * i);
        DUE.is("feed 7", x.feed(7, 0x20202020202020L), 159);
        DUE.is("feed 2 with room for 1", x.feed(2, 0x2020), -4);
        DUE.is("feed 9 with room for 1", x.feed(9, 0x2020), -2);
        DUE.is("count", x.count(4), 159);
        DUE.is("feed 1", x.feed(1, 0x20), 160);
        DUE.is("feed 1 more", x.feed(1, 0x20), -4);
        DUE.is("160 blanks end too early", x.text(), -260);
        DUE.is("count", x.count(4), 0);
        DUE.is("an empty one", x.text(), -100);
        // the lowest byte comes first, and those above the n lowest don't come: "late" and then none of "XXXX"
        DUE.is("feed 4 of 8", x.feed(4, 0x585858586574616cL), 4);
        Due.feed(x, " 1;leave 0;");
        DUE.is("text", x.text(), 1);
    }

    private static void room() {
        CushionHall x = new CushionHall();
        for (int i = 1; i < 6; i++) DUE.is("text " + i, Due.read(x, "late " + i + " ; leave 0 ;"), i);
        Due.feed(x, "late ?");
        DUE.is("no room: FULL ahead of a FAULT", x.text(), -4);
        DUE.is("THE TAPE stays", x.count(4), 6);
        DUE.is("TEXTS", x.count(3), 6);
    }

    private static void force() {
        CushionHall x = new CushionHall();
        x.hall(10, 2, 2);
        x.night(0, 0, 0, 5, 4);
        for (int bad : new int[] {-1, 1, Integer.MIN_VALUE, Integer.MAX_VALUE}) DUE.is("force(" + bad + ")", x.force(bad), -2);
        Due.read(x, "late 17; leave 1;");
        DUE.is("a TEXT alone rules nothing", x.told(0, 7), 8);
        DUE.is("force", x.force(1), 0);
        DUE.is("THE RULE", x.count(5), 1);
        DUE.is("late", x.told(0, 7), 17);
        DUE.is("leave", x.told(0, 10), 1);
        DUE.is("LEFT OUT", x.count(6), 1);
        DUE.is("force again", x.force(1), 1);
        DUE.is("force back", x.force(0), 1);
        DUE.is("late", x.told(0, 7), 8);
        DUE.is("leave", x.told(0, 10), 0);
    }

    /** A FAULT at a place; THE TAPE is empty then, and no TEXT came. */
    private static void fault(String text, int place) {
        CushionHall x = new CushionHall();
        DUE.is("«" + text + "»", Due.read(x, text), -100 - place);
        DUE.is("THE TAPE behind «" + text + "»", x.count(4), 0);
        DUE.is("TEXTS behind «" + text + "»", x.count(3), 1);
    }

    private static void fine(String text) {
        DUE.is("«" + text + "»", Due.read(new CushionHall(), text), 1);
    }

    private static void faults() {
        fault("late", 4);
        fault("  leave 1;", 2);
        fault("1", 0);
        fault("late 1", 6);
        fault("late 1 ", 7);
        fault("late 1;", 7);
        fault("late 1; late", 8);
        fault("late 1; leave", 13);
        fault("late 1; leave 0", 15);
        fault("late 1; leave 0;;", 16);
        fault("late 1; leave 0; late", 17);
        fault("late ;", 5);
        fault("late or 1;", 5);
        fault("late 1 or;", 9);
        fault("late 1 and or", 11);
        fault("late 1 +;", 8);
        fault("late 1 2;", 7);
        fault("late 1 < 2 < 3;", 11);
        fault("late 1 = 2 = 3;", 11);
        fault("late 1 < not 3;", 9);
        fault("late 1 + not 3;", 9);
        fault("late - not 3;", 7);
        fault("late + 3;", 5);
        fault("late (1;", 7);
        fault("late 1);", 6);
        fault("late ();", 6);
        fault("late late;", 5);
        fault("late leave;", 5);
        fault("late Many;", 5);
        fault("late manyx;", 5);
        fault("late man;", 5);
        fault("lateleave", 0);
        fault("latez 1;", 0);
        fault("alate 1;", 0);
        fault("mate 1;", 0);
        fault("late fired;", 5);
        fault("late `;", 5);
        fault("late {;", 5);
        fault("late /;", 5);
        fault("late :;", 5);
        fault("late 1,;", 6);
        fault("late 1>0;", 6);
        fault("late 1 ? 2;", 7);
        fault("late 1\t;", 6);
        fault("late 1\r;", 6);
        fault("late \u00e9;", 5);
        fault("late \0;", 5);
        fault("late 10000;", 5);
        fault("late 00001;", 5);
        fault("late 1 12345;", 7);
        fault("late 1 ; 12345 ?", 9);
    }

    private static void spelled() {
        fine("late 1;leave 0;");
        fine(" \n late\n1 ;leave 0; \n ");
        fine("late many-1;leave not(kind=0)and time<5or tired;");
        fine("late 9999 ; leave 0000;");
        fine("late 12*many;leave 0;");
        fault("late 12many;leave 0;", 7);
    }

    /** Five of ( , not, - may be open, and a sixth is a FAULT. */
    private static void depths() {
        fine("late (((((1))))) ; leave 0;");
        fault("late ((((((1)))))) ; leave 0;", 10);
        fine("late -----1 ; leave 0;");
        fault("late ------1 ; leave 0;", 10);
        fine("late not not not not not 1 ; leave 0;");
        fault("late not not not not not not 1 ; leave 0;", 25);
        fine("late not (-(not 1)) ; leave 0;");
        fault("late not (-(not (1))) ; leave 0;", 16);
        fault("late not (-(not 1 + -2)) ; leave 0;", 20);
        fault("late not (-(not not 2)) ; leave 0;", 16);
        // what they belong to has ended, so that others may open
        fine("late ((((-1 - -2 * -3)))) ; leave 0;");
        fine("late ((((not 1 < 2 and not 2 or (3))))) ; leave (((((0)))));");
        fault("late ((((not 1 < -2)))) ; leave 0;", 17);
        fine("late (((((1 - 2))))) ; leave -(-(-0));");
        fault("late (((((1 - -2))))) ; leave 0;", 14);
    }

    /** What an E is, of a NIGHT with kind 4, hall 1, pitch 2, many 33, time 777, tired 6. */
    private static void value(String e, int want) {
        CushionHall x = new CushionHall();
        x.hall(10, 2, 2);
        x.hall(10, 2, 2);
        x.night(4, 12, 33, 777, 6);
        DUE.is("«" + e + "» is a TEXT", Due.read(x, "late 0;leave " + e + ";"), 1);
        x.force(1);
        DUE.is("leave " + e, x.told(0, 10), want == 0 ? 0 : 1);
        x.force(0);
        DUE.is("«" + e + "» = «" + want + "»", Due.read(x, "late 0;leave (" + e + ") = " + spell(want) + ";"), 2);
        x.force(2);
        DUE.is(e + " = " + want, x.told(0, 10), 1);
    }

    private static String spell(int v) {
        if (v == Integer.MIN_VALUE) return "8192*8192*32";
        String digits = v < 0 ? "-" + -v : "" + v;
        return Math.abs(v) <= 9999 ? digits : v / 10000 + "*10*1000+" + "(" + v % 10000 + ")";
    }

    private static void values() {
        value("kind", 4);
        value("hall", 1);
        value("pitch", 2);
        value("many", 33);
        value("time", 777);
        value("tired", 6);
        value("9999", 9999);
        value("0010", 10);
        value("1 + 2 * 3", 7);
        value("(1 + 2) * 3", 9);
        value("10 - 3 - 2", 5);
        value("10 - (3 - 2)", 9);
        value("-3 * -2", 6);
        value("- 3 + 5", 2);
        value("2 - -3", 5);
        value("1 < 2", 1);
        value("2 < 2", 0);
        value("-1 < 0", 1);
        value("2 = 2", 1);
        value("2 = 3", 0);
        value("1 + 1 = 2", 1);
        value("not 0", 1);
        value("not 7", 0);
        value("not not 7", 1);
        value("not 1 = 2", 1);
        value("not 1 and 0", 0);
        value("not (1 and 0)", 1);
        value("3 and 5", 1);
        value("3 and 0", 0);
        value("0 or 5", 1);
        value("0 or 0", 0);
        value("1 or 0 and 0", 1);
        value("(1 or 0) and 0", 0);
        value("5 or 1 < 0", 1);
        value("0 and 0 or 1", 1);
        value("8192 * 8192 * 64", 0);
        value("8192 * 8192 * 32", Integer.MIN_VALUE);
        value("8192 * 8192 * 32 - 1 < 0", 0);
        value("-(8192 * 8192 * 32)", Integer.MIN_VALUE);
        value("8192 * 8192 * 32 < 0", 1);
    }

    public static void main(String[] args) {
        feeds();
        room();
        force();
        faults();
        spelled();
        depths();
        values();
        DUE.end();
    }
}
