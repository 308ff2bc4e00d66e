/** The boundary cases of promises 1 to 9 and of the document's sections 1 and 2 that they show, one method each. */
public final class HillCasesTest {
    private static final int NONE = Cases.NONE, UNKNOWN = Cases.UNKNOWN, OUTSIDE = Cases.OUTSIDE, NOT = Cases.NOT, FULL = Cases.FULL;

    private static void due(String what, long got, long want) {
        Cases.due(what, got, want);
    }

    private static AbsentPraise hillOf(String text, int persons) {
        return Cases.hillOf(text, persons);
    }

    /** The text has its FAULT where its second part begins, and leaves all as it was. */
    private static void faulty(int fault, String ahead, String behind) {
        AbsentPraise x = hillOf("r3 5;b0 2;g1 2;p1 2;p0 0;l0 1 8;", 2);
        x.hour(1);
        x.cough(1);
        String before = Cases.seen(x);
        Cases.tell(x, ahead + behind);
        due("hill() of '" + ahead + behind + "'", x.hill(), -10 - fault);
        due("fault() of '" + ahead + behind + "'", x.fault(), ahead.length());
        Cases.same("what is seen behind", Cases.seen(x), before.replace("fault -1", "fault " + ahead.length()));
        due("undo()", x.undo(), 1);
    }

    private static void faultless(String text, int persons) {
        AbsentPraise x = hillOf("x", -11);
        Cases.tell(x, text);
        due("hill() of '" + text + "'", x.hill(), persons);
        due("fault() of '" + text + "'", x.fault(), NONE);
    }

    // ---- the terms

    static void promise00_noneIsMinus1() {
        due("NONE", AbsentPraise.NONE, -1);
    }

    static void promise00_refusalsAreFarBelow() {
        due("UNKNOWN", AbsentPraise.UNKNOWN, -1000000001);
        due("OUTSIDE", AbsentPraise.OUTSIDE, -1000000002);
        due("NOT", AbsentPraise.NOT, -1000000003);
        due("FULL", AbsentPraise.FULL, -1000000004);
    }

    // ---- promise 1: a new object

    static void promise01_newObject_hasNoHill() {
        AbsentPraise x = new AbsentPraise();
        for (int what = 0; what <= 7; what++) {
            due("told(" + what + ")", x.told(what), 0);
        }
    }

    static void promise01_newObject_nobodyIsPraisedNorSilent() {
        due("told(8)", new AbsentPraise().told(8), NONE);
        due("told(9)", new AbsentPraise().told(9), 0);
        due("silent(0)", new AbsentPraise().silent(0), NONE);
    }

    static void promise01_newObject_coverIs0() {
        due("told(10)", new AbsentPraise().told(10), 0);
    }

    static void promise01_newObject_nothingIsNotedNorWritten() {
        due("told(11)", new AbsentPraise().told(11), 0);
        due("told(12)", new AbsentPraise().told(12), 0);
        due("tear()", new AbsentPraise().tear(), 0);
        due("judge()", new AbsentPraise().judge(), NONE);
    }

    static void promise01_newObject_nothingCanBeUndone() {
        due("told(13)", new AbsentPraise().told(13), 0);
        due("undo()", new AbsentPraise().undo(), NOT);
    }

    static void promise01_newObject_hasNoFault() {
        due("fault()", new AbsentPraise().fault(), NONE);
    }

    static void promise01_newObject_seedIs0() {
        due("seed(9)", new AbsentPraise().seed(9), 0);
    }

    static void promise01_newObject_noImageIsKept() {
        due("goBack(0)", new AbsentPraise().goBack(0), NOT);
        due("goBack(1)", new AbsentPraise().goBack(1), NOT);
    }

    static void promise01_newObject_thereIsNoRoomAndNoPerson() {
        AbsentPraise x = new AbsentPraise();
        due("room(0, 0)", x.room(0, 0), UNKNOWN);
        due("person(0, 0)", x.person(0, 0), UNKNOWN);
        due("liking(0, 1)", x.liking(0, 1), UNKNOWN);
        due("said(0, 1, 0)", x.said(0, 1, 0), UNKNOWN);
        due("go(0, 0)", x.go(0, 0), UNKNOWN);
        due("cough(0)", x.cough(0), UNKNOWN);
        due("like(0, 1, 5)", x.like(0, 1, 5), UNKNOWN);
        due("warm(0, 0)", x.warm(0, 0), UNKNOWN);
        due("bestRoom(0, 1, 0)", x.bestRoom(0, 1, 0), UNKNOWN);
        due("route(0, 1, 0)", x.route(0, 1, 0), UNKNOWN);
        due("leavers(0, 0)", x.leavers(0, 0), UNKNOWN);
        due("carried(0, -1)", x.carried(0, -1), UNKNOWN);
        due("listens(0, 1, 0)", x.listens(0, 1, 0), UNKNOWN);
        due("write(0, 0)", x.write(0, 0), UNKNOWN);
    }

    static void promise01_twoObjects_shareNothing() {
        AbsentPraise x = hillOf("r2 0;p0 0;", 1);
        x.feed('r');
        x.seed(5);
        AbsentPraise other = new AbsentPraise();
        due("told(0)", other.told(0), 0);
        due("told(5)", other.told(5), 0);
        due("seed(0)", other.seed(0), 0);
        due("told(0)", x.told(0), 2);
        due("seed(0)", x.seed(0), 5);
    }

    // ---- promise 2: feed

    static void promise02_letterMinus1_isOutside() {
        due("feed(-1)", new AbsentPraise().feed(-1), OUTSIDE);
        due("feed(least)", new AbsentPraise().feed(Integer.MIN_VALUE), OUTSIDE);
    }

    static void promise02_letter256_isOutside() {
        due("feed(256)", new AbsentPraise().feed(256), OUTSIDE);
        due("feed(most)", new AbsentPraise().feed(Integer.MAX_VALUE), OUTSIDE);
    }

    static void promise02_letters0And255_areTaken() {
        AbsentPraise x = new AbsentPraise();
        due("feed(0)", x.feed(0), 1);
        due("feed(255)", x.feed(255), 2);
    }

    static void promise02_the240thLetter_isTaken() {
        AbsentPraise x = new AbsentPraise();
        Cases.tell(x, " ".repeat(239));
        due("feed", x.feed(' '), 240);
    }

    static void promise02_the241stLetter_isFull() {
        AbsentPraise x = new AbsentPraise();
        Cases.tell(x, " ".repeat(240));
        due("feed", x.feed(' '), FULL);
        due("feed again", x.feed(' '), FULL);
    }

    static void promise02_outside_comesAheadOfFull() {
        AbsentPraise x = new AbsentPraise();
        Cases.tell(x, " ".repeat(240));
        due("feed(256)", x.feed(256), OUTSIDE);
        due("feed(-1)", x.feed(-1), OUTSIDE);
    }

    static void promise02_refusedLetters_areNotInTheText() {
        AbsentPraise x = new AbsentPraise();
        x.feed(256);
        Cases.tell(x, "r2 0;" + " ".repeat(235));
        x.feed('x');
        due("told(5)", x.told(5), 240);
        due("hill()", x.hill(), 0);
        due("told(0)", x.told(0), 2);
    }

    static void promise02_theTextIsNewBehindHill() {
        AbsentPraise x = hillOf(" ".repeat(240), 0);
        due("feed", x.feed('r'), 1);
    }

    // ---- promise 3: hill

    static void promise03_textIsEmptyBehindHill() {
        due("told(5)", hillOf("r2 0;p0 0;", 1).told(5), 0);
    }

    static void promise03_textIsEmptyBehindAFault() {
        AbsentPraise x = hillOf("r2 0;q", -11);
        due("told(5)", x.told(5), 0);
        Cases.tell(x, "r2 0;p0 0;");
        due("hill()", x.hill(), 1);
    }

    static void promise03_aFullText_isRead() {
        String text = "r2 0;p0 0;" + " ".repeat(225) + "p0 1;";
        due("letters", text.length(), 240);
        due("hill()", hillOf(text, 2).person(1, 1), 1);
    }

    static void promise03_emptyText_noHill() {
        AbsentPraise x = hillOf("r3 5;b0 1;g0 1;p0 0;p0 1;l0 1 9;", 2);
        due("hill()", x.hill(), 0);
        due("fault()", x.fault(), NONE);
        Cases.same("what is seen", Cases.seen(x), Cases.seen(new AbsentPraise()));
        due("room(0, 0)", x.room(0, 0), UNKNOWN);
        due("person(0, 0)", x.person(0, 0), UNKNOWN);
        due("hour(1)", x.hour(1), NOT);
        due("drift(1)", x.drift(1), NOT);
    }

    static void promise03_textOfBlanksAlone_noHill() {
        AbsentPraise x = hillOf("r3 5;b0 1;g0 1;p0 0;p0 1;l0 1 9;", 2);
        Cases.tell(x, "   ");
        due("hill()", x.hill(), 0);
        due("fault()", x.fault(), NONE);
        Cases.same("what is seen", Cases.seen(x), Cases.seen(new AbsentPraise()));
    }

    static void promise03_emptyText_noneOfWhatWas() {
        AbsentPraise x = hillOf("r2 3;p0 0;", 1);
        x.hour(2);
        x.cough(0);
        x.note(0, 5, false);
        x.write(0, 3);
        x.keep(0);
        x.hour(1);
        due("hill()", x.hill(), 0);
        due("hours", x.told(6), 0);
        due("who coughs", x.told(7), 0);
        due("noted", x.told(11), 0);
        due("book", x.told(12), 0);
        due("undone", x.told(13), 0);
        due("goBack(0)", x.goBack(0), NOT);
    }

    static void promise03_hillOfNoPersons_answers0() {
        AbsentPraise x = hillOf("r2 0;", 0);
        due("rooms", x.told(0), 2);
        due("hour(1)", x.hour(1), 1);
    }

    static void promise03_hillOfSevenPersons_answers7() {
        hillOf("r2 0;" + "p0 0;".repeat(7), 7);
    }

    static void promise03_hoursBeginAt0() {
        AbsentPraise x = hillOf("r2 0;p0 0;", 1);
        x.hour(5);
        Cases.tell(x, "r2 0;p0 0;");
        x.hill();
        due("hours", x.told(6), 0);
    }

    static void promise03_allAreInTheirRooms() {
        AbsentPraise x = hillOf("r2 0;g0 1;p0 0;p0 1;", 2);
        x.go(0, 1);
        Cases.tell(x, "r2 0;g0 1;p0 0;p0 1;");
        x.hill();
        due("room of 0", x.person(0, 1), 0);
        due("room of 1", x.person(1, 1), 1);
    }

    static void promise03_nobodyIsWarmOrChilled() {
        AbsentPraise x = hillOf("r2 3;p0 0;p0 0;", 2);
        x.hour(1);
        due("warm", x.person(0, 2), 9996);
        due("chilled", x.person(0, 3), 1);
        Cases.tell(x, "r2 3;p0 0;p0 0;");
        x.hill();
        due("warm", x.person(0, 2), 10000);
        due("chilled", x.person(0, 3), 0);
    }

    static void promise03_nobodyCoughs() {
        AbsentPraise x = hillOf("r2 0;p0 0;", 1);
        x.cough(0);
        Cases.tell(x, "r2 0;p0 0;");
        x.hill();
        due("who coughs", x.told(7), 0);
    }

    static void promise03_likingsAreAsTold() {
        AbsentPraise x = hillOf("r2 0;p0 0;p0 0;l0 1 3;", 2);
        x.like(0, 1, 9);
        x.like(1, 0, 9);
        Cases.tell(x, "r2 0;p0 0;p0 0;l0 1 3;");
        x.hill();
        due("told", x.liking(0, 1), 3);
        due("untold", x.liking(1, 0), 5);
    }

    static void promise03_nothingIsNoted() {
        AbsentPraise x = new AbsentPraise();
        x.note(0, 9, false);
        x.hill();
        due("noted", x.told(11), 0);
        due("thinks(0)", x.thinks(0), 10);
    }

    static void promise03_noBook() {
        AbsentPraise x = hillOf("r2 0;p0 0;", 1);
        x.write(0, 1);
        Cases.tell(x, "r2 0;p0 0;");
        x.hill();
        due("book", x.told(12), 0);
        due("judge()", x.judge(), NONE);
    }

    static void promise03_imagesAreGone() {
        AbsentPraise x = hillOf("r2 0;p0 0;", 1);
        x.keep(0);
        x.keep(1);
        Cases.tell(x, "r2 0;p0 0;");
        x.hill();
        due("goBack(0)", x.goBack(0), NOT);
        due("goBack(1)", x.goBack(1), NOT);
    }

    static void promise03_imagesKeptWithoutAHill_areGoneToo() {
        AbsentPraise x = new AbsentPraise();
        x.keep(0);
        x.hill();
        due("goBack(0)", x.goBack(0), NOT);
    }

    static void promise03_whatCouldBeUndone_isGone() {
        AbsentPraise x = hillOf("r2 0;p0 0;", 1);
        x.hour(1);
        Cases.tell(x, "r2 0;p0 0;");
        x.hill();
        due("told(13)", x.told(13), 0);
        due("undo()", x.undo(), NOT);
    }

    static void promise03_theSeedStays() {
        AbsentPraise x = new AbsentPraise();
        x.seed(2147483647);
        Cases.tell(x, "r2 0;p0 0;");
        x.hill();
        due("seed(0)", x.seed(0), 2147483647);
    }

    static void promise03_aFault_leavesAllElse() {
        AbsentPraise x = hillOf("r2 1;b0 1;g0 1;p2 0;p0 1;l0 1 8;", 2);
        x.seed(77);
        x.hour(3);
        x.go(0, 1);
        x.note(0, 0, true);
        x.write(0, 5);
        x.keep(1);
        x.cough(0);
        x.like(0, 1, 9);
        String before = Cases.seen(x);
        Cases.tell(x, "r3 0;b1 0;p0 0;p0 0;p0 0;l2 1 0;p4 0;");
        due("hill()", x.hill(), -12);
        Cases.same("what is seen", Cases.seen(x), before.replace("fault -1", "fault 33"));
        due("undo()", x.undo(), 1);
        due("undo()", x.undo(), 0);
        due("goBack(1)", x.goBack(1), 1);
    }

    static void promise03_roomsAre2To6() {
        faultless("r2 0;", 0);
        faultless("r6 0;", 0);
    }

    static void promise03_coldRoomsAreOneSetOfAll() {
        for (int n = 2; n <= 6; n++) {
            int all = (1 << n) - 1;
            due("told(1)", hillOf("r" + n + " " + all + ";", 0).told(1), all);
        }
    }

    static void promise03_nineBenches() {
        AbsentPraise x = hillOf("r4 0;b0 1;b0 2;b0 3;b1 0;b1 2;b1 3;b2 0;b2 1;b2 3;", 0);
        due("benches", x.told(2), 9);
        due("where 2 is heard", x.room(2, 1), 11);
    }

    static void promise03_benchesOfBothDirections_areUnlike() {
        AbsentPraise x = hillOf("r2 0;b0 1;b1 0;", 0);
        due("benches", x.told(2), 2);
    }

    static void promise03_nineWays() {
        AbsentPraise x = hillOf("r5 0;g0 1;g0 2;g0 3;g0 4;g1 2;g1 3;g1 4;g2 3;g2 4;", 0);
        due("ways", x.told(3), 9);
        due("ways of 4", x.room(4, 2), 7);
    }

    static void promise03_benchAndWayBetweenTheSame() {
        faultless("r2 0;b0 1;g0 1;", 0);
        faultless("r2 0;g0 1;b0 1;b1 0;", 0);
    }

    static void promise03_kindsAre0To3() {
        AbsentPraise x = hillOf("r2 0;p0 0;p1 0;p2 0;p3 0;", 4);
        for (int p = 0; p < 4; p++) {
            due("kind of " + p, x.person(p, 0), p);
        }
    }

    static void promise03_personInTheLastRoom() {
        due("room", hillOf("r6 0;p0 5;", 1).person(0, 1), 5);
    }

    static void promise03_likingsAre0To9() {
        AbsentPraise x = hillOf("r2 0;p0 0;p0 0;l0 1 0;l1 0 9;", 2);
        due("0", x.liking(0, 1), 0);
        due("9", x.liking(1, 0), 9);
    }

    static void promise03_theLastLikingToldCounts() {
        due("liking", hillOf("r2 0;p0 0;p0 0;l0 1 3;l1 0 2;l0 1 4;", 2).liking(0, 1), 4);
    }

    static void promise03_anUntoldLikingIs5() {
        AbsentPraise x = hillOf("r2 0;p0 0;p0 0;l0 1 3;", 2);
        due("liking", x.liking(1, 0), 5);
    }

    static void promise03_aPersonToldBehindALiking_isLikedBy5() {
        AbsentPraise x = hillOf("r2 0;p0 0;p0 0;l0 1 3;p0 1;l2 0 1;", 3);
        due("told behind", x.liking(2, 0), 1);
        due("untold", x.liking(0, 2), 5);
    }

    static void promise03_twentyLikings() {
        AbsentPraise x = hillOf("r2 0;" + "p0 0;".repeat(3) + "l0 1 2;".repeat(19) + "l2 1 7;", 3);
        due("the twentieth", x.liking(2, 1), 7);
    }

    static void promise03_numbersOfThreeFigures() {
        AbsentPraise x = hillOf("r002 003;b000 001;p001 000;", 1);
        due("rooms", x.told(0), 2);
        due("cold", x.told(1), 3);
        due("kind", x.person(0, 0), 1);
    }

    static void promise03_blanksAnywhere() {
        AbsentPraise x = hillOf("  r  2   1  ;  b 0  1 ; g  0 1 ; p 3  1 ;p0 0; l  0 1 9 ;  ", 2);
        due("cold", x.told(1), 1);
        due("liking", x.liking(0, 1), 9);
    }

    static void promise03_noBlankThatIsNotNeeded() {
        faultless("r2 0;b0 1;g0 1;p0 0;p0 0;l0 1 9;", 2);
    }

    static void promise03_clausesInAnyOrderBehindTheFirst() {
        AbsentPraise x = hillOf("r3 0;p0 2;g0 1;p0 1;l1 0 4;b0 1;g1 2;l0 1 3;b2 1;p0 0;", 3);
        due("benches", x.told(2), 2);
        due("ways", x.told(3), 2);
    }

    // ---- promise 4: fault

    static void promise04_noneBehindAFaultlessHill() {
        AbsentPraise x = hillOf("x", -11);
        due("fault()", x.fault(), 0);
        Cases.tell(x, "r2 0;");
        due("still that of the latest hill()", x.fault(), 0);
        x.hill();
        due("fault()", x.fault(), NONE);
    }

    static void promise04_placesCountFrom0_withBlanks() {
        faulty(1, "", "x");
        faulty(1, "   ", "x");
    }

    static void promise04_atTheLastOf240Letters() {
        faulty(1, "r2 0;" + " ".repeat(234), "x");
    }

    static void promise04_theEndOf240Letters() {
        faulty(1, "r2 0;" + " ".repeat(230) + "b0  1", "");
    }

    static void promise04_fault1_aLetterThatIsNoWord() {
        faulty(1, "r2 0;", "a0 1;");
        faulty(1, "r2 0;", "5");
        faulty(1, "r2 0;", "B0 1;");
        faulty(1, "r2 0;", "\u00ff");
        faulty(1, "r2 0;", "\u0000");
    }

    static void promise04_fault1_anotherWordFirst() {
        faulty(1, "", "b0 1;");
        faulty(1, "", "g0 1;");
        faulty(1, "", "p0 0;");
        faulty(1, " ", "l0 1 5;");
    }

    static void promise04_fault1_noNumber() {
        faulty(1, "r", ";");
        faulty(1, "r2 ", ";");
        faulty(1, "r2 0;b0 ", "b");
        faulty(1, "r2 0;b", "x");
        faulty(1, "r2 0;p0 0;p0 0;l0 1", ";");
    }

    static void promise04_fault1_aNumberTooMany() {
        faulty(1, "r2 0 ", "0;");
        faulty(1, "r2 0;b0 1 ", "1;");
        faulty(1, "r2 0;p0 0;p0 0;l0 1 2 ", "3;");
    }

    static void promise04_fault1_aSecondSemicolon() {
        faulty(1, "r2 0;", ";");
        faulty(1, "", ";");
    }

    static void promise04_fault1_noSemicolon() {
        faulty(1, "r2 0", "b0 1;");
        faulty(1, "r2 0;p0 0 ", "p0 0;");
    }

    static void promise04_fault1_signsAreNoFigures() {
        faulty(1, "r2 ", "-1;");
        faulty(1, "r", "+2 0;");
        faulty(1, "r2 0", ".5;");
    }

    static void promise04_fault1_theNeighboursOfFigures() {
        faulty(1, "r2 ", "/;");
        faulty(1, "r2 ", ":;");
        faulty(1, "r2 0", ":");
    }

    static void promise04_fault1_only32IsABlank() {
        faulty(1, "r2", "\t0;");
        faulty(1, "r2 0;", "\n");
        faulty(1, "", "\u00a0r2 0;");
        faulty(1, "r2 0;", "\u001f");
        faulty(1, "r2 0;", "\u0021");
    }

    static void promise04_fault1_aWordWithinAClause_isNotTheThird() {
        faulty(1, "r2 0;b", "r2 0;");
        faulty(1, "r2 ", "r");
        faulty(1, "r2 0;" + "p0 0;".repeat(7) + "b0 ", "p0 0;");
    }

    static void promise04_fault1_theEndIsTheTextsLength() {
        faulty(1, "r", "");
        faulty(1, "r2", "");
        faulty(1, "r2 ", "");
        faulty(1, "r2 0", "");
        faulty(1, "r2 0  ", "");
        faulty(1, "r2 0;b0 1;g", "");
        faulty(1, "r2 0;p0 0;p0 0;l0 1", "");
        faulty(1, "r2 0;p0 0;p0 0;l0 1 5", "");
    }

    static void promise04_fault1_blanksWithinANumber_makeTwo() {
        faulty(1, "r2 0 ", "1;");
    }

    static void promise04_fault2_aNumberOfFourFigures() {
        faulty(2, "r", "0002 0;");
        faulty(2, "r2 ", "0000;");
        faulty(2, "r2 0;b0 ", "0001;");
        faulty(2, "r2 0;p", "0000 0;");
        faulty(2, "r2 0;p0 0;p0 0;l0 1 ", "0009;");
    }

    static void promise04_fault2_aNumberThatWrapsAround() {
        faulty(2, "r", "4294967298 0;");
        faulty(2, "r2 ", "4294967296;");
        faulty(2, "r2 0;b0 ", "18446744073709551617;");
    }

    static void promise04_fault2_roomsOutOfBounds() {
        faulty(2, "r", "0 0;");
        faulty(2, "r", "1 0;");
        faulty(2, "r", "7 0;");
        faulty(2, "r", "999 0;");
    }

    static void promise04_fault2_coldRoomsOutOfBounds() {
        for (int n = 2; n <= 6; n++) {
            faulty(2, "r" + n + " ", (1 << n) + ";");
        }
    }

    static void promise04_fault2_noBlankBetween_isOneNumber() {
        faulty(2, "r", "20;");
        faulty(2, "r2 0;b", "10;");
        faulty(1, "r2 0;b01", ";");
        faulty(2, "r2 0;p0 0;p0 0;l0 ", "15;");
    }

    static void promise04_fault2_aRoomThatThereIsNot() {
        faulty(2, "r2 0;b", "2 0;");
        faulty(2, "r2 0;b0 ", "2;");
        faulty(2, "r5 0;g", "5 0;");
        faulty(2, "r5 0;g0 ", "5;");
        faulty(2, "r2 0;p0 ", "2;");
        faulty(2, "r6 0;p0 ", "6;");
    }

    static void promise04_fault2_aKindThatThereIsNot() {
        faulty(2, "r2 0;p", "4 0;");
    }

    static void promise04_fault2_aPersonNotToldAhead() {
        faulty(2, "r2 0;l", "0 1 5;");
        faulty(2, "r2 0;p0 0;l", "1 0 5;p0 0;");
        faulty(2, "r2 0;p0 0;l0 ", "1 5;p0 0;");
        faulty(2, "r2 0;" + "p0 0;".repeat(7) + "l0 ", "7 5;");
    }

    static void promise04_fault2_aLikingOutOfBounds() {
        faulty(2, "r2 0;p0 0;p0 0;l0 1 ", "10;");
    }

    static void promise04_fault2_theFirstOfTwoNumbers() {
        faulty(2, "r", "1 9;");
        faulty(2, "r2 0;b", "2 2;");
        faulty(2, "r2 0;p", "4 2;");
    }

    static void promise04_fault2_comesAheadOfWhatStandsBehind() {
        faulty(2, "r2 ", "4x");
        faulty(2, "r", "9");
        faulty(2, "r2 0;p0 ", "5");
    }

    static void promise04_fault3_rAgain() {
        faulty(3, "r2 0;", "r2 0;");
        faulty(3, "r2 0; ", "r");
        faulty(3, "r2 0;p0 0;", "rx");
    }

    static void promise04_fault3_aTenthBench() {
        faulty(3, "r4 0;b0 1;b0 2;b0 3;b1 0;b1 2;b1 3;b2 0;b2 1;b2 3;", "b3 0;");
        faulty(3, "r4 0;b0 1;b0 2;b0 3;b1 0;b1 2;b1 3;b2 0;b2 1;b2 3;", "b0 1;");
    }

    static void promise04_fault3_aTenthWay() {
        faulty(3, "r5 0;g0 1;g0 2;g0 3;g0 4;g1 2;g1 3;g1 4;g2 3;g2 4;", "g3 4;");
    }

    static void promise04_fault3_anEighthPerson() {
        faulty(3, "r2 0;" + "p0 0;".repeat(7), "p9 9;");
    }

    static void promise04_fault3_a21stLiking() {
        faulty(3, "r2 0;p0 0;p0 0;" + "l0 1 2;".repeat(20), "l1 0 2;");
        faulty(3, "r2 0;p0 0;p0 0;" + "l0 1 2;".repeat(20), "l");
    }

    static void promise04_fault4_aBenchToItself() {
        faulty(4, "r2 0;b0 ", "0;");
        faulty(4, "r6 0;b5 ", "5;");
    }

    static void promise04_fault4_aWayToItself() {
        faulty(4, "r2 0;g1 ", "1;");
    }

    static void promise04_fault4_suchABenchThereIs() {
        faulty(4, "r2 0;b0 1;b0 ", "1;");
        faulty(4, "r3 0;b2 1;b1 2;b0 1;b2  ", "1;");
    }

    static void promise04_fault4_suchAWayThereIs() {
        faulty(4, "r2 0;g0 1;g0 ", "1;");
        faulty(4, "r2 0;g0 1;g1 ", "0;");
    }

    static void promise04_fault4_aPersonLikesItself() {
        faulty(4, "r2 0;p0 0;l0 ", "0 5;");
    }

    static void promise04_fault4_comesAheadOfWhatStandsBehind() {
        faulty(4, "r2 0;b1 ", "1x");
        faulty(4, "r2 0;p0 0;l0 ", "0");
        faulty(4, "r2 0;p0 0;l0 ", "0 10;");
    }

    static void promise04_ofSeveralAtOneLetter_theLeast() {
        // The second number is out of its bounds and could be like the first.
        faulty(2, "r2 0;b1 ", "0001;");
        faulty(2, "r2 0;p0 0;l0 ", "0000 5;");
    }

    static void promise04_ofSeveral_theFirst() {
        faulty(1, "r2 0;", "x r7 0;");
        faulty(2, "r", "7 0;r2 0;x");
        faulty(3, "r2 0;", "r7 0;x");
    }

    // ---- promise 5: told

    static void promise05_whatMinus1_isOutside() {
        due("told(-1)", new AbsentPraise().told(-1), OUTSIDE);
        due("told(least)", new AbsentPraise().told(Integer.MIN_VALUE), OUTSIDE);
    }

    static void promise05_what14_isOutside() {
        due("told(14)", new AbsentPraise().told(14), OUTSIDE);
        due("told(most)", new AbsentPraise().told(Integer.MAX_VALUE), OUTSIDE);
    }

    static void promise05_lettersWhileTheyAreFed() {
        AbsentPraise x = hillOf("r2 0;", 0);
        due("told(5)", x.told(5), 0);
        Cases.tell(x, "r2");
        due("told(5)", x.told(5), 2);
    }

    static void promise05_eachCountIsItsOwn() {
        AbsentPraise x = hillOf("r5 9;b0 1;g0 1;g1 2;p0 0;p0 0;p1 2;", 3);
        x.hour(7);
        x.note(0, 0, true);
        x.note(0, 0, true);
        for (int i = 0; i < 4; i++) {
            x.write(0, 0);
        }
        x.feed('r');
        x.feed(' ');
        int[] want = {5, 9, 1, 2, 3, 2, 7, 0};
        for (int what = 0; what < want.length; what++) {
            due("told(" + what + ")", x.told(what), want[what]);
        }
        due("told(11)", x.told(11), 2);
        due("told(12)", x.told(12), 4);
        due("told(13)", x.told(13), 1);
    }

    static void promise05_whoCoughs_isASet() {
        AbsentPraise x = hillOf("r2 0;" + "p0 0;".repeat(7), 7);
        for (int p = 0; p < 7; p++) {
            x.cough(p);
        }
        due("told(7)", x.told(7), 127);
    }

    static void promise05_praised_ofLikeOnesTheLeast() {
        due("told(8)", hillOf("r2 0;p0 0;p0 0;p0 0;", 3).told(8), 0);
        due("told(8)", hillOf("r2 0;p0 0;p0 0;p0 0;l0 1 7;l0 2 7;", 3).told(8), 1);
    }

    static void promise05_praised_heardOrNot() {
        // Nobody hears what is said of 1, who is away.
        due("told(8)", hillOf("r2 0;p0 0;p0 1;l0 1 6;", 2).told(8), 1);
    }

    static void promise05_praised_allOthersTogether() {
        // Of 0 is said 9, of 1 6 and 6, by those who are all apart.
        due("told(8)", hillOf("r3 0;p0 0;p0 1;p0 2;l1 0 9;l2 0 0;l0 1 6;l2 1 6;l0 2 5;l1 2 5;", 3).told(8), 1);
    }

    static void promise05_praised_ofLikeOnesTheLeast_inUnlikeRooms() {
        due("told(8)", hillOf("r2 0;p0 0;p0 1;", 2).told(8), 0);
        due("told(8)", hillOf("r2 0;p0 1;p0 0;", 2).told(8), 0);
    }

    static void promise05_praised_byMorePersonsThanRooms() {
        // The five others, in ROOM 0, say 5 of 0 and of 1, but the last one says 6 of 1; 0 and 1 say 0 of each other.
        AbsentPraise x = hillOf("r2 0;p0 1;p0 1;" + "p0 0;".repeat(5) + "l0 1 9;l1 0 9;l6 1 6;", 7);
        due("told(8)", x.told(8), 1);
    }

    static void promise05_praised_thoughAllIsBlame() {
        due("told(8)", hillOf("r2 0;p0 0;p0 0;l0 1 6;", 2).told(8), 1);
    }

    static void promise05_praised_whatOneSaysOfItself_isNoMatter() {
        // Each says 5 of the other; of itself 1, a mother, would say more than 0.
        due("told(8)", hillOf("r2 0;p0 0;p1 1;", 2).told(8), 0);
    }

    static void promise05_praised_oneAlone() {
        due("told(8)", hillOf("r2 0;p0 0;", 1).told(8), 0);
    }

    static void promise05_praised_noneWithoutPersons() {
        due("told(8)", hillOf("r2 0;", 0).told(8), NONE);
    }

    static void promise05_silent_nothingAbove0OfEachOther() {
        // 4 is not praised aloud: 0 is not above 0.
        due("both say 0", hillOf("r2 0;p0 0;p0 1;l0 1 4;l1 0 4;", 2).told(9), 1);
        due("one praises", hillOf("r2 0;p0 0;p0 1;l0 1 4;l1 0 5;", 2).told(9), 0);
        due("the other praises", hillOf("r2 0;p0 0;p0 1;l0 1 5;l1 0 4;", 2).told(9), 0);
        due("in one room", hillOf("r2 0;p0 0;p0 0;l0 1 9;l1 0 9;", 2).told(9), 1);
    }

    static void promise05_silent_allPairsOfSeven() {
        due("told(9)", hillOf("r2 0;" + "p0 0;".repeat(7), 7).told(9), 21);
    }

    static void promise05_silent_pairsWithout0() {
        due("told(9)", hillOf("r2 0;p0 0;p0 1;p0 1;", 3).told(9), 1);
    }

    static void promise05_silent_noneOfOneOrNoPerson() {
        due("one", hillOf("r2 0;p0 0;", 1).told(9), 0);
        due("none", hillOf("r2 0;", 0).told(9), 0);
    }

    static void promise05_cover_withoutBenchesIsAllRooms() {
        due("told(10)", hillOf("r6 0;", 0).told(10), 63);
        due("told(10)", hillOf("r2 0;", 0).told(10), 3);
    }

    static void promise05_cover_theFewestNotTheLeast() {
        due("told(10)", hillOf("r4 0;b0 3;b1 3;b2 3;", 0).told(10), 8);
    }

    static void promise05_cover_ofLikeOnesTheLeast() {
        due("told(10)", hillOf("r4 0;b0 1;b1 0;b2 3;b3 2;", 0).told(10), 5);
        due("told(10)", hillOf("r2 0;b0 1;b1 0;", 0).told(10), 1);
    }

    static void promise05_cover_aBenchHearsOneWay() {
        // What is said in 0 is heard in 1, not the other way round.
        due("told(10)", hillOf("r2 0;b0 1;", 0).told(10), 2);
        due("told(10)", hillOf("r2 0;b1 0;", 0).told(10), 1);
    }

    static void promise05_cover_oneBenchIsNotTwo() {
        // 0 is heard in 1 and 1 in 2, but 0 not in 2.
        due("told(10)", hillOf("r3 0;b0 1;b1 2;", 0).told(10), 5);
    }

    static void promise05_noted_atMost6() {
        AbsentPraise x = new AbsentPraise();
        for (int i = 0; i < 8; i++) {
            x.note(0, 0, false);
        }
        due("told(11)", x.told(11), 6);
    }

    static void promise05_book_atMost15() {
        AbsentPraise x = hillOf("r2 0;p0 0;", 1);
        for (int i = 0; i < 17; i++) {
            x.write(0, 0);
        }
        due("told(12)", x.told(12), 15);
    }

    static void promise05_undone_atMost16() {
        AbsentPraise x = hillOf("r2 0;p0 0;", 1);
        for (int i = 0; i < 18; i++) {
            x.hour(1);
        }
        due("told(13)", x.told(13), 16);
    }

    // ---- promise 6: room

    static void promise06_roomMinus1_isUnknown() {
        due("room(-1, 0)", hillOf("r2 0;", 0).room(-1, 0), UNKNOWN);
        due("room(least, 0)", hillOf("r2 0;", 0).room(Integer.MIN_VALUE, 0), UNKNOWN);
    }

    static void promise06_roomN_isUnknown() {
        due("room(2, 0)", hillOf("r2 0;", 0).room(2, 0), UNKNOWN);
        due("room(6, 0)", hillOf("r6 0;", 0).room(6, 0), UNKNOWN);
        due("room(most, 0)", hillOf("r6 0;", 0).room(Integer.MAX_VALUE, 0), UNKNOWN);
    }

    static void promise06_theLastRoom_isKnown() {
        due("room(5, 0)", hillOf("r6 0;p0 5;", 1).room(5, 0), 1);
    }

    static void promise06_whatMinus1And3_areOutside() {
        due("room(0, -1)", hillOf("r2 0;", 0).room(0, -1), OUTSIDE);
        due("room(0, 3)", hillOf("r2 0;", 0).room(0, 3), OUTSIDE);
    }

    static void promise06_unknown_comesAheadOfOutside() {
        due("room(2, 3)", hillOf("r2 0;", 0).room(2, 3), UNKNOWN);
    }

    static void promise06_emptyRoom_is0() {
        AbsentPraise x = hillOf("r2 0;p0 0;", 1);
        due("who is in it", x.room(1, 0), 0);
        due("where it is heard", x.room(1, 1), 0);
        due("ways", x.room(1, 2), 0);
    }

    static void promise06_allInOne_isTheFullSet() {
        due("who is in it", hillOf("r2 0;" + "p0 1;".repeat(7), 7).room(1, 0), 127);
    }

    static void promise06_theLastRoom_hasItsBenchesAndWays() {
        AbsentPraise x = hillOf("r6 0;b5 0;b5 2;g5 4;g1 5;", 0);
        due("where 5 is heard", x.room(5, 1), 5);
        due("ways of 5", x.room(5, 2), 18);
    }

    static void promise06_benchesOneWay_waysBoth() {
        AbsentPraise x = hillOf("r3 0;b0 1;g0 2;", 0);
        due("where 0 is heard", x.room(0, 1), 2);
        due("where 1 is heard", x.room(1, 1), 0);
        due("ways of 0", x.room(0, 2), 4);
        due("ways of 2", x.room(2, 2), 1);
    }

    // ---- promise 7: person

    static void promise07_personMinus1_isUnknown() {
        due("person(-1, 0)", hillOf("r2 0;p0 0;", 1).person(-1, 0), UNKNOWN);
        due("person(least, 0)", hillOf("r2 0;p0 0;", 1).person(Integer.MIN_VALUE, 0), UNKNOWN);
    }

    static void promise07_theFirstPersonThatThereIsNot_isUnknown() {
        due("person(0, 0)", hillOf("r2 0;", 0).person(0, 0), UNKNOWN);
        due("person(1, 0)", hillOf("r2 0;p0 0;", 1).person(1, 0), UNKNOWN);
        due("person(7, 0)", hillOf("r2 0;" + "p0 0;".repeat(7), 7).person(7, 0), UNKNOWN);
        due("person(most, 0)", hillOf("r2 0;p0 0;", 1).person(Integer.MAX_VALUE, 0), UNKNOWN);
    }

    static void promise07_whatMinus1And5_areOutside() {
        due("person(0, -1)", hillOf("r2 0;p0 0;", 1).person(0, -1), OUTSIDE);
        due("person(0, 5)", hillOf("r2 0;p0 0;", 1).person(0, 5), OUTSIDE);
    }

    static void promise07_unknown_comesAheadOfOutside() {
        due("person(1, 5)", hillOf("r2 0;p0 0;", 1).person(1, 5), UNKNOWN);
    }

    static void promise07_atFirst_notWarmNorChilledNorCoughing() {
        AbsentPraise x = hillOf("r2 3;p0 0;", 1);
        due("warm", x.person(0, 2), 10000);
        due("chilled", x.person(0, 3), 0);
        due("coughs", x.person(0, 4), 0);
    }

    static void promise07_coughs_is1() {
        AbsentPraise x = hillOf("r2 0;p0 0;p0 0;", 2);
        x.cough(1);
        due("coughs", x.person(1, 4), 1);
        due("the other", x.person(0, 4), 0);
    }

    static void promise07_warm_isLiftedAtBothEnds() {
        AbsentPraise low = hillOf("r2 0;p0 0;p0 0;l0 1 0;", 2);
        AbsentPraise high = hillOf("r2 0;b0 1;p0 0;p0 1;l0 1 8;", 2);
        for (int i = 0; i < 42; i++) {
            low.hour(60);
            high.hour(60);
        }
        due("the least", low.person(1, 2), 1);
        due("the most", high.person(1, 2), 19999);
    }

    static void promise07_theSeventhPerson_isAsTheOthers() {
        AbsentPraise x = hillOf("r2 2;b0 1;" + "p0 0;".repeat(6) + "p3 1;l5 6 8;", 7);
        x.hour(1);
        x.cough(6);
        due("kind", x.person(6, 0), 3);
        due("room", x.person(6, 1), 1);
        due("warm", x.person(6, 2), 10008);
        due("chilled", x.person(6, 3), 1);
        due("coughs", x.person(6, 4), 1);
    }

    // ---- promise 8: liking

    static void promise08_personsThatThereAreNot_areUnknown() {
        AbsentPraise x = hillOf("r2 0;p0 0;p0 0;", 2);
        due("liking(-1, 0)", x.liking(-1, 0), UNKNOWN);
        due("liking(0, -1)", x.liking(0, -1), UNKNOWN);
        due("liking(2, 0)", x.liking(2, 0), UNKNOWN);
        due("liking(0, 2)", x.liking(0, 2), UNKNOWN);
        due("liking(0, most)", x.liking(0, Integer.MAX_VALUE), UNKNOWN);
        due("liking(least, 0)", x.liking(Integer.MIN_VALUE, 0), UNKNOWN);
    }

    static void promise08_onePersonTwice_isUnknown() {
        AbsentPraise x = hillOf("r2 0;p0 0;p0 0;", 2);
        due("liking(0, 0)", x.liking(0, 0), UNKNOWN);
        due("liking(1, 1)", x.liking(1, 1), UNKNOWN);
    }

    static void promise08_theLastPairOfSeven() {
        AbsentPraise x = hillOf("r2 0;" + "p0 0;".repeat(7) + "l6 5 1;l5 6 2;", 7);
        due("liking(6, 5)", x.liking(6, 5), 1);
        due("liking(5, 6)", x.liking(5, 6), 2);
    }

    static void promise08_eachPairOfSeven_isItsOwn() {
        AbsentPraise x = hillOf("r2 0;" + "p0 0;".repeat(7), 7);
        for (int p = 0; p < 7; p++) {
            for (int q = 0; q < 7; q++) {
                x.like(p, q, (3 * p + q) % 10);
            }
        }
        for (int p = 0; p < 7; p++) {
            for (int q = 0; q < 7; q++) {
                due("liking(" + p + ", " + q + ")", x.liking(p, q), p == q ? UNKNOWN : (3 * p + q) % 10);
            }
        }
    }

    // ---- promise 9: said, and what section 2 says of it

    static void promise09_personsThatThereAreNot_areUnknown() {
        AbsentPraise x = hillOf("r2 0;p0 0;p0 0;", 2);
        due("said(-1, 0, 0)", x.said(-1, 0, 0), UNKNOWN);
        due("said(0, -1, 0)", x.said(0, -1, 0), UNKNOWN);
        due("said(2, 0, 0)", x.said(2, 0, 0), UNKNOWN);
        due("said(0, 2, 0)", x.said(0, 2, 0), UNKNOWN);
    }

    static void promise09_onePersonTwice_isUnknown() {
        due("said(1, 1, 0)", hillOf("r2 0;p0 0;p0 0;", 2).said(1, 1, 0), UNKNOWN);
    }

    static void promise09_whatMinus1And2_areOutside() {
        due("said(0, 1, -1)", hillOf("r2 0;p0 0;p0 0;", 2).said(0, 1, -1), OUTSIDE);
        due("said(0, 1, 2)", hillOf("r2 0;p0 0;p0 0;", 2).said(0, 1, 2), OUTSIDE);
    }

    static void promise09_unknown_comesAheadOfOutside() {
        due("said(0, 2, 2)", hillOf("r2 0;p0 0;p0 0;", 2).said(0, 2, 2), UNKNOWN);
        due("said(0, 0, 2)", hillOf("r2 0;p0 0;p0 0;", 2).said(0, 0, 2), UNKNOWN);
    }

    private static void dueWords(int kind, int home, int[] want) {
        AbsentPraise x = hillOf("r2 0;p" + kind + " 0;p0 " + home + ";", 2);
        for (int v = 0; v <= 9; v++) {
            x.like(0, 1, v);
            due("kind " + kind + " by " + v, x.said(0, 1, 0), 100 + want[v]);
        }
    }

    static void promise09_plain_ofAnAbsentOne_5OrMore() {
        dueWords(0, 1, new int[] {0, 0, 0, 0, 0, 5, 6, 7, 8, 9});
    }

    static void promise09_plain_ofOneThere_noneBetterThan0() {
        dueWords(0, 0, new int[] {-9, -8, -7, -6, -5, -4, -3, -2, -1, 0});
    }

    static void promise09_mother_ofAnAbsentOne() {
        dueWords(1, 1, new int[] {0, 0, 0, 0, 0, 5, 6, 7, 8, 9});
    }

    static void promise09_mother_neverBelow0() {
        dueWords(1, 0, new int[10]);
    }

    static void promise09_mean_halfIsCut() {
        dueWords(2, 1, new int[] {0, 0, 0, 0, 0, 2, 3, 3, 4, 4});
    }

    static void promise09_mean_whatIsBelow0IsWhole() {
        dueWords(2, 0, new int[] {-9, -8, -7, -6, -5, -4, -3, -2, -1, 0});
    }

    static void promise09_deaf_likePlainWithoutACough() {
        dueWords(3, 1, new int[] {0, 0, 0, 0, 0, 5, 6, 7, 8, 9});
        dueWords(3, 0, new int[] {-9, -8, -7, -6, -5, -4, -3, -2, -1, 0});
    }

    static void promise09_eachSaysWhatItsOwnLikingIs() {
        AbsentPraise x = hillOf("r2 0;p0 0;p0 0;p0 1;l0 2 6;l1 2 8;l2 1 3;l2 0 9;", 3);
        due("0 of 2", x.said(0, 2, 0), 106);
        due("1 of 2", x.said(1, 2, 0), 108);
        due("2 of 1", x.said(2, 1, 0), 100);
        due("2 of 0", x.said(2, 0, 0), 109);
    }

    static void promise09_aCoughOnTheBench_isThere() {
        AbsentPraise x = hillOf("r2 0;b0 1;p0 0;p0 1;l0 1 7;", 2);
        due("without a cough", x.said(0, 1, 0), 107);
        x.cough(1);
        due("with a cough", x.said(0, 1, 0), 98);
    }

    static void promise09_aCoughWhereItIsNotHeard_isNotThere() {
        AbsentPraise x = hillOf("r2 0;b1 0;g0 1;p0 0;p0 1;l0 1 7;", 2);
        x.cough(1);
        due("said(0, 1, 0)", x.said(0, 1, 0), 107);
    }

    static void promise09_theSpeakersCough_isNoMatter() {
        AbsentPraise x = hillOf("r2 0;b0 1;b1 0;p0 0;p0 1;l0 1 7;", 2);
        x.cough(0);
        due("said(0, 1, 0)", x.said(0, 1, 0), 107);
        due("said(1, 0, 0)", x.said(1, 0, 0), 96);
    }

    static void promise09_deaf_noCoughCounts() {
        AbsentPraise x = hillOf("r2 0;b0 1;p3 0;p0 1;p0 0;l0 1 7;l0 2 7;", 3);
        x.cough(1);
        x.cough(2);
        due("on the bench", x.said(0, 1, 0), 107);
        due("in the room", x.said(0, 2, 0), 98);
    }

    static void promise09_mother_ofACough() {
        AbsentPraise x = hillOf("r2 0;b0 1;p1 0;p0 1;l0 1 7;", 2);
        x.cough(1);
        due("said(0, 1, 0)", x.said(0, 1, 0), 100);
    }

    static void promise09_hearsInTheRoomAndOnTheBench() {
        AbsentPraise x = hillOf("r3 0;b0 1;p0 0;p0 0;p0 1;p0 2;", 4);
        due("in the room", x.said(0, 1, 1), 1);
        due("on the bench", x.said(0, 2, 1), 1);
        due("elsewhere", x.said(0, 3, 1), 0);
    }

    static void promise09_aBenchIsNotHeardBack() {
        due("said(1, 0, 1)", hillOf("r2 0;b0 1;p0 0;p0 1;", 2).said(1, 0, 1), 0);
    }

    static void promise09_twoBenchesInARow_areNotHeard() {
        due("said(0, 1, 1)", hillOf("r3 0;b0 1;b1 2;p0 0;p0 2;", 2).said(0, 1, 1), 0);
    }

    static void promise09_aWayIsNotHeard() {
        due("said(0, 1, 1)", hillOf("r2 0;g0 1;p0 0;p0 1;", 2).said(0, 1, 1), 0);
    }

    static void promise09_theDeafHearWhatIsSaid() {
        due("said(0, 1, 1)", hillOf("r2 0;b0 1;p0 0;p3 1;", 2).said(0, 1, 1), 1);
    }

    public static void main(String[] args) throws IllegalAccessException {
        Cases.run(HillCasesTest.class);
    }
}
