/** The boundary cases of promises 16 to 22 and of the document's section 3 that they show, one method each. */
public final class TrialCasesTest {
    private static final int NONE = Cases.NONE, UNKNOWN = Cases.UNKNOWN, OUTSIDE = Cases.OUTSIDE;

    private static void due(String what, long got, long want) {
        Cases.due(what, got, want);
    }

    private static AbsentPraise hillOf(String text, int persons) {
        return Cases.hillOf(text, persons);
    }

    private static void pass(AbsentPraise x, int hours) {
        for (int i = 0; i < hours / 60; i++) {
            x.hour(60);
        }
        if (hours % 60 > 0) {
            x.hour(hours % 60);
        }
    }

    /** 1 is behind the bench, where 0 speaks of it each second HOUR, by 8. */
    private static AbsentPraise oneOnTheBench() {
        return hillOf("r2 0;b0 1;p0 0;p0 1;l0 1 8;", 2);
    }

    // ---- promise 16: warm

    static void promise16_n0_isNow() {
        AbsentPraise x = oneOnTheBench();
        x.hour(1);
        due("warm(1, 0)", x.warm(1, 0), 10008);
    }

    static void promise16_n100_isTaken() {
        due("warm(1, 100)", oneOnTheBench().warm(1, 100), 10000 + 50 * 8);
    }

    static void promise16_nMinus1And101_areOutside() {
        AbsentPraise x = oneOnTheBench();
        due("warm(1, -1)", x.warm(1, -1), OUTSIDE);
        due("warm(1, 101)", x.warm(1, 101), OUTSIDE);
        due("warm(1, least)", x.warm(1, Integer.MIN_VALUE), OUTSIDE);
        due("warm(1, most)", x.warm(1, Integer.MAX_VALUE), OUTSIDE);
    }

    static void promise16_personsThatThereAreNot_areUnknown() {
        due("warm(-1, 0)", oneOnTheBench().warm(-1, 0), UNKNOWN);
        due("warm(2, 0)", oneOnTheBench().warm(2, 0), UNKNOWN);
    }

    static void promise16_personsAreNotRooms() {
        due("a room, nobody", hillOf("r6 0;p0 0;", 1).warm(1, 0), UNKNOWN);
        due("somebody, no room", hillOf("r2 0;" + "p0 0;".repeat(7), 7).warm(6, 0), 10000);
    }

    static void promise16_unknown_comesAheadOfOutside() {
        due("warm(2, 101)", oneOnTheBench().warm(2, 101), UNKNOWN);
    }

    static void promise16_nothingChangesByIt() {
        AbsentPraise x = oneOnTheBench();
        x.cough(0);
        String before = Cases.seen(x);
        x.warm(1, 100);
        Cases.same("what is seen", Cases.seen(x), before);
    }

    static void promise16_asTheHoursThenPass() {
        AbsentPraise x = hillOf("r3 0;b0 1;b2 1;b1 2;p0 0;p1 1;p2 2;p3 0;l0 1 7;l1 2 8;l2 3 4;l3 1 2;l2 1 9;", 4);
        x.cough(1);
        x.cough(3);
        int[] due = new int[4];
        for (int p = 0; p < 4; p++) {
            due[p] = x.warm(p, 11);
        }
        x.hour(11);
        for (int p = 0; p < 4; p++) {
            due("warm of " + p, due[p], x.person(p, 2));
        }
    }

    static void promise16_aCough_countsInTheFirstHourAlone() {
        AbsentPraise x = oneOnTheBench();
        x.cough(1);
        due("warm(1, 1)", x.warm(1, 1), 9999);
        due("warm(1, 3)", x.warm(1, 3), 10007);
    }

    /** 1 has heard 9 so often that it is as WARM as can be; next 0 says 9 of it, behind that 2 says -5. */
    private static AbsentPraise oneAtTheMost() {
        AbsentPraise x = hillOf("r2 0;b0 1;p0 0;p0 1;p0 1;l0 1 9;l2 1 9;", 3);
        pass(x, 3333);
        due("the most", x.person(1, 2), 19999);
        x.like(2, 1, 4);
        return x;
    }

    static void promise16_whatIsAbove_isLostEachTime() {
        AbsentPraise x = oneAtTheMost();
        due("warm(1, 1)", x.warm(1, 1), 19999);
        due("warm(1, 2)", x.warm(1, 2), 19994);
    }

    static void promise16_whatIsBelow_isLostEachTime() {
        // Of 1 says 0 -9 and then 2 0; at the least 0 says -9 and 2, who is a room off, 5.
        AbsentPraise x = hillOf("r3 0;b2 0;g1 2;p0 0;p0 0;p0 1;l0 1 0;l2 1 5;", 3);
        pass(x, 3333);
        due("the least", x.person(1, 2), 1);
        x.go(2, 2);
        due("warm(1, 1)", x.warm(1, 1), 1);
        due("warm(1, 2)", x.warm(1, 2), 6);
    }

    // ---- promise 17: bestRoom

    static void promise17_n1And30_areTaken() {
        AbsentPraise x = oneOnTheBench();
        due("bestRoom(1, 1, 0)", x.bestRoom(1, 1, 0), 1);
        due("bestRoom(1, 30, 0)", x.bestRoom(1, 30, 0), 1);
        due("bestRoom(1, 30, 1)", x.bestRoom(1, 30, 1), 10000 + 15 * 8);
    }

    static void promise17_n0And31_areOutside() {
        AbsentPraise x = oneOnTheBench();
        due("bestRoom(1, 0, 0)", x.bestRoom(1, 0, 0), OUTSIDE);
        due("bestRoom(1, 31, 0)", x.bestRoom(1, 31, 0), OUTSIDE);
        due("bestRoom(1, -1, 0)", x.bestRoom(1, -1, 0), OUTSIDE);
    }

    static void promise17_whatMinus1And2_areOutside() {
        AbsentPraise x = oneOnTheBench();
        due("bestRoom(1, 1, -1)", x.bestRoom(1, 1, -1), OUTSIDE);
        due("bestRoom(1, 1, 2)", x.bestRoom(1, 1, 2), OUTSIDE);
    }

    static void promise17_personsThatThereAreNot_areUnknown() {
        due("bestRoom(-1, 1, 0)", oneOnTheBench().bestRoom(-1, 1, 0), UNKNOWN);
        due("bestRoom(2, 1, 0)", oneOnTheBench().bestRoom(2, 1, 0), UNKNOWN);
    }

    static void promise17_personsAreNotRooms() {
        due("a room, nobody", hillOf("r6 0;p0 0;", 1).bestRoom(1, 1, 0), UNKNOWN);
        due("somebody, no room: in 0 5 says -4 of it", hillOf("r2 0;" + "p0 0;".repeat(7), 7).bestRoom(6, 1, 0), 1);
    }

    static void promise17_behindAllHours_notTheFirst() {
        // Of 1 says 0, in 2, 6 in the first HOUR, and 2, in 3, 9 in the second.
        AbsentPraise x = hillOf("r4 0;b2 1;b3 0;p0 2;p0 1;p0 3;l0 1 6;l2 1 9;", 3);
        due("one hour", x.bestRoom(1, 1, 0), 1);
        due("two hours", x.bestRoom(1, 2, 0), 0);
        due("two hours, warm", x.bestRoom(1, 2, 1), 10009);
        AbsentPraise y = hillOf("r4 0;b2 0;b3 1;p0 2;p0 1;p0 3;l0 1 6;l2 1 9;", 3);
        due("one hour", y.bestRoom(1, 1, 0), 0);
        due("two hours", y.bestRoom(1, 2, 0), 1);
        due("two hours, warm", y.bestRoom(1, 2, 1), 10009);
    }

    static void promise17_unknown_comesAheadOfOutside() {
        due("bestRoom(2, 0, 2)", oneOnTheBench().bestRoom(2, 0, 2), UNKNOWN);
    }

    static void promise17_waysAreNoMatter() {
        // There is no way from 2.
        AbsentPraise x = hillOf("r3 0;b0 1;p0 0;p0 2;l0 1 8;", 2);
        due("room", x.bestRoom(1, 1, 0), 1);
        due("warm", x.bestRoom(1, 1, 1), 10008);
    }

    static void promise17_ofLikeOnes_theLeast() {
        AbsentPraise x = hillOf("r4 0;b0 2;b0 3;p0 0;p0 3;l0 1 8;", 2);
        due("both benches", x.bestRoom(1, 1, 0), 2);
        AbsentPraise y = hillOf("r4 0;p0 0;p0 3;l0 1 9;", 2);
        due("nothing anywhere", y.bestRoom(1, 1, 0), 0);
    }

    static void promise17_ofLikeOnes_theLeast_notWhereItIs() {
        due("bestRoom(0, 1, 0)", hillOf("r3 0;p0 2;", 1).bestRoom(0, 1, 0), 0);
        due("bestRoom(0, 1, 1)", hillOf("r3 0;p0 2;", 1).bestRoom(0, 1, 1), 10000);
    }

    static void promise17_theBoundOfWarm_makesThemLike() {
        // In 0 it hears -1, in 1 nothing, in 2 8: at the most the two others are alike.
        AbsentPraise x = hillOf("r3 0;b0 2;p0 0;p0 2;l0 1 8;", 2);
        due("at first", x.bestRoom(1, 1, 0), 2);
        pass(x, 2520);
        due("the most", x.person(1, 2), 19999);
        due("room", x.bestRoom(1, 1, 0), 1);
        due("warm", x.bestRoom(1, 1, 1), 19999);
    }

    static void promise17_whatIsAbove_isLostEachTime() {
        AbsentPraise x = oneAtTheMost();
        // In 1 it hears 9 that is lost, and -5; in 0 0 and 0 of one who is there and of none.
        due("room", x.bestRoom(1, 2, 0), 0);
        due("warm", x.bestRoom(1, 2, 1), 19999);
    }

    static void promise17_aCoughGoesAlong_inTheFirstHour() {
        AbsentPraise x = oneOnTheBench();
        x.cough(1);
        // In 0 it hears -1 too.
        due("bestRoom(1, 1, 0)", x.bestRoom(1, 1, 0), 0);
        due("bestRoom(1, 1, 1)", x.bestRoom(1, 1, 1), 9999);
        due("bestRoom(1, 3, 0)", x.bestRoom(1, 3, 0), 1);
        due("bestRoom(1, 3, 1)", x.bestRoom(1, 3, 1), 10007);
    }

    static void promise17_nothingChangesByIt() {
        AbsentPraise x = hillOf("r3 0;b0 2;p0 0;p0 1;l0 1 9;", 2);
        x.cough(1);
        String before = Cases.seen(x);
        x.bestRoom(1, 30, 0);
        x.bestRoom(1, 30, 1);
        Cases.same("what is seen", Cases.seen(x), before);
    }

    // ---- promise 18: route

    static void promise18_n1And8_areTaken() {
        AbsentPraise x = oneOnTheBench();
        due("route(1, 1, 0)", x.route(1, 1, 0), 10008);
        due("route(1, 8, 0)", x.route(1, 8, 0), 10000 + 4 * 8);
        due("route(1, 8, 1)", x.route(1, 8, 1), 1);
    }

    static void promise18_n0And9_areOutside() {
        AbsentPraise x = oneOnTheBench();
        due("route(1, 0, 0)", x.route(1, 0, 0), OUTSIDE);
        due("route(1, 9, 0)", x.route(1, 9, 0), OUTSIDE);
        due("route(1, -1, 0)", x.route(1, -1, 0), OUTSIDE);
    }

    static void promise18_whatMinus1And2_areOutside() {
        AbsentPraise x = oneOnTheBench();
        due("route(1, 1, -1)", x.route(1, 1, -1), OUTSIDE);
        due("route(1, 1, 2)", x.route(1, 1, 2), OUTSIDE);
    }

    static void promise18_personsThatThereAreNot_areUnknown() {
        due("route(-1, 1, 0)", oneOnTheBench().route(-1, 1, 0), UNKNOWN);
        due("route(2, 1, 0)", oneOnTheBench().route(2, 1, 0), UNKNOWN);
    }

    static void promise18_personsAreNotRooms() {
        due("a room, nobody", hillOf("r6 0;p0 0;", 1).route(1, 1, 0), UNKNOWN);
        due("somebody, no room: 5 says -4 of it", hillOf("r2 0;" + "p0 0;".repeat(7), 7).route(6, 1, 0), 9996);
    }

    static void promise18_theLastRoomOfSix_countsInEachHour() {
        AbsentPraise x = hillOf("r6 0;b0 5;g4 5;p0 0;p0 5;p0 4;l0 1 8;l0 2 7;", 3);
        due("it stays in 5", x.route(1, 4, 0), 10016);
        due("in 5", x.route(1, 4, 1), 5);
        due("it goes to 5 for the second hour", x.route(2, 2, 0), 10007);
    }

    static void promise18_unknown_comesAheadOfOutside() {
        due("route(2, 9, 2)", oneOnTheBench().route(2, 9, 2), UNKNOWN);
    }

    static void promise18_withoutAWay_itStays() {
        AbsentPraise x = hillOf("r3 0;b0 2;p0 0;p0 1;l0 1 9;", 2);
        due("route(1, 8, 0)", x.route(1, 8, 0), 10000);
        due("route(1, 8, 1)", x.route(1, 8, 1), 1);
    }

    static void promise18_stuckWithOneWhoSpeaksIll_lessThanNothing() {
        AbsentPraise x = hillOf("r2 0;p0 1;p0 1;l0 1 0;", 2);
        due("route(1, 8, 0)", x.route(1, 8, 0), 10000 - 36);
        due("route(1, 8, 1)", x.route(1, 8, 1), 1);
    }

    static void promise18_room0_countsAsTheOthersDo() {
        // What is said in 2 is heard in 0, where it is, or to where it goes.
        AbsentPraise x = hillOf("r3 0;b2 0;g0 1;p0 2;p0 0;p0 1;l0 1 9;l0 2 8;", 3);
        due("route(1, 1, 0)", x.route(1, 1, 0), 10009);
        due("route(1, 1, 1)", x.route(1, 1, 1), 0);
        due("route(1, 7, 0)", x.route(1, 7, 0), 10027);
        due("route(2, 2, 0)", x.route(2, 2, 0), 10008);
        due("for the second hour alone, as 1 is there", x.route(2, 2, 1), 1);
    }

    static void promise18_room0_itsBlameCountsToo() {
        AbsentPraise x = hillOf("r3 0;p0 0;p0 0;l0 1 0;", 2);
        due("route(1, 1, 0)", x.route(1, 1, 0), 9991);
        due("route(1, 5, 0)", x.route(1, 5, 0), 9973);
        AbsentPraise y = hillOf("r3 0;g0 2;p0 0;p0 0;l0 1 0;", 2);
        due("it leaves", y.route(1, 5, 0), 10000);
        due("to 2", y.route(1, 5, 1), 2);
    }

    static void promise18_itMayGoAheadOfTheFirstHour() {
        AbsentPraise x = hillOf("r2 0;b0 1;g0 1;p0 0;p0 0;l0 1 9;", 2);
        due("route(1, 1, 0)", x.route(1, 1, 0), 10009);
        due("route(1, 1, 1)", x.route(1, 1, 1), 1);
    }

    static void promise18_oneWayAheadOfEachHour() {
        // To the bench in 3 there are two ways: not for the first HOUR, in the second none speaks, but for the third.
        AbsentPraise x = hillOf("r4 0;b0 3;g1 2;g2 3;p0 0;p0 1;l0 1 9;", 2);
        due("route(1, 1, 0)", x.route(1, 1, 0), 10000);
        due("route(1, 2, 0)", x.route(1, 2, 0), 10000);
        due("route(1, 3, 0)", x.route(1, 3, 0), 10009);
    }

    static void promise18_theFirstRoom_byTheLeastRow() {
        // Rows 1 2 3, 1 1 .. come too late for the third HOUR but for 1 2 3, 2 2 3 and 2 3 3: the least begins with 1.
        AbsentPraise x = hillOf("r4 0;b0 3;g1 2;g2 3;p0 0;p0 1;l0 1 9;", 2);
        due("route(1, 3, 1)", x.route(1, 3, 1), 1);
    }

    static void promise18_ofLikeRows_theLesserRoom_thoughItMustGo() {
        due("to 0", hillOf("r3 0;g0 2;p0 2;", 1).route(0, 1, 1), 0);
        due("to 1", hillOf("r3 0;g1 2;p0 2;", 1).route(0, 8, 1), 1);
        due("it stays", hillOf("r3 0;g1 2;p0 1;", 1).route(0, 8, 1), 1);
    }

    static void promise18_allInAll_notHourByHour() {
        // In 1 it hears 5 in the first HOUR, but there is no way on; in 3, by 2, 9 in each of the two others that count.
        AbsentPraise x = hillOf("r5 0;b0 1;b0 3;b4 1;g1 2;g2 3;p0 0;p0 2;l0 1 9;", 2);
        due("the first hour alone", x.route(1, 1, 0), 10009);
        due("the least of the two benches", x.route(1, 1, 1), 1);
        due("all eight", x.route(1, 8, 0), 10036);
    }

    static void promise18_laterMore_isWorthAnEmptyFirstHour() {
        // 1 is spoken of by 0 (5, heard in 1) in the first HOUR, by 2 (9, heard in 3) in the second; 4 leads to both.
        AbsentPraise x = hillOf("r6 0;b0 1;b5 3;g4 1;g4 3;p0 0;p0 4;p0 5;l0 1 5;l2 1 9;", 3);
        due("one hour: to 1", x.route(1, 1, 1), 1);
        due("one hour", x.route(1, 1, 0), 10005);
        due("two hours: to 3 or by 4", x.route(1, 2, 0), 10009);
        due("two hours: the lesser of 3 3 and 4 3", x.route(1, 2, 1), 3);
    }

    static void promise18_theBoundsOfWarm_areNoMatter() {
        AbsentPraise x = oneOnTheBench();
        pass(x, 2520);
        due("the most", x.person(1, 2), 19999);
        due("route(1, 8, 0)", x.route(1, 8, 0), 10032);
        due("route(1, 8, 1)", x.route(1, 8, 1), 1);
    }

    static void promise18_aCough_countsInTheFirstHourAlone() {
        AbsentPraise x = oneOnTheBench();
        x.cough(1);
        due("route(1, 1, 0)", x.route(1, 1, 0), 9999);
        due("route(1, 3, 0)", x.route(1, 3, 0), 10007);
    }

    static void promise18_nothingChangesByIt() {
        AbsentPraise x = hillOf("r2 0;b0 1;g0 1;p0 0;p0 0;l0 1 9;", 2);
        x.cough(0);
        String before = Cases.seen(x);
        x.route(1, 8, 0);
        x.route(1, 8, 1);
        Cases.same("what is seen", Cases.seen(x), before);
    }

    // ---- promise 19: leavers

    static void promise19_roomsThatThereAreNot_areUnknown() {
        AbsentPraise x = oneOnTheBench();
        due("leavers(-1, 0)", x.leavers(-1, 0), UNKNOWN);
        due("leavers(2, 0)", x.leavers(2, 0), UNKNOWN);
        due("no hill", new AbsentPraise().leavers(0, 0), UNKNOWN);
    }

    static void promise19_whatMinus1And2_areOutside() {
        due("leavers(0, -1)", oneOnTheBench().leavers(0, -1), OUTSIDE);
        due("leavers(0, 2)", oneOnTheBench().leavers(0, 2), OUTSIDE);
    }

    static void promise19_unknown_comesAheadOfOutside() {
        due("leavers(2, 2)", oneOnTheBench().leavers(2, 2), UNKNOWN);
    }

    static void promise19_nobody_whenNoneNeedsToLeave() {
        AbsentPraise x = hillOf("r3 0;p0 0;p0 1;l0 1 9;l1 0 9;", 2);
        due("leavers(2, 0)", x.leavers(2, 0), 0);
        due("leavers(2, 1)", x.leavers(2, 1), 10018);
    }

    static void promise19_ofLikeOnes_theFewest_thoughNotTheLeast() {
        // What 0, a mother, says of 1 is 0 in any case: 2 alone (4) brings as much as 0 and 1 (3) do.
        AbsentPraise x = hillOf("r2 0;p1 0;p0 0;p0 0;l0 1 4;l1 2 9;l2 0 9;", 3);
        due("leavers(1, 1)", x.leavers(1, 1), 10018);
        due("leavers(1, 0)", x.leavers(1, 0), 4);
    }

    static void promise19_ofAsFew_theLeast() {
        AbsentPraise x = hillOf("r2 0;p0 0;p0 0;l0 1 9;l1 0 9;", 2);
        due("either", x.leavers(1, 0), 1);
    }

    static void promise19_ofAsFew_theLeast_ofTwoEach() {
        // Each speaks of the next: 0 and 2 (5), or 1 and 3 (10), part them all.
        AbsentPraise x = hillOf("r2 0;" + "p0 0;".repeat(4) + "l0 1 9;l1 2 9;l2 3 9;l3 0 9;", 4);
        due("leavers(1, 1)", x.leavers(1, 1), 10036);
        due("leavers(1, 0)", x.leavers(1, 0), 5);
    }

    static void promise19_whoIsThereAlready_needNotBeOfThem() {
        // Once 1 is with 3 all are parted: 1 and 3 (10) would be as good, but are more.
        AbsentPraise x = hillOf("r2 0;" + "p0 0;".repeat(3) + "p0 1;l0 1 9;l1 2 9;l2 3 9;l3 0 9;", 4);
        due("leavers(1, 1)", x.leavers(1, 1), 10036);
        due("leavers(1, 0)", x.leavers(1, 0), 2);
    }

    static void promise19_sevenPersons() {
        // Mothers say 5 of the next one, if it is apart: of seven in a ring six can be, by three that leave.
        AbsentPraise x = hillOf("r2 0;" + "p1 0;".repeat(7), 7);
        due("leavers(1, 1)", x.leavers(1, 1), 10030);
        due("leavers(1, 0)", x.leavers(1, 0), 1 + 4 + 16);
    }

    static void promise19_aCoughOnTheBench_isThere() {
        AbsentPraise x = hillOf("r3 0;b0 1;b1 0;p0 0;p0 1;l0 1 9;l1 0 9;", 2);
        x.cough(0);
        x.cough(1);
        due("to 0", x.leavers(0, 1), 10000);
        due("to 2", x.leavers(2, 1), 10018);
        due("who", x.leavers(2, 0), 1);
    }

    static void promise19_toTheRoomWhereAllAre() {
        AbsentPraise x = hillOf("r2 0;p0 0;p0 0;l0 1 9;l1 0 4;", 2);
        due("leavers(0, 0)", x.leavers(0, 0), 0);
        due("leavers(0, 1)", x.leavers(0, 1), 9995);
    }

    static void promise19_heardOrNot() {
        // There are no benches: what is said of who left is heard by none.
        AbsentPraise x = hillOf("r2 0;p0 0;p0 0;l0 1 9;l1 0 9;", 2);
        due("leavers(1, 1)", x.leavers(1, 1), 10018);
    }

    static void promise19_inTheNextHour_byItsTurns() {
        AbsentPraise x = hillOf("r2 0;p0 0;p0 0;l0 1 9;l1 0 9;", 2);
        x.hour(1);
        // In the second HOUR of two each would speak of itself.
        due("leavers(1, 0)", x.leavers(1, 0), 0);
        due("leavers(1, 1)", x.leavers(1, 1), 10000);
    }

    static void promise19_aCoughGoesAlong() {
        AbsentPraise x = hillOf("r3 0;b0 1;b0 2;p0 0;p0 0;l0 1 9;l1 0 0;", 2);
        x.cough(0);
        // 1 says of 0, coughing on the bench, -9: 1 leaves for where no bench brings it.
        due("leavers(1, 0)", x.leavers(1, 0), 2);
        due("leavers(1, 1)", x.leavers(1, 1), 10009);
    }

    static void promise19_nobodyOnTheHill() {
        AbsentPraise x = hillOf("r2 0;", 0);
        due("leavers(1, 0)", x.leavers(1, 0), 0);
        due("leavers(1, 1)", x.leavers(1, 1), 10000);
    }

    static void promise19_oneAlone() {
        AbsentPraise x = hillOf("r2 0;p0 0;", 1);
        due("leavers(1, 0)", x.leavers(1, 0), 0);
        due("leavers(1, 1)", x.leavers(1, 1), 10000);
    }

    static void promise19_nothingChangesByIt() {
        AbsentPraise x = hillOf("r2 0;p0 0;p0 0;l0 1 9;l1 0 9;", 2);
        x.cough(0);
        String before = Cases.seen(x);
        x.leavers(1, 0);
        x.leavers(1, 1);
        Cases.same("what is seen", Cases.seen(x), before);
    }

    // ---- promise 20: silent

    static void promise20_iBelow0_isNone() {
        AbsentPraise x = hillOf("r2 0;p0 0;p0 0;", 2);
        due("silent(-1)", x.silent(-1), NONE);
        due("silent(least)", x.silent(Integer.MIN_VALUE), NONE);
    }

    static void promise20_iPastTheLast_isNone() {
        AbsentPraise x = hillOf("r2 0;p0 0;p0 0;", 2);
        due("silent(0)", x.silent(0), 1);
        due("silent(1)", x.silent(1), NONE);
        due("silent(most)", x.silent(Integer.MAX_VALUE), NONE);
    }

    static void promise20_withoutPairs_isNone() {
        due("no hill", new AbsentPraise().silent(0), NONE);
        due("nobody", hillOf("r2 0;", 0).silent(0), NONE);
        due("one alone", hillOf("r2 0;p0 0;", 1).silent(0), NONE);
        due("praised", hillOf("r2 0;p0 0;p0 1;", 2).silent(0), NONE);
    }

    static void promise20_risingPairs_theLesserFirst() {
        AbsentPraise x = hillOf("r2 0;" + "p0 0;".repeat(7), 7);
        int i = 0;
        for (int p = 0; p < 7; p++) {
            for (int q = p + 1; q < 7; q++) {
                due("silent(" + i + ")", x.silent(i), 100 * p + q);
                i++;
            }
        }
        due("silent(21)", x.silent(i), NONE);
    }

    static void promise20_onlySilentPairsAreCounted() {
        // In ROOM 0 are 0 and 1, in 1 2 and 3; 0 and 2 say 0 of each other too.
        AbsentPraise x = hillOf("r2 0;p0 0;p0 0;p0 1;p0 1;l0 2 4;l2 0 3;l1 3 2;", 4);
        due("silent(0)", x.silent(0), 1);
        due("silent(1)", x.silent(1), 2);
        due("silent(2)", x.silent(2), 203);
        due("silent(3)", x.silent(3), NONE);
    }

    static void promise20_neitherAbove0() {
        // 0 and 1 say 0 of each other, 0 praises 2, 2 praises 1.
        AbsentPraise x = hillOf("r3 0;p0 0;p0 1;p0 2;l0 1 4;l1 0 4;l2 0 4;l1 2 4;", 3);
        due("silent(0)", x.silent(0), 1);
        due("silent(1)", x.silent(1), NONE);
    }

    static void promise20_aCoughMayMakeAPair() {
        AbsentPraise x = hillOf("r2 0;b0 1;b1 0;p0 0;p0 1;", 2);
        x.cough(0);
        due("one praises still", x.silent(0), NONE);
        x.cough(1);
        due("neither", x.silent(0), 1);
    }

    // ---- promise 21: carried

    static void promise21_n0_isWhoKnowsNow() {
        due("carried(1, 0)", hillOf("r2 0;p0 0;p0 0;", 2).carried(1, 0), 2);
    }

    static void promise21_n20_isTaken() {
        due("carried(1, 20)", hillOf("r2 0;p0 0;p0 0;", 2).carried(1, 20), 3);
    }

    static void promise21_nMinus2And21_areOutside() {
        AbsentPraise x = hillOf("r2 0;p0 0;p0 0;", 2);
        due("carried(0, -2)", x.carried(0, -2), OUTSIDE);
        due("carried(0, 21)", x.carried(0, 21), OUTSIDE);
        due("carried(0, least)", x.carried(0, Integer.MIN_VALUE), OUTSIDE);
    }

    static void promise21_personsThatThereAreNot_areUnknown() {
        AbsentPraise x = hillOf("r2 0;p0 0;p0 0;", 2);
        due("carried(-1, 0)", x.carried(-1, 0), UNKNOWN);
        due("carried(2, -1)", x.carried(2, -1), UNKNOWN);
    }

    static void promise21_unknown_comesAheadOfOutside() {
        due("carried(2, 21)", hillOf("r2 0;p0 0;p0 0;", 2).carried(2, 21), UNKNOWN);
    }

    static void promise21_none_behindHowManyAllDo() {
        AbsentPraise x = hillOf("r6 0;b0 1;b1 2;b2 3;b3 4;b4 5;p0 0;p0 1;p0 2;p0 3;p0 4;p0 5;p0 5;", 7);
        due("a row of six rooms", x.carried(0, NONE), 5);
        due("behind four", x.carried(0, 4), 31);
        due("behind five", x.carried(0, 5), 127);
    }

    static void promise21_none_oneAlone_is0() {
        due("carried(0, -1)", hillOf("r2 0;p0 0;", 1).carried(0, NONE), 0);
    }

    static void promise21_none_never() {
        AbsentPraise x = hillOf("r2 0;b0 1;p0 0;p0 1;", 2);
        due("from 0", x.carried(0, NONE), 1);
        due("from 1", x.carried(1, NONE), NONE);
        due("from 1 behind 20", x.carried(1, 20), 2);
    }

    static void promise21_onlyWhoKnewAheadOfTheHour_saysIt() {
        AbsentPraise x = hillOf("r3 0;b0 1;b1 2;p0 0;p0 1;p0 2;", 3);
        due("behind one", x.carried(0, 1), 3);
        due("behind two", x.carried(0, 2), 7);
        AbsentPraise falling = hillOf("r3 0;b2 1;b1 0;p0 0;p0 1;p0 2;", 3);
        due("behind one", falling.carried(2, 1), 6);
        due("behind two", falling.carried(2, 2), 7);
    }

    static void promise21_morePersonsThanRooms_eachSaysIt() {
        // 6 alone is heard where the others are.
        AbsentPraise x = hillOf("r2 0;b1 0;" + "p0 0;".repeat(6) + "p0 1;", 7);
        due("carried(6, 1)", x.carried(6, 1), 127);
        due("carried(6, -1)", x.carried(6, NONE), 1);
        due("carried(0, 20)", x.carried(0, 20), 63);
    }

    static void promise21_twoWhoKnowInOneRoom() {
        AbsentPraise x = hillOf("r3 0;b0 1;b1 2;p0 0;p0 1;p0 1;p0 2;", 4);
        due("carried(0, 1)", x.carried(0, 1), 7);
        due("carried(0, 2)", x.carried(0, 2), 15);
        due("carried(0, -1)", x.carried(0, NONE), 2);
    }

    static void promise21_personsAreNotRooms() {
        due("a room, nobody", hillOf("r6 0;p0 0;", 1).carried(1, 0), UNKNOWN);
        due("somebody, no room", hillOf("r2 0;" + "p0 0;".repeat(7), 7).carried(6, 0), 64);
    }

    static void promise21_anEmptyRoomCarriesNothing() {
        // 0 is heard in 1, where none is to say it on.
        AbsentPraise x = hillOf("r3 0;b0 1;b1 2;p0 0;p0 2;", 2);
        due("carried(0, 20)", x.carried(0, 20), 1);
    }

    static void promise21_allInTheRoom_andOnTheBench() {
        AbsentPraise x = hillOf("r3 0;b0 1;p0 0;p0 0;p0 1;p0 2;", 4);
        due("carried(0, 1)", x.carried(0, 1), 7);
    }

    static void promise21_waysCoughsAndTurns_areNoMatter() {
        AbsentPraise x = hillOf("r3 0;b0 1;g0 2;p3 0;p0 1;p0 2;", 3);
        x.hour(1);
        x.cough(2);
        due("carried(0, 20)", x.carried(0, 20), 3);
    }

    static void promise21_nothingChangesByIt() {
        AbsentPraise x = hillOf("r2 0;p0 0;p0 0;", 2);
        String before = Cases.seen(x);
        x.carried(0, 20);
        x.carried(0, NONE);
        Cases.same("what is seen", Cases.seen(x), before);
    }

    // ---- promise 22: hale

    static void promise22_n0_isABillion() {
        due("hale(0, 0)", new AbsentPraise().hale(0, 0), 1000000000);
        due("hale(0, 100)", new AbsentPraise().hale(0, 100), 1000000000);
    }

    static void promise22_n60_isTaken() {
        due("hale(60, 100)", new AbsentPraise().hale(60, 100), 1000000000);
        due("hale(60, 99)", new AbsentPraise().hale(60, 99), 547156620);
        due("hale(60, 50)", new AbsentPraise().hale(60, 50), 0);
    }

    static void promise22_nMinus1And61_areOutside() {
        due("hale(-1, 50)", new AbsentPraise().hale(-1, 50), OUTSIDE);
        due("hale(61, 50)", new AbsentPraise().hale(61, 50), OUTSIDE);
    }

    static void promise22_q0And100_areTaken() {
        due("hale(1, 0)", new AbsentPraise().hale(1, 0), 0);
        due("hale(1, 100)", new AbsentPraise().hale(1, 100), 1000000000);
    }

    static void promise22_qMinus1And101_areOutside() {
        due("hale(1, -1)", new AbsentPraise().hale(1, -1), OUTSIDE);
        due("hale(1, 101)", new AbsentPraise().hale(1, 101), OUTSIDE);
    }

    static void promise22_bothOutside_evenForNoNight() {
        due("hale(0, 101)", new AbsentPraise().hale(0, 101), OUTSIDE);
        due("hale(0, -1)", new AbsentPraise().hale(0, -1), OUTSIDE);
    }

    static void promise22_aBillionTimesAHundred_doesNotWrapAround() {
        due("hale(1, 99)", new AbsentPraise().hale(1, 99), 990000000);
        due("hale(1, 37)", new AbsentPraise().hale(1, 37), 370000000);
    }

    static void promise22_cutEachNight() {
        // 1000000000, 330000000, 108900000, 35937000, 11859210, 3913539(.3), 1291467(.87), 426184(.11)
        due("hale(5, 33)", new AbsentPraise().hale(5, 33), 3913539);
        due("hale(6, 33)", new AbsentPraise().hale(6, 33), 1291467);
        due("hale(7, 33)", new AbsentPraise().hale(7, 33), 426184);
    }

    public static void main(String[] args) throws IllegalAccessException {
        Cases.run(TrialCasesTest.class);
    }
}
