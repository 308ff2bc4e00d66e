/** The boundary cases of promises 10 to 15 and of the document's sections 2 and 3 that they show, one method each. */
public final class DeedCasesTest {
    private static final int UNKNOWN = Cases.UNKNOWN, OUTSIDE = Cases.OUTSIDE, NOT = Cases.NOT, FULL = Cases.FULL;
    private static final int[] DRAWS_TO_GO = {4, 2, 2};
    private static final int[] DRAWS_TO_COUGH = {4, 2};
    private static final int[] DRAWS_TO_LIKE = {4, 2, 2, 10};

    private static void due(String what, long got, long want) {
        Cases.due(what, got, want);
    }

    private static AbsentPraise hillOf(String text, int persons) {
        return Cases.hillOf(text, persons);
    }

    /** A hill with so many HOURS behind it. */
    private static AbsentPraise hillBehind(int hours, String text, int persons) {
        AbsentPraise x = hillOf(text, persons);
        for (int i = 0; i < hours / 60; i++) {
            x.hour(60);
        }
        if (hours % 60 > 0) {
            x.hour(hours % 60);
        }
        return x;
    }

    private static void dueWarms(AbsentPraise x, int first, int second, int third) {
        due("warm of 0", x.person(0, 2), 10000 + first);
        due("warm of 1", x.person(1, 2), 10000 + second);
        due("warm of 2", x.person(2, 2), 10000 + third);
    }

    /** A call was refused: nothing may have changed, nor be kept to be undone. */
    private static void refused(AbsentPraise x, String before, String call, long got, long want) {
        due(call, got, want);
        Cases.same("what is seen behind " + call, Cases.seen(x), before);
    }

    // ---- promise 10: hour

    static void promise10_n1_isTaken() {
        due("hour(1)", hillOf("r2 0;p0 0;", 1).hour(1), 1);
    }

    static void promise10_n60_isTaken() {
        due("hour(60)", hillOf("r2 0;p0 0;", 1).hour(60), 60);
    }

    static void promise10_n0_isOutside() {
        due("hour(0)", hillOf("r2 0;p0 0;", 1).hour(0), OUTSIDE);
        due("hour(-1)", hillOf("r2 0;p0 0;", 1).hour(-1), OUTSIDE);
        due("hour(least)", hillOf("r2 0;p0 0;", 1).hour(Integer.MIN_VALUE), OUTSIDE);
    }

    static void promise10_n61_isOutside() {
        due("hour(61)", hillOf("r2 0;p0 0;", 1).hour(61), OUTSIDE);
        due("hour(most)", hillOf("r2 0;p0 0;", 1).hour(Integer.MAX_VALUE), OUTSIDE);
    }

    static void promise10_noHill_isNot() {
        due("hour(1)", new AbsentPraise().hour(1), NOT);
        due("hour(60)", new AbsentPraise().hour(60), NOT);
    }

    static void promise10_outside_comesAheadOfNot() {
        due("hour(0)", new AbsentPraise().hour(0), OUTSIDE);
        due("hour(61)", new AbsentPraise().hour(61), OUTSIDE);
    }

    static void promise10_at9000Hours_itGoesOn() {
        AbsentPraise x = hillBehind(9000, "r2 0;", 0);
        due("hour(1)", x.hour(1), 9001);
    }

    static void promise10_at9000Hours_nMayPassThat() {
        AbsentPraise x = hillBehind(9000, "r2 0;", 0);
        due("hour(60)", x.hour(60), 9060);
    }

    static void promise10_at9001Hours_isFull() {
        AbsentPraise x = hillBehind(9001, "r2 0;", 0);
        refused(x, Cases.seen(x), "hour(1)", x.hour(1), FULL);
    }

    static void promise10_outside_comesAheadOfFull() {
        AbsentPraise x = hillBehind(9001, "r2 0;", 0);
        due("hour(0)", x.hour(0), OUTSIDE);
        due("hour(61)", x.hour(61), OUTSIDE);
    }

    static void promise10_fullUndone_itGoesOn() {
        AbsentPraise x = hillBehind(9001, "r2 0;", 0);
        x.undo();
        due("hour(2)", x.hour(2), 9002);
    }

    static void promise10_refused_changesNothing() {
        AbsentPraise x = hillOf("r2 3;p0 0;p0 0;", 2);
        x.hour(1);
        x.cough(0);
        String before = Cases.seen(x);
        refused(x, before, "hour(0)", x.hour(0), OUTSIDE);
        refused(x, before, "hour(61)", x.hour(61), OUTSIDE);
    }

    static void promise10_aHillOfNoPersons_hoursPass() {
        AbsentPraise x = hillOf("r2 3;", 0);
        due("hour(3)", x.hour(3), 3);
        due("told(6)", x.told(6), 3);
    }

    static void promise10_onePersonAlone_hearsNothing() {
        AbsentPraise x = hillOf("r2 3;p0 0;", 1);
        x.hour(60);
        due("warm", x.person(0, 2), 10000);
        due("chilled", x.person(0, 3), 60);
    }

    /** V less 9: of 1 by 0 -8, of 2 by 0 -7, of 0 by 1 -6, of 2 by 1 -5, of 0 by 2 -4, of 1 by 2 -3. */
    private static AbsentPraise threeInARoom() {
        return hillOf("r2 0;p0 0;p0 0;p0 0;l0 1 1;l0 2 2;l1 0 3;l1 2 4;l2 0 5;l2 1 6;", 3);
    }

    static void promise10_theFirstHour_eachSpeaksOfTheNext() {
        AbsentPraise x = threeInARoom();
        x.hour(1);
        dueWarms(x, -4, -8, -5);
    }

    static void promise10_theSecondHour_eachSpeaksOfTheOneButNext() {
        AbsentPraise x = threeInARoom();
        x.hour(2);
        dueWarms(x, -4 - 6, -8 - 3, -5 - 7);
    }

    static void promise10_noneSpeaksOfItself() {
        AbsentPraise x = threeInARoom();
        x.hour(3);
        dueWarms(x, -10, -11, -12);
    }

    static void promise10_theTurnsWrapAround() {
        AbsentPraise x = threeInARoom();
        x.hour(4);
        dueWarms(x, -14, -19, -17);
    }

    static void promise10_manyHoursAreAsManyOfOne() {
        AbsentPraise x = threeInARoom();
        AbsentPraise y = threeInARoom();
        x.hour(7);
        for (int i = 0; i < 7; i++) {
            y.hour(1);
        }
        for (int p = 0; p < 3; p++) {
            due("warm of " + p, x.person(p, 2), y.person(p, 2));
        }
        due("undone in one", x.undo(), 0);
        due("hours", x.told(6), 0);
    }

    static void promise10_notHeard_notWarm() {
        AbsentPraise x = hillOf("r2 0;p0 0;p0 1;l0 1 9;", 2);
        x.hour(60);
        due("warm", x.person(1, 2), 10000);
    }

    static void promise10_heardOnTheBench_isWarm() {
        AbsentPraise x = hillOf("r2 0;b0 1;p0 0;p0 1;l0 1 9;", 2);
        x.hour(1);
        due("warm of 1", x.person(1, 2), 10009);
        due("warm of 0", x.person(0, 2), 10000);
    }

    static void promise10_aboveTheMost_isLost() {
        // 8 each two HOURS: 1249 times are 9992.
        AbsentPraise x = hillBehind(2498, "r2 0;b0 1;p0 0;p0 1;l0 1 8;", 2);
        due("ahead", x.person(1, 2), 19992);
        x.hour(1);
        due("bounded", x.person(1, 2), 19999);
        x.like(0, 1, 7);
        x.hour(2);
        due("still", x.person(1, 2), 19999);
    }

    static void promise10_whatWasLostAbove_doesNotComeBack() {
        AbsentPraise x = hillBehind(2520, "r2 0;b0 1;p0 0;p0 1;l0 1 8;", 2);
        due("bounded", x.person(1, 2), 19999);
        x.cough(1);
        x.hour(1);
        due("less 1", x.person(1, 2), 19998);
    }

    static void promise10_belowTheLeast_isLost() {
        // -8 each two HOURS: 1249 times are -9992.
        AbsentPraise x = hillBehind(2498, "r2 0;b0 1;g0 1;p0 0;p0 0;l0 1 1;", 2);
        due("ahead", x.person(1, 2), 8);
        x.hour(2);
        due("bounded", x.person(1, 2), 1);
        x.hour(2);
        due("still", x.person(1, 2), 1);
        x.like(0, 1, 9);
        x.go(1, 1);
        x.hour(1);
        due("and 9", x.person(1, 2), 10);
    }

    static void promise10_inAColdRoom_oneMoreChilled() {
        AbsentPraise x = hillOf("r2 2;p0 0;p0 1;", 2);
        x.hour(1);
        due("in the cold one", x.person(1, 3), 1);
        due("in the other", x.person(0, 3), 0);
    }

    static void promise10_morePersonsThanRooms_allAreChilled() {
        AbsentPraise x = hillOf("r2 2;" + "p0 1;".repeat(7), 7);
        x.hour(2);
        for (int p = 0; p < 7; p++) {
            due("chilled of " + p, x.person(p, 3), 2);
        }
    }

    static void promise10_inAnotherRoom_oneLess_0AtLeast() {
        AbsentPraise x = hillOf("r2 2;g0 1;p0 1;", 1);
        x.hour(2);
        x.go(0, 0);
        x.hour(1);
        due("one less", x.person(0, 3), 1);
        x.hour(1);
        due("none", x.person(0, 3), 0);
        x.hour(5);
        due("0 at least", x.person(0, 3), 0);
        x.go(0, 1);
        x.hour(1);
        due("one more from 0", x.person(0, 3), 1);
    }

    static void promise10_chilled99_isTheMost() {
        AbsentPraise x = hillOf("r2 2;g0 1;p0 1;", 1);
        x.hour(60);
        x.hour(38);
        due("chilled", x.person(0, 3), 98);
        x.hour(1);
        due("the most", x.person(0, 3), 99);
        x.hour(60);
        due("still", x.person(0, 3), 99);
        x.go(0, 0);
        x.hour(1);
        due("one less", x.person(0, 3), 98);
    }

    static void promise10_aCough_countsInTheFirstHourAlone() {
        // Alone in the first of three HOURS 1 is THERE: -1, nothing, 8.
        AbsentPraise x = hillOf("r2 0;b0 1;p0 0;p0 1;l0 1 8;", 2);
        x.cough(1);
        x.hour(3);
        due("warm", x.person(1, 2), 10007);
    }

    static void promise10_nobodyCoughsBehindIt() {
        AbsentPraise x = hillOf("r2 0;p0 0;p0 1;", 2);
        x.cough(0);
        x.cough(1);
        x.hour(1);
        due("told(7)", x.told(7), 0);
        due("person(0, 4)", x.person(0, 4), 0);
    }

    // ---- promise 11: go

    static void promise11_theRoomWhereItWas() {
        AbsentPraise x = hillOf("r3 0;g1 2;p0 2;", 1);
        due("go(0, 1)", x.go(0, 1), 2);
        due("room", x.person(0, 1), 1);
    }

    static void promise11_aWayLeadsBothWays() {
        AbsentPraise x = hillOf("r2 0;g0 1;p0 0;p0 1;", 2);
        due("go(0, 1)", x.go(0, 1), 0);
        due("go(1, 0)", x.go(1, 0), 1);
    }

    static void promise11_noWay_isNot() {
        AbsentPraise x = hillOf("r3 0;g0 1;g1 2;p0 0;", 1);
        due("two ways in a row", x.go(0, 2), NOT);
    }

    static void promise11_toItsOwnRoom_isNot() {
        due("go(0, 0)", hillOf("r2 0;g0 1;p0 0;", 1).go(0, 0), NOT);
    }

    static void promise11_aBenchIsNoWay() {
        due("go(0, 1)", hillOf("r2 0;b0 1;b1 0;p0 0;", 1).go(0, 1), NOT);
    }

    static void promise11_personsThatThereAreNot_areUnknown() {
        AbsentPraise x = hillOf("r2 0;g0 1;p0 0;", 1);
        due("go(-1, 1)", x.go(-1, 1), UNKNOWN);
        due("go(1, 1)", x.go(1, 1), UNKNOWN);
        due("go(most, 1)", x.go(Integer.MAX_VALUE, 1), UNKNOWN);
    }

    static void promise11_roomsThatThereAreNot_areUnknown() {
        AbsentPraise x = hillOf("r2 0;g0 1;p0 0;", 1);
        due("go(0, -1)", x.go(0, -1), UNKNOWN);
        due("go(0, 2)", x.go(0, 2), UNKNOWN);
        due("go(0, least)", x.go(0, Integer.MIN_VALUE), UNKNOWN);
    }

    static void promise11_unknown_comesAheadOfNot() {
        AbsentPraise x = hillOf("r2 0;p0 0;", 1);
        due("no way, nobody", x.go(1, 1), UNKNOWN);
        due("no way, no room", x.go(0, 2), UNKNOWN);
        due("no hill", new AbsentPraise().go(0, 0), UNKNOWN);
    }

    static void promise11_refused_changesNothing() {
        AbsentPraise x = hillOf("r3 0;g0 1;p0 0;", 1);
        String before = Cases.seen(x);
        refused(x, before, "go(0, 2)", x.go(0, 2), NOT);
        refused(x, before, "go(0, 3)", x.go(0, 3), UNKNOWN);
        refused(x, before, "go(1, 1)", x.go(1, 1), UNKNOWN);
    }

    static void promise11_aCoughGoesAlong() {
        AbsentPraise x = hillOf("r2 0;b0 1;g0 1;p0 0;p0 0;l0 1 8;", 2);
        x.cough(1);
        x.go(1, 1);
        due("coughs", x.told(7), 2);
        due("there by it", x.said(0, 1, 0), 99);
    }

    // ---- promise 12: cough

    static void promise12_whoDoes_isASet() {
        AbsentPraise x = hillOf("r2 0;" + "p0 0;".repeat(7), 7);
        due("cough(6)", x.cough(6), 64);
        due("cough(0)", x.cough(0), 65);
    }

    static void promise12_again_isNot() {
        AbsentPraise x = hillOf("r2 0;p0 0;p0 0;", 2);
        x.cough(1);
        String before = Cases.seen(x);
        refused(x, before, "cough(1)", x.cough(1), NOT);
    }

    static void promise12_behindTheHour_itMayAgain() {
        AbsentPraise x = hillOf("r2 0;p0 0;p0 0;", 2);
        x.cough(1);
        x.hour(1);
        due("cough(1)", x.cough(1), 2);
    }

    static void promise12_personsThatThereAreNot_areUnknown() {
        AbsentPraise x = hillOf("r2 0;p0 0;", 1);
        String before = Cases.seen(x);
        refused(x, before, "cough(-1)", x.cough(-1), UNKNOWN);
        refused(x, before, "cough(1)", x.cough(1), UNKNOWN);
        refused(x, before, "cough(32)", x.cough(32), UNKNOWN);
        due("no hill", new AbsentPraise().cough(0), UNKNOWN);
    }

    // ---- promise 13: like

    static void promise13_v0And9_areTaken() {
        AbsentPraise x = hillOf("r2 0;p0 0;p0 0;", 2);
        due("like(0, 1, 0)", x.like(0, 1, 0), 5);
        due("like(0, 1, 9)", x.like(0, 1, 9), 0);
        due("liking(0, 1)", x.liking(0, 1), 9);
    }

    static void promise13_vMinus1And10_areOutside() {
        AbsentPraise x = hillOf("r2 0;p0 0;p0 0;", 2);
        String before = Cases.seen(x);
        refused(x, before, "like(0, 1, -1)", x.like(0, 1, -1), OUTSIDE);
        refused(x, before, "like(0, 1, 10)", x.like(0, 1, 10), OUTSIDE);
    }

    static void promise13_personsThatThereAreNot_areUnknown() {
        AbsentPraise x = hillOf("r2 0;p0 0;p0 0;", 2);
        String before = Cases.seen(x);
        refused(x, before, "like(-1, 0, 5)", x.like(-1, 0, 5), UNKNOWN);
        refused(x, before, "like(0, -1, 5)", x.like(0, -1, 5), UNKNOWN);
        refused(x, before, "like(2, 0, 5)", x.like(2, 0, 5), UNKNOWN);
        refused(x, before, "like(0, 2, 5)", x.like(0, 2, 5), UNKNOWN);
    }

    static void promise13_onePersonTwice_isUnknown() {
        AbsentPraise x = hillOf("r2 0;p0 0;p0 0;", 2);
        refused(x, Cases.seen(x), "like(1, 1, 5)", x.like(1, 1, 5), UNKNOWN);
    }

    static void promise13_unknown_comesAheadOfOutside() {
        AbsentPraise x = hillOf("r2 0;p0 0;p0 0;", 2);
        due("like(0, 2, 10)", x.like(0, 2, 10), UNKNOWN);
        due("like(0, 0, 10)", x.like(0, 0, 10), UNKNOWN);
    }

    static void promise13_theSameNumber_isNotRefused() {
        AbsentPraise x = hillOf("r2 0;p0 0;p0 0;", 2);
        due("like(0, 1, 5)", x.like(0, 1, 5), 5);
        due("can be undone", x.told(13), 1);
    }

    static void promise13_whatItWas_ofEachPair() {
        AbsentPraise x = hillOf("r2 0;" + "p0 0;".repeat(3) + "l0 1 1;l1 0 2;l1 2 3;l2 1 4;", 3);
        due("like(0, 1, 9)", x.like(0, 1, 9), 1);
        due("like(1, 0, 8)", x.like(1, 0, 8), 2);
        due("like(1, 2, 7)", x.like(1, 2, 7), 3);
        due("like(2, 1, 6)", x.like(2, 1, 6), 4);
        due("like(2, 0, 6)", x.like(2, 0, 6), 5);
        due("like(1, 2, 0)", x.like(1, 2, 0), 7);
    }

    static void promise13_theOtherWay_stays() {
        AbsentPraise x = hillOf("r2 0;p0 0;p0 0;", 2);
        x.like(0, 1, 9);
        due("liking(1, 0)", x.liking(1, 0), 5);
    }

    // ---- promise 14: drift

    static void promise14_n1And60_areTaken() {
        due("drift(1)", hillOf("r2 0;p0 0;", 1).drift(1), 1);
        due("drift(60)", hillOf("r2 0;p0 0;", 1).drift(60), 60);
    }

    static void promise14_n0And61_areOutside() {
        AbsentPraise x = hillOf("r2 0;p0 0;p0 0;", 2);
        String before = Cases.seen(x);
        refused(x, before, "drift(0)", x.drift(0), OUTSIDE);
        refused(x, before, "drift(-1)", x.drift(-1), OUTSIDE);
        refused(x, before, "drift(61)", x.drift(61), OUTSIDE);
    }

    static void promise14_noHill_isNot() {
        AbsentPraise x = new AbsentPraise();
        refused(x, Cases.seen(x), "drift(1)", x.drift(1), NOT);
    }

    static void promise14_outside_comesAheadOfNot() {
        due("drift(0)", new AbsentPraise().drift(0), OUTSIDE);
        due("drift(61)", new AbsentPraise().drift(61), OUTSIDE);
    }

    static void promise14_at9000Hours_nMayPassThat() {
        AbsentPraise x = hillBehind(9000, "r2 0;", 0);
        due("drift(60)", x.drift(60), 9060);
    }

    static void promise14_at9001Hours_isFull() {
        AbsentPraise x = hillBehind(9001, "r2 0;p0 0;", 1);
        refused(x, Cases.seen(x), "drift(1)", x.drift(1), FULL);
    }

    static void promise14_outside_comesAheadOfFull() {
        AbsentPraise x = hillBehind(9001, "r2 0;", 0);
        due("drift(0)", x.drift(0), OUTSIDE);
        due("drift(61)", x.drift(61), OUTSIDE);
    }

    static void promise14_noPersons_noDraws() {
        AbsentPraise x = hillOf("r2 0;", 0);
        x.seed(9);
        due("drift(3)", x.drift(3), 3);
        due("seed", x.seed(0), 9);
    }

    static void promise14_on0_itGoes() {
        AbsentPraise x = hillOf("r2 0;g0 1;p0 0;p0 0;", 2);
        int seed = Cases.seedFor(DRAWS_TO_GO, new int[] {0, 1, 1});
        x.seed(seed);
        x.drift(1);
        due("room of 1", x.person(1, 1), 1);
        due("room of 0", x.person(0, 1), 0);
        due("seed", x.seed(0), Cases.seedBehind(seed, 3));
        due("warm of 1, who is away", x.person(1, 2), 10000);
    }

    static void promise14_on0_withoutAWay_itIsDrawnAndStays() {
        AbsentPraise x = hillOf("r2 0;b0 1;b1 0;p0 0;p0 0;", 2);
        int seed = Cases.seedFor(DRAWS_TO_GO, new int[] {0, 1, 1});
        x.seed(seed);
        x.drift(1);
        due("room of 1", x.person(1, 1), 0);
        due("seed", x.seed(0), Cases.seedBehind(seed, 3));
    }

    static void promise14_on0_byAWayOfItsOwnRoom() {
        // There is a way from 1, where it is, to 2; none from 0, where the other one is.
        AbsentPraise x = hillOf("r3 0;g1 2;p0 0;p0 1;", 2);
        x.seed(Cases.seedFor(new int[] {4, 2, 3}, new int[] {0, 1, 2}));
        x.drift(1);
        due("room of 1", x.person(1, 1), 2);
        due("room of 0", x.person(0, 1), 0);
    }

    static void promise14_on0_itDoesNotCough() {
        // It goes to the bench, where it hears 8; it would hear -1, if it coughed.
        AbsentPraise x = hillOf("r3 0;g1 2;b0 2;p0 0;p0 1;l0 1 8;", 2);
        x.seed(Cases.seedFor(new int[] {4, 2, 3}, new int[] {0, 1, 2}));
        x.drift(1);
        due("room of 1", x.person(1, 1), 2);
        due("warm of 1", x.person(1, 2), 10008);
    }

    static void promise14_on0_toItsOwnRoom_itStays() {
        AbsentPraise x = hillOf("r2 0;g0 1;p0 0;p0 0;", 2);
        x.seed(Cases.seedFor(DRAWS_TO_GO, new int[] {0, 1, 0}));
        x.drift(1);
        due("room of 1", x.person(1, 1), 0);
    }

    static void promise14_on1_itCoughsInThatHour() {
        AbsentPraise x = hillOf("r2 0;b0 1;p0 0;p0 1;l0 1 8;", 2);
        int seed = Cases.seedFor(DRAWS_TO_COUGH, new int[] {1, 1});
        x.seed(seed);
        x.drift(1);
        due("warm of 1", x.person(1, 2), 9999);
        due("who coughs behind", x.told(7), 0);
        due("seed", x.seed(0), Cases.seedBehind(seed, 2));
    }

    static void promise14_on1_itCoughedAlready() {
        AbsentPraise x = hillOf("r2 0;b0 1;p0 0;p0 1;l0 1 8;", 2);
        int seed = Cases.seedFor(DRAWS_TO_COUGH, new int[] {1, 1});
        x.cough(1);
        x.seed(seed);
        due("drift(1)", x.drift(1), 1);
        due("warm of 1", x.person(1, 2), 9999);
        due("seed", x.seed(0), Cases.seedBehind(seed, 2));
    }

    static void promise14_on1_whoCoughedAlready_goesOn() {
        AbsentPraise x = hillOf("r2 0;b0 1;p0 0;p0 1;l0 1 8;", 2);
        x.cough(1);
        x.seed(Cases.seedFor(DRAWS_TO_COUGH, new int[] {1, 0}));
        x.drift(1);
        due("warm of 1, as 0 coughed too", x.person(1, 2), 9999);
    }

    static void promise14_on2_itLikesAnother() {
        for (int v = 0; v <= 9; v++) {
            AbsentPraise x = hillOf("r2 0;p0 0;p0 1;", 2);
            int seed = Cases.seedFor(DRAWS_TO_LIKE, new int[] {2, 0, 1, v});
            x.seed(seed);
            x.drift(1);
            due("liking(0, 1)", x.liking(0, 1), v);
            due("liking(1, 0)", x.liking(1, 0), 5);
            due("seed", x.seed(0), Cases.seedBehind(seed, 4));
        }
    }

    static void promise14_on2_ofItself_bothAreDrawn() {
        AbsentPraise x = hillOf("r2 0;p0 0;p0 1;", 2);
        int seed = Cases.seedFor(DRAWS_TO_LIKE, new int[] {2, 1, 1, 7});
        x.seed(seed);
        x.drift(1);
        due("liking(0, 1)", x.liking(0, 1), 5);
        due("liking(1, 0)", x.liking(1, 0), 5);
        due("seed", x.seed(0), Cases.seedBehind(seed, 4));
    }

    static void promise14_drawsOfPersonsAndOfRooms_areOfTheirOwnNumber() {
        AbsentPraise x = hillOf("r3 0;g0 2;" + "p0 0;".repeat(5), 5);
        int going = Cases.seedFor(new int[] {4, 5, 3}, new int[] {0, 4, 2});
        x.seed(going);
        x.drift(1);
        due("room of 4", x.person(4, 1), 2);
        due("who is in 2", x.room(2, 0), 16);
        due("seed", x.seed(0), Cases.seedBehind(going, 3));
        int liking = Cases.seedFor(new int[] {4, 5, 5, 10}, new int[] {2, 3, 4, 8});
        x.seed(liking);
        x.drift(1);
        due("liking(3, 4)", x.liking(3, 4), 8);
        due("seed", x.seed(0), Cases.seedBehind(liking, 4));
    }

    static void promise14_moreRoomsThanPersons() {
        AbsentPraise x = hillOf("r6 0;g0 5;p0 0;p0 0;", 2);
        int going = Cases.seedFor(new int[] {4, 2, 6}, new int[] {0, 1, 5});
        x.seed(going);
        x.drift(1);
        due("room of 1", x.person(1, 1), 5);
        int liking = Cases.seedFor(new int[] {4, 2, 2, 10}, new int[] {2, 1, 0, 3});
        x.seed(liking);
        x.drift(1);
        due("liking(1, 0)", x.liking(1, 0), 3);
    }

    static void promise14_on3_nothing() {
        AbsentPraise x = hillOf("r2 0;g0 1;p0 0;p0 1;", 2);
        int seed = Cases.seedFor(DRAWS_TO_COUGH, new int[] {3, 1});
        x.seed(seed);
        x.drift(1);
        due("room of 1", x.person(1, 1), 1);
        due("seed", x.seed(0), Cases.seedBehind(seed, 2));
    }

    static void promise14_aheadOfEachHour() {
        // On 3 and then on 1: the cough is of the second HOUR, in which none is spoken of.
        AbsentPraise x = hillOf("r2 0;b0 1;p0 0;p0 1;l0 1 8;", 2);
        int seed = Cases.seedFor(new int[] {4, 2, 4, 2}, new int[] {3, 0, 1, 1});
        x.seed(seed);
        x.drift(2);
        due("warm of 1", x.person(1, 2), 10008);
        due("seed", x.seed(0), Cases.seedBehind(seed, 4));
    }

    static void promise14_theGreatestSeed_wrapsAround() {
        AbsentPraise x = hillOf("r2 0;p0 0;", 1);
        x.seed(2147483647);
        // (2147483647 * 1103515245 + 12345) left over by 2147483648 is 1043980748: the DRAW of 4 is 1.
        x.drift(1);
        due("seed", x.seed(0), Cases.seedBehind(2147483647, 2));
    }

    static void promise14_undoneAsOne() {
        AbsentPraise x = hillOf("r2 1;g0 1;p0 0;p0 1;", 2);
        String before = Cases.seen(x);
        x.drift(60);
        x.seed(0);
        due("undo()", x.undo(), 0);
        Cases.same("what is seen", Cases.seen(x), before);
    }

    // ---- promise 15: undo

    static void promise15_none_isNot() {
        due("no hill", new AbsentPraise().undo(), NOT);
        due("a new hill", hillOf("r2 0;p0 0;", 1).undo(), NOT);
    }

    static void promise15_howManyMoreCanBe() {
        AbsentPraise x = hillOf("r2 0;p0 0;", 1);
        x.hour(1);
        x.hour(1);
        due("undo()", x.undo(), 1);
        due("undo()", x.undo(), 0);
        due("undo()", x.undo(), NOT);
    }

    static void promise15_the16Latest_areKept() {
        AbsentPraise x = hillOf("r2 0;p0 0;", 1);
        for (int i = 0; i < 16; i++) {
            x.hour(1);
        }
        for (int i = 15; i >= 0; i--) {
            due("undo()", x.undo(), i);
            due("hours", x.told(6), i);
        }
        due("undo()", x.undo(), NOT);
    }

    static void promise15_theOldestOf17_isLost() {
        AbsentPraise x = hillOf("r2 0;p0 0;", 1);
        for (int i = 0; i < 17; i++) {
            x.hour(1);
        }
        due("told(13)", x.told(13), 16);
        for (int i = 15; i >= 0; i--) {
            due("undo()", x.undo(), i);
        }
        due("hours", x.told(6), 1);
        due("undo()", x.undo(), NOT);
    }

    static void promise15_whatIsKept_wrapsAround() {
        AbsentPraise x = hillOf("r2 0;p0 0;", 1);
        for (int i = 0; i < 16; i++) {
            x.hour(1);
        }
        for (int i = 0; i < 10; i++) {
            x.undo();
        }
        for (int i = 0; i < 12; i++) {
            x.hour(2);
        }
        // Six of one HOUR and twelve of two, of which the two oldest are lost.
        due("hours", x.told(6), 30);
        due("told(13)", x.told(13), 16);
        for (int i = 15; i >= 0; i--) {
            due("undo()", x.undo(), i);
            due("hours", x.told(6), i >= 4 ? 6 + 2 * (i - 4) : i + 2);
        }
        due("undo()", x.undo(), NOT);
    }

    static void promise15_anHour_isUndone() {
        AbsentPraise x = hillOf("r2 1;b0 1;p0 0;p0 1;l0 1 8;", 2);
        x.hour(1);
        x.cough(0);
        String before = Cases.seen(x);
        x.hour(3);
        x.undo();
        Cases.same("warm, chilled, who coughs, hours", Cases.seen(x), before);
    }

    static void promise15_goCoughAndLike_areUndone() {
        AbsentPraise x = hillOf("r2 1;g0 1;p0 0;p0 1;", 2);
        String first = Cases.seen(x);
        x.go(0, 1);
        x.undo();
        Cases.same("go", Cases.seen(x), first);
        x.cough(0);
        x.undo();
        Cases.same("cough", Cases.seen(x), first);
        x.like(0, 1, 0);
        x.undo();
        Cases.same("like", Cases.seen(x), first);
    }

    static void promise15_theSeedStays() {
        AbsentPraise x = hillOf("r2 0;p0 0;", 1);
        x.seed(5);
        x.drift(3);
        long drifted = x.seed(0);
        x.seed((int) drifted);
        x.undo();
        due("seed", x.seed(0), drifted);
    }

    static void promise15_notesBookAndText_stay() {
        AbsentPraise x = hillOf("r2 0;p0 0;", 1);
        x.hour(1);
        x.note(0, 9, false);
        x.write(0, 3);
        x.feed('r');
        x.undo();
        due("noted", x.told(11), 1);
        due("book", x.told(12), 1);
        due("text", x.told(5), 1);
    }

    static void promise15_imagesStay() {
        AbsentPraise x = hillOf("r2 0;p0 0;", 1);
        x.hour(2);
        x.keep(1);
        x.hour(1);
        x.undo();
        due("goBack(1)", x.goBack(1), 1);
        due("hours", x.told(6), 2);
    }

    static void promise15_otherCalls_areNotKept() {
        AbsentPraise x = hillOf("r2 0;p0 0;p0 1;", 2);
        x.note(0, 9, false);
        x.write(0, 3);
        x.tear();
        x.seed(4);
        x.warm(0, 5);
        x.bestRoom(0, 5, 0);
        x.route(0, 5, 0);
        x.leavers(0, 0);
        x.carried(0, 5);
        x.listens(0, 1, 5);
        x.feed('x');
        x.hill();
        due("told(13)", x.told(13), 0);
        due("undo()", x.undo(), NOT);
    }

    static void promise15_refusedCalls_areNotKept() {
        AbsentPraise x = hillOf("r3 0;g0 1;p0 0;p0 1;", 2);
        x.cough(0);
        x.hour(0);
        x.go(0, 2);
        x.go(0, 3);
        x.cough(0);
        x.cough(2);
        x.like(0, 1, 10);
        x.like(0, 0, 5);
        x.drift(61);
        due("told(13)", x.told(13), 1);
        due("undo()", x.undo(), 0);
        due("who coughs", x.told(7), 0);
    }

    static void promise15_anUndoIsNotUndone() {
        AbsentPraise x = hillOf("r2 0;p0 0;", 1);
        x.hour(1);
        x.undo();
        due("told(13)", x.told(13), 0);
        due("undo()", x.undo(), NOT);
        due("hours", x.told(6), 0);
    }

    static void promise15_behindAFaultyHill_itCanBeUndone() {
        AbsentPraise x = hillOf("r2 0;p0 0;", 1);
        x.hour(1);
        x.feed('x');
        due("hill()", x.hill(), -11);
        due("fault()", x.fault(), 0);
        due("undo()", x.undo(), 0);
        due("hours", x.told(6), 0);
    }

    public static void main(String[] args) throws IllegalAccessException {
        Cases.run(DeedCasesTest.class);
    }
}
