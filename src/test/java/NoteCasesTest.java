/** The boundary cases of promises 23 to 29 and of the document's section 3 that they show, one method each. */
public final class NoteCasesTest {
    private static final int NONE = Cases.NONE, UNKNOWN = Cases.UNKNOWN, OUTSIDE = Cases.OUTSIDE, FULL = Cases.FULL;
    private static final int PLAIN = 0, MOTHER = 1, MEAN = 2, DEAF = 3;

    private static void due(String what, long got, long want) {
        Cases.due(what, got, want);
    }

    private static AbsentPraise hillOf(String text, int persons) {
        return Cases.hillOf(text, persons);
    }

    private static AbsentPraise noting(int kind, int v, boolean there) {
        AbsentPraise x = new AbsentPraise();
        due("note(" + kind + ", " + v + ", " + there + ")", x.note(kind, v, there), 1);
        return x;
    }

    private static void dueThoughts(AbsentPraise x, int count, int least, int greatest) {
        due("thinks(0)", x.thinks(0), count);
        due("thinks(1)", x.thinks(1), least);
        due("thinks(2)", x.thinks(2), greatest);
    }

    // ---- promise 23: note

    static void promise23_kinds0To2_areTaken() {
        noting(PLAIN, 0, false);
        noting(MOTHER, 0, false);
        noting(MEAN, 0, false);
    }

    static void promise23_kindMinus1And3_areOutside() {
        AbsentPraise x = new AbsentPraise();
        due("note(-1, 0, false)", x.note(-1, 0, false), OUTSIDE);
        due("note(3, 0, false)", x.note(DEAF, 0, false), OUTSIDE);
        due("told(11)", x.told(11), 0);
    }

    static void promise23_vMinus9And9_areTaken() {
        noting(PLAIN, -9, true);
        noting(PLAIN, 9, false);
    }

    static void promise23_vMinus10And10_areOutside() {
        AbsentPraise x = new AbsentPraise();
        due("note(0, -10, true)", x.note(PLAIN, -10, true), OUTSIDE);
        due("note(0, 10, false)", x.note(PLAIN, 10, false), OUTSIDE);
        due("told(11)", x.told(11), 0);
        due("thinks(0)", x.thinks(0), 10);
    }

    static void promise23_theSixth_isTaken_theSeventhIsFull() {
        AbsentPraise x = new AbsentPraise();
        for (int i = 1; i <= 6; i++) {
            due("note", x.note(PLAIN, 0, false), i);
        }
        due("the seventh", x.note(PLAIN, -9, true), FULL);
        due("told(11)", x.told(11), 6);
        due("thinks(0)", x.thinks(0), 5);
    }

    static void promise23_outside_comesAheadOfFull() {
        AbsentPraise x = new AbsentPraise();
        for (int i = 0; i < 6; i++) {
            x.note(PLAIN, 0, false);
        }
        due("note(3, 0, false)", x.note(DEAF, 0, false), OUTSIDE);
        due("note(0, 10, false)", x.note(PLAIN, 10, false), OUTSIDE);
    }

    static void promise23_theSameTwice_countsTwice() {
        AbsentPraise x = noting(PLAIN, 7, false);
        due("note", x.note(PLAIN, 7, false), 2);
        dueThoughts(x, 1, 7, 7);
    }

    static void promise23_theSixthCounts_inWhatOneThinks() {
        AbsentPraise x = new AbsentPraise();
        for (int i = 0; i < 5; i++) {
            x.note(MOTHER, 0, true);
        }
        x.note(PLAIN, -3, true);
        dueThoughts(x, 1, 6, 6);
    }

    static void promise23_theSixth_isOfItsOwnKind() {
        AbsentPraise x = new AbsentPraise();
        for (int i = 0; i < 5; i++) {
            x.note(PLAIN, 0, false);
        }
        x.note(MOTHER, 0, true);
        dueThoughts(x, 5, 0, 4);
    }

    // ---- promise 24: thinks

    static void promise24_whatMinus1And3_areOutside() {
        due("thinks(-1)", new AbsentPraise().thinks(-1), OUTSIDE);
        due("thinks(3)", new AbsentPraise().thinks(3), OUTSIDE);
    }

    static void promise24_nothingNoted_allFits() {
        dueThoughts(new AbsentPraise(), 10, 0, 9);
    }

    static void promise24_noneFits() {
        AbsentPraise x = noting(PLAIN, 7, false);
        x.note(PLAIN, 8, false);
        dueThoughts(x, 0, NONE, NONE);
    }

    static void promise24_whatIsNeverSaid_fitsNone() {
        dueThoughts(noting(PLAIN, 4, false), 0, NONE, NONE);
        dueThoughts(noting(PLAIN, -1, false), 0, NONE, NONE);
        dueThoughts(noting(PLAIN, 1, true), 0, NONE, NONE);
        dueThoughts(noting(MOTHER, -1, true), 0, NONE, NONE);
        dueThoughts(noting(MEAN, 5, false), 0, NONE, NONE);
        dueThoughts(noting(MEAN, 1, false), 0, NONE, NONE);
    }

    static void promise24_plain_absent() {
        dueThoughts(noting(PLAIN, 0, false), 5, 0, 4);
        dueThoughts(noting(PLAIN, 5, false), 1, 5, 5);
        dueThoughts(noting(PLAIN, 9, false), 1, 9, 9);
    }

    static void promise24_plain_there() {
        dueThoughts(noting(PLAIN, -9, true), 1, 0, 0);
        dueThoughts(noting(PLAIN, 0, true), 1, 9, 9);
    }

    static void promise24_mother() {
        dueThoughts(noting(MOTHER, 0, true), 10, 0, 9);
        dueThoughts(noting(MOTHER, 0, false), 5, 0, 4);
        dueThoughts(noting(MOTHER, 9, false), 1, 9, 9);
    }

    static void promise24_mean_halfIsCut() {
        dueThoughts(noting(MEAN, 0, false), 5, 0, 4);
        dueThoughts(noting(MEAN, 2, false), 1, 5, 5);
        dueThoughts(noting(MEAN, 3, false), 2, 6, 7);
        dueThoughts(noting(MEAN, 4, false), 2, 8, 9);
        dueThoughts(noting(MEAN, -9, true), 1, 0, 0);
    }

    static void promise24_allThatIsNoted_mustBeSo() {
        AbsentPraise x = noting(MEAN, 3, false);
        x.note(PLAIN, -3, true);
        dueThoughts(x, 1, 6, 6);
        x.note(PLAIN, 7, false);
        dueThoughts(x, 0, NONE, NONE);
    }

    // ---- promise 25: ask

    static void promise25_kindMinus1And3_areOutside() {
        due("ask(-1)", new AbsentPraise().ask(-1), OUTSIDE);
        due("ask(3)", new AbsentPraise().ask(DEAF), OUTSIDE);
    }

    static void promise25_outside_thoughNoneFits() {
        due("ask(3)", noting(PLAIN, 4, false).ask(DEAF), OUTSIDE);
    }

    static void promise25_nothingNoted() {
        due("plain: being there parts all", new AbsentPraise().ask(PLAIN), 1);
        due("mother: she says 0 of all there", new AbsentPraise().ask(MOTHER), 0);
        due("mean: being there parts all", new AbsentPraise().ask(MEAN), 1);
    }

    static void promise25_ofLikeOnes_0() {
        // 8 or 9: both part them.
        due("plain", noting(MEAN, 4, false).ask(PLAIN), 0);
    }

    static void promise25_thereAlonePartsThem_1() {
        // 8 or 9 are both 4 of a mean one, of an absent one; 0 to 4 are 0 of a plain one.
        due("mean", noting(MEAN, 4, false).ask(MEAN), 1);
        due("plain", noting(PLAIN, 0, false).ask(PLAIN), 1);
    }

    static void promise25_neitherPartsThem_isNone() {
        due("mother of 0 to 4", noting(PLAIN, 0, false).ask(MOTHER), NONE);
    }

    static void promise25_oneOrNoneFits_isNone() {
        for (int kind = 0; kind <= 2; kind++) {
            due("one", noting(PLAIN, 7, false).ask(kind), NONE);
            due("none", noting(PLAIN, 4, false).ask(kind), NONE);
        }
    }

    static void promise25_anyOneThatFitsAlone_isNone() {
        for (int v = 0; v <= 9; v++) {
            for (int kind = 0; kind <= 2; kind++) {
                due("ask(" + kind + ") of " + v, noting(PLAIN, v - 9, true).ask(kind), NONE);
            }
        }
    }

    static void promise25_theGreatestPart_notHowManyParts() {
        // Of an absent one 0 to 4 are alike (5 of 10), of one there none are.
        due("mean", new AbsentPraise().ask(MEAN), 1);
        due("mother of 6 or 7", noting(MEAN, 3, false).ask(MOTHER), 0);
    }

    // ---- promise 26: listens

    /** 0 speaks of 1 in ROOM 0, which is heard in 1; 2 is deaf. */
    private static AbsentPraise threeRooms() {
        return hillOf("r3 0;b0 1;p0 0;p0 2;p3 0;l0 1 7;l2 1 7;", 3);
    }

    static void promise26_vMinus9And9_areTaken() {
        AbsentPraise x = hillOf("r2 0;p0 0;p0 1;l0 1 9;l1 0 0;", 2);
        due("listens(0, 1, 9)", x.listens(0, 1, 9), 2);
        due("listens(1, 0, -9)", x.listens(1, 0, -9), 2);
    }

    static void promise26_vMinus10And10_areOutside() {
        due("listens(0, 1, -10)", threeRooms().listens(0, 1, -10), OUTSIDE);
        due("listens(0, 1, 10)", threeRooms().listens(0, 1, 10), OUTSIDE);
    }

    static void promise26_personsThatThereAreNot_areUnknown() {
        AbsentPraise x = threeRooms();
        due("listens(-1, 0, 0)", x.listens(-1, 0, 0), UNKNOWN);
        due("listens(0, -1, 0)", x.listens(0, -1, 0), UNKNOWN);
        due("listens(3, 0, 0)", x.listens(3, 0, 0), UNKNOWN);
        due("listens(0, 3, 0)", x.listens(0, 3, 0), UNKNOWN);
    }

    static void promise26_onePersonTwice_isUnknown() {
        due("listens(1, 1, 0)", threeRooms().listens(1, 1, 0), UNKNOWN);
    }

    static void promise26_unknown_comesAheadOfOutside() {
        due("listens(0, 3, 10)", threeRooms().listens(0, 3, 10), UNKNOWN);
        due("listens(1, 1, 10)", threeRooms().listens(1, 1, 10), UNKNOWN);
    }

    static void promise26_whereItIs_isNoMatter() {
        due("absent", threeRooms().listens(0, 1, 7), 6);
        due("there", threeRooms().listens(0, 1, -2), 1);
    }

    static void promise26_coughing_ifItDoes() {
        AbsentPraise x = threeRooms();
        x.cough(1);
        due("absent", x.listens(0, 1, 7), 4);
        due("there", x.listens(0, 1, -2), 3);
    }

    static void promise26_theDeaf_mindNoCough() {
        AbsentPraise x = threeRooms();
        x.cough(1);
        due("absent", x.listens(2, 1, 7), 6);
        due("there", x.listens(2, 1, -2), 1);
    }

    static void promise26_nowhere_is0() {
        due("listens(0, 1, 1)", threeRooms().listens(0, 1, 1), 0);
    }

    static void promise26_everywhere_isAllRooms() {
        // A mother who likes by 4 says 0 in any case.
        due("listens(0, 1, 0)", hillOf("r6 0;p1 0;p0 1;l0 1 4;", 2).listens(0, 1, 0), 63);
    }

    static void promise26_nothingChangesByIt() {
        AbsentPraise x = threeRooms();
        String before = Cases.seen(x);
        x.listens(0, 1, 7);
        Cases.same("what is seen", Cases.seen(x), before);
    }

    // ---- promise 27: write

    static void promise27_warmMinus9999And9999_areTaken() {
        AbsentPraise x = hillOf("r2 0;p0 0;", 1);
        due("write(0, -9999)", x.write(0, -9999), 1);
        due("write(0, 9999)", x.write(0, 9999), 2);
    }

    static void promise27_warmMinus10000And10000_areOutside() {
        AbsentPraise x = hillOf("r2 0;p0 0;", 1);
        due("write(0, -10000)", x.write(0, -10000), OUTSIDE);
        due("write(0, 10000)", x.write(0, 10000), OUTSIDE);
        due("told(12)", x.told(12), 0);
    }

    static void promise27_personsThatThereAreNot_areUnknown() {
        AbsentPraise x = hillOf("r2 0;p0 0;", 1);
        due("write(-1, 0)", x.write(-1, 0), UNKNOWN);
        due("write(1, 0)", x.write(1, 0), UNKNOWN);
        due("told(12)", x.told(12), 0);
    }

    static void promise27_unknown_comesAheadOfOutside() {
        due("write(1, 10000)", hillOf("r2 0;p0 0;", 1).write(1, 10000), UNKNOWN);
    }

    private static AbsentPraise fullBook() {
        AbsentPraise x = hillOf("r2 0;p0 0;", 1);
        for (int i = 1; i <= 15; i++) {
            due("write", x.write(0, 0), i);
        }
        return x;
    }

    static void promise27_the15th_isTaken_the16thIsFull() {
        AbsentPraise x = fullBook();
        due("the 16th", x.write(0, 7), FULL);
        due("told(12)", x.told(12), 15);
        due("judge()", x.judge(), NONE);
    }

    static void promise27_unknownAndOutside_comeAheadOfFull() {
        AbsentPraise x = fullBook();
        due("write(1, 0)", x.write(1, 0), UNKNOWN);
        due("write(0, 10000)", x.write(0, 10000), OUTSIDE);
    }

    // ---- promise 28: tear

    static void promise28_nothing_is0() {
        due("no hill", new AbsentPraise().tear(), 0);
        due("a new hill", hillOf("r2 0;p0 0;", 1).tear(), 0);
    }

    static void promise28_howMuchBothHad() {
        AbsentPraise x = fullBook();
        for (int i = 0; i < 6; i++) {
            x.note(PLAIN, 0, false);
        }
        due("tear()", x.tear(), 21);
        due("told(11)", x.told(11), 0);
        due("told(12)", x.told(12), 0);
        due("again", x.tear(), 0);
    }

    static void promise28_oneOfThemAlone() {
        AbsentPraise x = hillOf("r2 0;p0 0;", 1);
        x.note(PLAIN, 9, false);
        due("noted", x.tear(), 1);
        x.write(0, 3);
        x.write(0, 3);
        due("written", x.tear(), 2);
    }

    static void promise28_behindIt_nothingCounts() {
        AbsentPraise x = hillOf("r2 0;p0 0;", 1);
        x.note(PLAIN, 9, false);
        x.write(0, 3);
        x.tear();
        due("thinks(0)", x.thinks(0), 10);
        due("judge()", x.judge(), NONE);
    }

    static void promise28_behindIt_thereIsRoomAnew() {
        AbsentPraise x = fullBook();
        for (int i = 0; i < 6; i++) {
            x.note(PLAIN, 0, false);
        }
        x.tear();
        due("note", x.note(PLAIN, 9, false), 1);
        due("write", x.write(0, 1), 1);
        due("thinks(0)", x.thinks(0), 1);
        due("judge()", x.judge(), 0);
    }

    static void promise28_itIsNotUndone() {
        AbsentPraise x = fullBook();
        x.hour(1);
        x.tear();
        due("undo()", x.undo(), 0);
        due("told(12)", x.told(12), 0);
    }

    // ---- promise 29: judge

    static void promise29_anEmptyBook_isNone() {
        due("no hill", new AbsentPraise().judge(), NONE);
        due("a new hill", hillOf("r2 0;p0 0;", 1).judge(), NONE);
    }

    static void promise29_allRight_isNone() {
        due("judge()", fullBook().judge(), NONE);
    }

    static void promise29_theFirstWrongOne() {
        AbsentPraise x = hillOf("r2 0;p0 0;p0 0;", 2);
        x.write(0, 0);
        x.write(1, 1);
        x.write(0, -1);
        due("judge()", x.judge(), 1);
    }

    static void promise29_theFirstEntry_is0() {
        AbsentPraise x = hillOf("r2 0;p0 0;", 1);
        x.write(0, 1);
        due("judge()", x.judge(), 0);
    }

    static void promise29_the15thEntry_is14() {
        AbsentPraise x = hillOf("r2 0;p0 0;", 1);
        for (int i = 0; i < 14; i++) {
            x.write(0, 0);
        }
        x.write(0, 1);
        due("judge()", x.judge(), 14);
    }

    static void promise29_the15thEntry_isOfItsOwnPerson() {
        AbsentPraise x = hillOf("r2 0;p0 0;p0 0;l0 1 1;l1 0 9;", 2);
        x.hour(1);
        for (int i = 0; i < 14; i++) {
            x.write(0, 0);
        }
        x.write(1, -8);
        due("judge()", x.judge(), NONE);
    }

    static void promise29_oneWhoIsWarm_hidesNoWrongEntry() {
        AbsentPraise x = hillOf("r2 0;p0 0;p0 0;l1 0 1;", 2);
        x.hour(1);
        x.write(0, -8);
        x.write(1, 5);
        due("judge()", x.judge(), 1);
    }

    static void promise29_asItIsNow() {
        AbsentPraise x = hillOf("r2 0;p0 0;p0 0;l0 1 1;l1 0 9;", 2);
        x.write(1, -8);
        x.write(0, 0);
        due("ahead", x.judge(), 0);
        x.hour(1);
        due("behind", x.judge(), NONE);
        x.undo();
        due("undone", x.judge(), 0);
    }

    static void promise29_aRefusedEntry_isNotJudged() {
        AbsentPraise x = hillOf("r2 0;p0 0;", 1);
        x.write(0, 10000);
        x.write(1, 5);
        due("judge()", x.judge(), NONE);
    }

    public static void main(String[] args) throws IllegalAccessException {
        Cases.run(NoteCasesTest.class);
    }
}
