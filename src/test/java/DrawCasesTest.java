/** The boundary cases of promises 30 to 32 and of the document's section 3 that they show, one method each. */
public final class DrawCasesTest {
    private static final int UNKNOWN = Cases.UNKNOWN, OUTSIDE = Cases.OUTSIDE, NOT = Cases.NOT;
    private static final String TWO = "r2 1;b0 1;g0 1;p0 0;p0 1;l0 1 8;";

    private static void due(String what, long got, long want) {
        Cases.due(what, got, want);
    }

    private static AbsentPraise hillOf(String text, int persons) {
        return Cases.hillOf(text, persons);
    }

    // ---- promise 30: seed

    static void promise30_atFirst_is0() {
        due("seed(1)", new AbsentPraise().seed(1), 0);
    }

    static void promise30_v0And2147483647_areTaken() {
        AbsentPraise x = new AbsentPraise();
        due("seed(2147483647)", x.seed(2147483647), 0);
        due("seed(0)", x.seed(0), 2147483647);
        due("seed(0)", x.seed(0), 0);
    }

    static void promise30_vBelow0_isOutside() {
        AbsentPraise x = new AbsentPraise();
        x.seed(7);
        due("seed(-1)", x.seed(-1), OUTSIDE);
        due("seed(least)", x.seed(Integer.MIN_VALUE), OUTSIDE);
        due("it stays", x.seed(0), 7);
    }

    static void promise30_theSameSeed_theSameDraws() {
        AbsentPraise x = hillOf(TWO, 2);
        AbsentPraise y = hillOf(TWO, 2);
        x.seed(12345);
        y.seed(12345);
        x.drift(30);
        y.drift(30);
        Cases.same("what is seen", Cases.seen(x), Cases.seen(y));
    }

    static void promise30_theFirstSeeds() {
        // From 0 the seed is 12345, whose DRAW of 4 is 0: it would go; of one PERSON, of two ROOMS.
        AbsentPraise x = hillOf("r2 0;g0 1;p0 0;", 1);
        x.drift(1);
        due("seed", x.seed(0), Cases.seedBehind(0, 3));
        due("room", x.person(0, 1), Cases.seedBehind(0, 3) / 65536 % 2);
    }

    // ---- promise 31: keep

    static void promise31_images0And1_areTaken() {
        due("keep(0)", new AbsentPraise().keep(0), 1);
        due("keep(1)", new AbsentPraise().keep(1), 1);
    }

    static void promise31_imagesMinus1And2_areUnknown() {
        AbsentPraise x = new AbsentPraise();
        due("keep(-1)", x.keep(-1), UNKNOWN);
        due("keep(2)", x.keep(2), UNKNOWN);
        due("keep(least)", x.keep(Integer.MIN_VALUE), UNKNOWN);
        due("keep(most)", x.keep(Integer.MAX_VALUE), UNKNOWN);
    }

    static void promise31_withoutAHill_too() {
        AbsentPraise x = new AbsentPraise();
        x.seed(4);
        due("keep(1)", x.keep(1), 1);
        x.seed(6);
        due("goBack(1)", x.goBack(1), 1);
        due("seed", x.seed(0), 4);
    }

    static void promise31_nothingCanBeUndoneThen() {
        AbsentPraise x = hillOf(TWO, 2);
        x.hour(1);
        x.keep(0);
        due("told(13)", x.told(13), 0);
        due("undo()", x.undo(), NOT);
        due("hours", x.told(6), 1);
    }

    static void promise31_refused_leavesWhatCanBeUndone() {
        AbsentPraise x = hillOf(TWO, 2);
        x.hour(1);
        x.keep(2);
        x.keep(-1);
        due("told(13)", x.told(13), 1);
        due("undo()", x.undo(), 0);
    }

    static void promise31_behindIt_onlyWhatComesIsUndone() {
        AbsentPraise x = hillOf(TWO, 2);
        x.hour(1);
        x.hour(1);
        x.keep(0);
        x.hour(1);
        due("undo()", x.undo(), 0);
        due("hours", x.told(6), 2);
        due("undo()", x.undo(), NOT);
    }

    static void promise31_again_theImageIsAnother() {
        AbsentPraise x = hillOf(TWO, 2);
        x.keep(0);
        x.hour(3);
        x.keep(0);
        x.hour(1);
        x.goBack(0);
        due("hours", x.told(6), 3);
    }

    static void promise31_theOtherImage_stays() {
        AbsentPraise x = hillOf(TWO, 2);
        x.keep(0);
        x.hour(3);
        x.keep(1);
        x.goBack(0);
        due("hours of 0", x.told(6), 0);
        x.goBack(1);
        due("hours of 1", x.told(6), 3);
    }

    static void promise31_whatIsSo_staysSo() {
        AbsentPraise x = hillOf(TWO, 2);
        x.cough(1);
        x.hour(2);
        x.cough(0);
        x.keep(0);
        String before = Cases.seen(x);
        x.keep(1);
        Cases.same("what is seen", Cases.seen(x), before);
    }

    // ---- promise 32: goBack

    static void promise32_imagesMinus1And2_areUnknown() {
        AbsentPraise x = new AbsentPraise();
        x.keep(0);
        x.keep(1);
        due("goBack(-1)", x.goBack(-1), UNKNOWN);
        due("goBack(2)", x.goBack(2), UNKNOWN);
        due("goBack(least)", x.goBack(Integer.MIN_VALUE), UNKNOWN);
        due("goBack(most)", x.goBack(Integer.MAX_VALUE), UNKNOWN);
    }

    static void promise32_unknown_comesAheadOfNot() {
        due("goBack(2)", new AbsentPraise().goBack(2), UNKNOWN);
        due("goBack(-1)", new AbsentPraise().goBack(-1), UNKNOWN);
    }

    static void promise32_notKept_isNot() {
        AbsentPraise x = hillOf(TWO, 2);
        x.keep(0);
        due("goBack(1)", x.goBack(1), NOT);
    }

    static void promise32_refused_changesNothing() {
        AbsentPraise x = hillOf(TWO, 2);
        x.keep(0);
        x.hour(1);
        x.cough(0);
        String before = Cases.seen(x);
        x.goBack(1);
        x.goBack(2);
        Cases.same("what is seen", Cases.seen(x), before);
        due("undo()", x.undo(), 1);
    }

    static void promise32_nothingCanBeUndoneThen() {
        AbsentPraise x = hillOf(TWO, 2);
        x.keep(0);
        x.hour(1);
        x.goBack(0);
        due("told(13)", x.told(13), 0);
        due("undo()", x.undo(), NOT);
        due("hours", x.told(6), 0);
    }

    static void promise32_allOfSection2_isBack() {
        AbsentPraise x = hillOf(TWO, 2);
        x.hour(1);
        x.cough(1);
        x.like(1, 0, 2);
        x.keep(1);
        String before = Cases.seen(x);
        x.go(0, 1);
        x.like(0, 1, 3);
        x.like(1, 0, 9);
        x.hour(4);
        x.cough(0);
        due("goBack(1)", x.goBack(1), 1);
        Cases.same("what is seen", Cases.seen(x), before);
    }

    static void promise32_theSeed_isBack() {
        AbsentPraise x = hillOf(TWO, 2);
        x.seed(99);
        x.keep(0);
        x.drift(5);
        String drifted = Cases.seen(x);
        x.goBack(0);
        due("seed", x.seed(99), 99);
        x.drift(5);
        Cases.same("the same draws again", Cases.seen(x), drifted);
    }

    static void promise32_notesBookAndText_stay() {
        AbsentPraise x = hillOf(TWO, 2);
        x.keep(0);
        x.note(0, 9, false);
        x.write(0, 1);
        x.feed('r');
        x.goBack(0);
        due("noted", x.told(11), 1);
        due("book", x.told(12), 1);
        due("text", x.told(5), 1);
    }

    static void promise32_asOftenAsOneLikes() {
        AbsentPraise x = hillOf(TWO, 2);
        x.hour(2);
        x.keep(0);
        for (int i = 0; i < 3; i++) {
            x.hour(1);
            x.like(0, 1, i);
            due("goBack(0)", x.goBack(0), 1);
            due("hours", x.told(6), 2);
            due("liking", x.liking(0, 1), 8);
        }
    }

    static void promise32_backFromMoreThan9000Hours() {
        AbsentPraise x = hillOf(TWO, 2);
        x.keep(0);
        for (int i = 0; i < 151; i++) {
            x.hour(60);
        }
        due("full", x.hour(1), Cases.FULL);
        x.goBack(0);
        due("hour(1)", x.hour(1), 1);
    }

    static void promise32_behindAFaultyHill_imagesStay() {
        AbsentPraise x = hillOf(TWO, 2);
        x.keep(0);
        x.hour(1);
        x.feed('x');
        x.hill();
        due("goBack(0)", x.goBack(0), 1);
        due("hours", x.told(6), 0);
    }

    static void promise32_behindAHill_imagesAreGone() {
        AbsentPraise x = hillOf(TWO, 2);
        x.keep(0);
        Cases.tell(x, TWO);
        x.hill();
        due("goBack(0)", x.goBack(0), NOT);
    }

    public static void main(String[] args) throws IllegalAccessException {
        Cases.run(DrawCasesTest.class);
    }
}
