/** Each promise by answers that were worked out by hand from the document. */
public final class PromisesTest {
    private static final int NONE = -1, UNKNOWN = -1000000001, OUTSIDE = -1000000002, NOT = -1000000003, FULL = -1000000004;
    private static int wrong = 0;
    private static int promise = 0;

    private static void due(String call, long got, long want) {
        if (got != want) {
            wrong++;
            System.out.println("promise " + promise + ": " + call + " answered " + got + ", due is " + want);
        }
    }

    private static void feedAll(AbsentPraise x, String text) {
        for (int i = 0; i < text.length(); i++) {
            due("feed " + text.charAt(i), x.feed(text.charAt(i)), i + 1);
        }
    }

    private static AbsentPraise hillOf(String text, int persons) {
        AbsentPraise x = new AbsentPraise();
        feedAll(x, text);
        due("hill of " + text, x.hill(), persons);
        return x;
    }

    /** A text with a FAULT, on a hill that must stay as it was. */
    private static void faulty(String text, int fault, int place) {
        AbsentPraise x = hillOf("r3 5;p1 2;", 1);
        feedAll(x, text);
        due("hill of '" + text + "'", x.hill(), -10 - fault);
        due("fault of '" + text + "'", x.fault(), place);
        due("rooms behind '" + text + "'", x.told(0), 3);
        due("persons behind '" + text + "'", x.told(4), 1);
        due("letters behind '" + text + "'", x.told(5), 0);
    }

    private static void faultless(String text, int persons) {
        AbsentPraise x = hillOf(text, persons);
        due("fault of '" + text + "'", x.fault(), NONE);
    }

    private static String times(String part, int n) {
        return part.repeat(n);
    }

    private static void promise1() {
        AbsentPraise x = new AbsentPraise();
        for (int what = 0; what <= 13; what++) {
            due("told(" + what + ")", x.told(what), what == 8 ? NONE : 0);
        }
        due("fault()", x.fault(), NONE);
        due("room", x.room(0, 0), UNKNOWN);
        due("person", x.person(0, 0), UNKNOWN);
        due("go", x.go(0, 0), UNKNOWN);
        due("write", x.write(0, 0), UNKNOWN);
        due("undo", x.undo(), NOT);
        due("hour", x.hour(1), NOT);
        due("goBack", x.goBack(0), NOT);
        due("seed", x.seed(0), 0);
        due("judge", x.judge(), NONE);
        due("silent", x.silent(0), NONE);
    }

    private static void promise2() {
        AbsentPraise x = new AbsentPraise();
        due("feed(-1)", x.feed(-1), OUTSIDE);
        due("feed(256)", x.feed(256), OUTSIDE);
        due("feed(0)", x.feed(0), 1);
        due("feed(255)", x.feed(255), 2);
        for (int i = 3; i <= 240; i++) {
            due("feed(32)", x.feed(32), i);
        }
        due("feed past", x.feed(32), FULL);
        due("feed outside past", x.feed(256), OUTSIDE);
        due("letters", x.told(5), 240);
        due("hill", x.hill(), -11);
        due("letters", x.told(5), 0);
        due("feed anew", x.feed('r'), 1);
    }

    private static void promise3() {
        faultless("", 0);
        faultless("   ", 0);
        faultless(" r 2 3 ; b 0 1 ; g 0 1 ; p 3 1 ; p 0 0 ; l 1 0 9 ; ", 2);
        faultless("r2 0;", 0);
        faultless("r002 003;p000 001;", 1);
        faultless("r6 63;", 0);
        faultless("r2 0;p0 0;p0 0;l0 1 3;l0 1 4;", 2);
        faultless("r2 0;b0 1;b1 0;g0 1;", 0);
        AbsentPraise x = hillOf("r2 1;g0 1;p0 0;p0 0;l0 1 3;l0 1 4;", 2);
        due("the last liking counts", x.liking(0, 1), 4);
        due("untold liking", x.liking(1, 0), 5);
        x.seed(77);
        x.hour(3);
        x.go(0, 1);
        x.cough(0);
        x.like(0, 1, 9);
        x.note(0, 0, true);
        x.write(0, 5);
        x.keep(1);
        x.hour(1);
        feedAll(x, "r2 9;");
        due("faulty hill", x.hill(), -12);
        due("fault", x.fault(), 3);
        due("hours stay", x.told(6), 4);
        due("undone stays", x.told(13), 1);
        due("noted stays", x.told(11), 1);
        due("book stays", x.told(12), 1);
        due("chilled stays", x.person(1, 3), 4);
        due("image stays", x.goBack(1), 1);
        x.hour(1);
        feedAll(x, "r2 1;p1 1;p0 0;");
        due("hill anew", x.hill(), 2);
        due("fault", x.fault(), NONE);
        due("hours", x.told(6), 0);
        due("coughs", x.told(7), 0);
        due("noted", x.told(11), 0);
        due("book", x.told(12), 0);
        due("undone", x.told(13), 0);
        due("undo", x.undo(), NOT);
        due("image", x.goBack(1), NOT);
        due("ways", x.told(3), 0);
        due("room of 0", x.person(0, 1), 1);
        due("kind of 0", x.person(0, 0), 1);
        due("warm of 0", x.person(0, 2), 10000);
        due("chilled of 1", x.person(1, 3), 0);
        due("liking", x.liking(0, 1), 5);
        due("seed stays", x.seed(0), 77);
        due("keep", x.keep(0), 1);
        due("no hill", x.hill(), 0);
        due("no rooms", x.told(0), 0);
        due("no cold", x.told(1), 0);
        due("no image", x.goBack(0), NOT);
        due("no hours", x.hour(1), NOT);
    }

    private static void promise4() {
        faulty("x", 1, 0);
        faulty(" p0 0;", 1, 1);
        faulty("R2 0;", 1, 0);
        faulty("r", 1, 1);
        faulty("r  ", 1, 3);
        faulty("r2", 1, 2);
        faulty("r2;", 1, 2);
        faulty("r2 0", 1, 4);
        faulty("r2 0  ", 1, 6);
        faulty("r2 0 0;", 1, 5);
        faulty("r2 0;;", 1, 5);
        faulty("r2 0;5", 1, 5);
        faulty("r2 0;x", 1, 5);
        faulty("r2 0;b r", 1, 7);
        faulty("r2 -1;", 1, 3);
        faulty("r2\t0;", 1, 2);
        faulty("r20;", 2, 1);
        faulty("r1 0;", 2, 1);
        faulty("r7 0;", 2, 1);
        faulty("r0002 0;", 2, 1);
        faulty("r2 4;", 2, 3);
        faulty("r3 8;", 2, 3);
        faulty("r2 99999999999;", 2, 3);
        faulty("r2 4x", 2, 3);
        faulty("r9", 2, 1);
        faulty("r2 0;p0 0;p4 0;", 2, 11);
        faulty("r2 0;p0 2;", 2, 8);
        faulty("r2 0;p0 0;l0 1 5;", 2, 13);
        faulty("r2 0;p0 0;l1 0 5;", 2, 11);
        faulty("r2 0;p0 0;p0 0;l0 1 10;", 2, 20);
        faulty("r2 0;l0 0 0;", 2, 6);
        faulty("r2 0;b0 2;", 2, 8);
        faulty("r2 0;b2 1;", 2, 6);
        faulty("r2 0;g2 2;", 2, 6);
        faulty("r2 0;g0 2;", 2, 8);
        faulty("r2 0;p0 5;", 2, 8);
        faulty("r2 0;p0 0;p0 0;l0 2 5;", 2, 18);
        faulty("r2 0;r2 0;", 3, 5);
        faulty("r2 0; r", 3, 6);
        faulty("r4 0;b0 1;b0 2;b0 3;b1 0;b1 2;b1 3;b2 0;b2 1;b2 3;b", 3, 50);
        faulty("r5 0;g0 1;g0 2;g0 3;g0 4;g1 2;g1 3;g1 4;g2 3;g2 4;g3 4;", 3, 50);
        faulty("r2 0;" + times("p0 0;", 7) + "p0 0;", 3, 40);
        faulty("r2 0;p0 0;p0 0;" + times("l0 1 2;", 20) + "l0 1 2;", 3, 155);
        faulty("r2 0;b0 0;", 4, 8);
        faulty("r2 0;b1 1x", 4, 8);
        faulty("r2 0;b0 1;b0 1;", 4, 13);
        faulty("r2 0;g1 1;", 4, 8);
        faulty("r2 0;g0 1;g0 1;", 4, 13);
        faulty("r2 0;g0 1;g1 0;", 4, 13);
        faulty("r2 0;p0 0;l0 0 5;", 4, 13);
        faulty("r2 0;p0 0;l0 0", 4, 13);
        faultless("r4 0;b0 1;b0 2;b0 3;b1 0;b1 2;b1 3;b2 0;b2 1;b2 3;", 0);
        faultless("r5 0;g0 1;g0 2;g0 3;g0 4;g1 2;g1 3;g1 4;g2 3;g2 4;", 0);
        faultless("r2 0;" + times("p0 0;", 7), 7);
        faultless("r2 0;p0 0;p0 0;" + times("l0 1 2;", 20), 2);
    }

    private static void promise5() {
        AbsentPraise x = hillOf("r3 5;b0 1;g0 1;g1 2;p0 0;p0 0;p1 2;", 3);
        due("rooms", x.told(0), 3);
        due("cold", x.told(1), 5);
        due("benches", x.told(2), 1);
        due("ways", x.told(3), 2);
        due("persons", x.told(4), 3);
        x.feed('r');
        due("letters", x.told(5), 1);
        x.hour(2);
        due("hours", x.told(6), 2);
        x.cough(1);
        x.cough(2);
        due("coughs", x.told(7), 6);
        // Of 0 is said -4 and 5, of 1 too, of 2 5 and 5.
        due("praised", x.told(8), 2);
        due("silent", x.told(9), 1);
        due("cover", x.told(10), 6);
        x.note(0, 0, true);
        due("noted", x.told(11), 1);
        x.write(0, 0);
        x.write(0, 0);
        due("book", x.told(12), 2);
        due("undone", x.told(13), 3);
        due("told(-1)", x.told(-1), OUTSIDE);
        due("told(14)", x.told(14), OUTSIDE);
        due("praised: the least of like ones", hillOf("r2 0;p0 0;p0 1;", 2).told(8), 0);
        due("praised most", hillOf("r2 0;p0 0;p0 1;l0 1 9;", 2).told(8), 1);
        due("praised most, though all is blame", hillOf("r2 0;p0 0;p0 0;l0 1 6;", 2).told(8), 1);
        due("praised alone", hillOf("r2 0;p0 0;", 1).told(8), 0);
        due("praised of none", hillOf("r2 0;", 0).told(8), NONE);
        due("cover without benches", hillOf("r4 0;", 0).told(10), 15);
        due("the least cover", hillOf("r4 0;b0 1;b1 0;b2 3;b3 2;", 0).told(10), 5);
        due("the fewest, not the least", hillOf("r4 0;b0 3;b1 3;b2 3;", 0).told(10), 8);
    }

    private static void promise6() {
        AbsentPraise x = hillOf("r3 0;b0 1;b0 2;g0 2;p0 1;p0 0;p0 1;", 3);
        due("who is in 1", x.room(1, 0), 5);
        due("who is in 2", x.room(2, 0), 0);
        due("where 0 is heard", x.room(0, 1), 6);
        due("where 1 is heard", x.room(1, 1), 0);
        due("ways of 2", x.room(2, 2), 1);
        due("ways of 0", x.room(0, 2), 4);
        due("room -1", x.room(-1, 0), UNKNOWN);
        due("room 3", x.room(3, 9), UNKNOWN);
        due("what -1", x.room(0, -1), OUTSIDE);
        due("what 3", x.room(0, 3), OUTSIDE);
    }

    private static void promise7() {
        AbsentPraise x = hillOf("r2 2;b0 1;p3 0;p0 1;l0 1 2;", 2);
        due("kind", x.person(0, 0), 3);
        due("room", x.person(1, 1), 1);
        due("warm", x.person(1, 2), 10000);
        due("chilled", x.person(1, 3), 0);
        due("coughs", x.person(1, 4), 0);
        x.cough(1);
        due("coughs", x.person(1, 4), 1);
        due("another coughs not", x.person(0, 4), 0);
        x.hour(1);
        due("chilled", x.person(1, 3), 1);
        due("not chilled", x.person(0, 3), 0);
        due("coughs no more", x.person(1, 4), 0);
        due("person -1", x.person(-1, 0), UNKNOWN);
        due("person 2", x.person(2, 9), UNKNOWN);
        due("what -1", x.person(0, -1), OUTSIDE);
        due("what 5", x.person(0, 5), OUTSIDE);
    }

    private static void promise8() {
        AbsentPraise x = hillOf("r2 0;p0 0;p0 1;l0 1 9;", 2);
        due("told", x.liking(0, 1), 9);
        due("untold", x.liking(1, 0), 5);
        due("of itself", x.liking(1, 1), UNKNOWN);
        due("of nobody", x.liking(0, 2), UNKNOWN);
        due("by nobody", x.liking(-1, 0), UNKNOWN);
    }

    private static void promise9() {
        // 0 plain, 1 mother, 2 mean, 3 deaf, all in room 0; 4 behind the bench in 1; 5 in 2.
        AbsentPraise x = hillOf("r3 0;b0 1;p0 0;p1 0;p2 0;p3 0;p0 1;p0 2;l0 4 4;l1 4 7;l2 4 9;l3 4 6;l0 1 3;l1 0 3;l2 0 3;l3 0 3;", 6);
        due("below 5 of an absent one", x.said(0, 4, 0), 100);
        due("mother of an absent one", x.said(1, 4, 0), 107);
        due("mean of an absent one", x.said(2, 4, 0), 104);
        due("deaf of an absent one", x.said(3, 4, 0), 106);
        due("of one there", x.said(0, 1, 0), 94);
        due("mother of one there", x.said(1, 0, 0), 100);
        due("mean of one there", x.said(2, 0, 0), 94);
        due("deaf of one there", x.said(3, 0, 0), 94);
        due("untold of an absent one", x.said(0, 5, 0), 105);
        due("mean 5 halved", x.said(2, 5, 0), 102);
        due("heard on the bench", x.said(0, 4, 1), 1);
        due("heard in the room", x.said(0, 1, 1), 1);
        due("not heard back", x.said(4, 0, 1), 0);
        due("not heard", x.said(0, 5, 1), 0);
        x.cough(4);
        x.cough(5);
        due("of one that coughs", x.said(0, 4, 0), 95);
        due("mother of one that coughs", x.said(1, 4, 0), 100);
        due("mean of one that coughs", x.said(2, 4, 0), 100);
        due("deaf hears no cough", x.said(3, 4, 0), 106);
        due("cough where it is not heard", x.said(0, 5, 0), 105);
        x.like(2, 4, 2);
        due("mean of one that coughs", x.said(2, 4, 0), 93);
        due("of itself", x.said(0, 0, 0), UNKNOWN);
        due("of nobody", x.said(0, 6, 5), UNKNOWN);
        due("by nobody", x.said(-1, 0, 0), UNKNOWN);
        due("what -1", x.said(0, 1, -1), OUTSIDE);
        due("what 2", x.said(0, 1, 2), OUTSIDE);
    }

    private static void promise10() {
        // Of three, each speaks in turn of the next, the one behind, itself.
        AbsentPraise x = hillOf("r2 1;b1 0;p0 0;p0 1;p0 0;l1 2 8;l1 0 6;l0 2 3;l2 0 1;", 3);
        due("hour 1", x.hour(1), 1);
        due("0 by 2: there", x.person(0, 2), 10000 + 1 - 9);
        due("1 by 0: not heard", x.person(1, 2), 10000);
        due("2 by 1: on the bench", x.person(2, 2), 10000 + 8);
        due("hour 2", x.hour(1), 2);
        due("0 by 1", x.person(0, 2), 10000 - 8 + 6);
        due("2 by 0", x.person(2, 2), 10000 + 8 - 6);
        due("hour 3", x.hour(1), 3);
        due("nobody of itself", x.person(0, 2), 10000 - 8 + 6);
        due("chilled 0", x.person(0, 3), 3);
        due("chilled 1", x.person(1, 3), 0);
        due("0 hours", x.hour(0), OUTSIDE);
        due("61 hours", x.hour(61), OUTSIDE);
        due("60 hours", x.hour(60), 63);
        due("no hill, outside first", new AbsentPraise().hour(0), OUTSIDE);
        due("no hill", new AbsentPraise().hour(60), NOT);
        due("no persons", hillOf("r2 0;", 0).hour(5), 5);
        bounds();
        chills();
        fullHours();
    }

    private static void bounds() {
        AbsentPraise x = hillOf("r2 0;p0 0;p0 0;p0 1;l0 1 0;l1 0 9;", 3);
        // 1 hears -9 in every third hour, and nothing else: 56 times 20 times 9 are 10080.
        for (int i = 0; i < 56; i++) {
            x.hour(60);
        }
        due("the least", x.person(1, 2), 1);
        x.like(0, 1, 8);
        x.hour(3);
        due("still the least", x.person(1, 2), 1);
        x = hillOf("r2 0;b0 1;p0 0;p0 1;l0 1 9;", 2);
        for (int i = 0; i < 37; i++) {
            x.hour(60);
        }
        due("not yet", x.person(1, 2), 10000 + 37 * 30 * 9);
        x.hour(1);
        due("the most", x.person(1, 2), 19999);
        x.hour(3);
        due("what is above is lost", x.person(1, 2), 19999);
        x.like(0, 1, 5);
        x.cough(1);
        x.hour(2);
        due("below it again", x.person(1, 2), 19999 - 4);
    }

    private static void chills() {
        AbsentPraise x = hillOf("r2 1;g0 1;p0 0;", 1);
        x.hour(60);
        x.hour(38);
        due("98", x.person(0, 3), 98);
        x.hour(5);
        due("at most 99", x.person(0, 3), 99);
        x.go(0, 1);
        x.hour(1);
        due("one less", x.person(0, 3), 98);
        x.hour(60);
        x.hour(38);
        due("0", x.person(0, 3), 0);
        x.hour(1);
        due("0 at least", x.person(0, 3), 0);
    }

    private static void fullHours() {
        AbsentPraise x = hillOf("r2 0;", 0);
        for (int i = 1; i <= 150; i++) {
            due("hours", x.hour(60), 60 * i);
        }
        due("9000 is not above", x.hour(1), 9001);
        due("above", x.hour(1), FULL);
        due("outside first", x.hour(0), OUTSIDE);
        due("drift above", x.drift(1), FULL);
        due("drift outside first", x.drift(61), OUTSIDE);
        due("undo", x.undo(), 15);
        due("9000 again", x.drift(60), 9060);
        due("above again", x.drift(60), FULL);
        due("refused changes nothing", x.told(6), 9060);
        due("refused isn't kept", x.told(13), 16);
    }

    private static void promise11() {
        AbsentPraise x = hillOf("r3 0;g0 1;p0 0;p0 1;", 2);
        due("go", x.go(0, 1), 0);
        due("who is there", x.room(1, 0), 3);
        due("go back", x.go(0, 0), 1);
        due("no way", x.go(0, 2), NOT);
        due("to where it is", x.go(0, 0), NOT);
        due("no room", x.go(0, 3), UNKNOWN);
        due("no room -1", x.go(0, -1), UNKNOWN);
        due("nobody", x.go(2, 0), UNKNOWN);
        due("kept", x.told(13), 2);
        due("stays", x.person(0, 1), 0);
    }

    private static void promise12() {
        AbsentPraise x = hillOf("r3 0;g0 1;p0 0;p0 1;", 2);
        due("cough", x.cough(1), 2);
        due("cough", x.cough(0), 3);
        due("again", x.cough(1), NOT);
        due("nobody", x.cough(2), UNKNOWN);
        due("kept", x.told(13), 2);
        x.go(0, 1);
        due("coughs in another room", x.told(7), 3);
        x.hour(1);
        due("coughs no more", x.told(7), 0);
        due("anew", x.cough(1), 2);
    }

    private static void promise13() {
        AbsentPraise x = hillOf("r3 0;p0 0;p0 1;", 2);
        due("like", x.like(0, 1, 9), 5);
        due("like", x.like(0, 1, 0), 9);
        due("the same", x.like(0, 1, 0), 0);
        due("liking", x.liking(0, 1), 0);
        due("other way", x.liking(1, 0), 5);
        due("above", x.like(0, 1, 10), OUTSIDE);
        due("below", x.like(0, 1, -1), OUTSIDE);
        due("itself", x.like(0, 0, 10), UNKNOWN);
        due("nobody", x.like(0, 2, 5), UNKNOWN);
        due("nobody", x.like(-1, 0, 5), UNKNOWN);
        due("kept", x.told(13), 3);
    }

    private static void promise14() {
        AbsentPraise x = hillOf("r2 0;g0 1;p0 0;p0 1;", 2);
        x.seed(5);
        due("drift", x.drift(1), 1);
        due("seed behind the draws", x.seed(5), deedDraws(5));
        due("cough gone", x.told(7), 0);
        due("0", x.drift(0), OUTSIDE);
        due("61", x.drift(61), OUTSIDE);
        due("60", x.drift(60), 61);
        due("no hill", new AbsentPraise().drift(1), NOT);
        due("no hill, outside first", new AbsentPraise().drift(0), OUTSIDE);
        AbsentPraise empty = hillOf("r2 0;", 0);
        empty.seed(9);
        due("no persons", empty.drift(3), 3);
        due("no draws", empty.seed(9), 9);
        AbsentPraise one = hillOf("r2 0;g0 1;p0 0;", 1);
        for (int s = 0; s < 40; s++) {
            oneDrift(one, s);
            twoDrift(s);
        }
    }

    private static long next(long seed) {
        return (seed * 1103515245L + 12345L) % 2147483648L;
    }

    private static long deedDraws(long seed) {
        long deed = next(seed);
        long last = next(deed);
        int kind = (int) (deed / 65536 % 4);
        for (int i = 0; i < (kind == 0 ? 1 : kind == 2 ? 2 : 0); i++) {
            last = next(last);
        }
        return last;
    }

    private static void oneDrift(AbsentPraise one, int seed) {
        int before = one.person(0, 1);
        one.seed(seed);
        one.drift(1);
        long deed = next(seed);
        long to = next(next(deed)) / 65536 % 2;
        boolean goes = deed / 65536 % 4 == 0;
        due("room behind a drift from " + seed, one.person(0, 1), goes ? to : before);
        due("seed behind a drift from " + seed, one.seed(0), deedDraws(seed));
    }

    /** 1 is behind the bench, where 0 speaks of it in the first hour. */
    private static void twoDrift(int seed) {
        AbsentPraise two = hillOf("r2 0;b0 1;p0 0;p0 1;l0 1 8;", 2);
        two.seed(seed);
        two.drift(1);
        long deed = next(seed);
        long who = next(deed);
        long whom = next(who);
        int liking = (int) (next(whom) / 65536 % 10);
        boolean likes = deed / 65536 % 4 == 2;
        boolean first = who / 65536 % 2 == 0;
        boolean ofFirst = whom / 65536 % 2 == 0;
        int v = likes && first && !ofFirst ? liking : 8;
        due("0 of 1 behind a drift from " + seed, two.liking(0, 1), v);
        due("1 of 0 behind a drift from " + seed, two.liking(1, 0), likes && !first && ofFirst ? liking : 5);
        boolean coughs = deed / 65536 % 4 == 1 && !first;
        due("warm behind a drift from " + seed, two.person(1, 2), 10000 + (coughs ? -1 : v >= 5 ? v : 0));
        due("no cough behind a drift from " + seed, two.told(7), 0);
    }

    private static void promise15() {
        AbsentPraise x = hillOf("r2 1;b0 1;g0 1;p0 0;p0 1;l0 1 8;", 2);
        due("none", x.undo(), NOT);
        x.hour(1);
        x.go(0, 1);
        x.cough(1);
        x.like(0, 1, 1);
        x.seed(3);
        x.drift(7);
        long drifted = x.seed(0);
        x.seed((int) drifted);
        due("undo drift", x.undo(), 4);
        due("hours", x.told(6), 1);
        due("seed stays", x.seed(0), drifted);
        due("undo like", x.undo(), 3);
        due("liking", x.liking(0, 1), 8);
        due("coughs still", x.told(7), 2);
        due("undo cough", x.undo(), 2);
        due("coughs", x.told(7), 0);
        due("undo go", x.undo(), 1);
        due("room", x.person(0, 1), 0);
        due("warm still", x.person(1, 2), 10008);
        due("chilled still", x.person(0, 3), 1);
        due("undo hour", x.undo(), 0);
        due("warm", x.person(1, 2), 10000);
        due("chilled", x.person(0, 3), 0);
        due("hours", x.told(6), 0);
        due("none more", x.undo(), NOT);
        for (int i = 0; i < 20; i++) {
            x.like(0, 1, i % 10);
            due("kept", x.told(13), Math.min(i + 1, 16));
        }
        for (int i = 15; i >= 0; i--) {
            due("undo", x.undo(), i);
            due("liking", x.liking(0, 1), (i + 3) % 10);
        }
        due("the oldest are lost", x.undo(), NOT);
    }

    private static void promise16() {
        AbsentPraise x = hillOf("r2 0;b0 1;p0 0;p0 1;l0 1 8;l1 0 7;", 2);
        due("now", x.warm(1, 0), 10000);
        due("behind one", x.warm(1, 1), 10008);
        due("behind two", x.warm(1, 2), 10008);
        due("behind 100", x.warm(1, 100), 10400);
        due("not heard", x.warm(0, 100), 10000);
        x.cough(1);
        due("a cough of one hour", x.warm(1, 3), 10000 - 1 + 8);
        due("nothing changed", x.told(7), 2);
        due("no hour went", x.told(6), 0);
        due("nothing kept", x.told(13), 1);
        due("-1", x.warm(1, -1), OUTSIDE);
        due("101", x.warm(1, 101), OUTSIDE);
        due("nobody", x.warm(2, 101), UNKNOWN);
        for (int i = 0; i < 42; i++) {
            x.hour(60);
        }
        due("bounded", x.warm(1, 100), 19999);
    }

    private static void promise17() {
        AbsentPraise x = hillOf("r4 0;b0 1;b2 3;p0 0;p0 2;p0 0;l0 2 8;l1 2 6;", 3);
        // 2 is spoken of by 1, by 0, by nobody: in 1 it hears 8 of three hours, in 3 6.
        due("room", x.bestRoom(2, 3, 0), 1);
        due("warm", x.bestRoom(2, 3, 1), 10008);
        due("one hour", x.bestRoom(2, 1, 0), 3);
        due("one hour", x.bestRoom(2, 1, 1), 10006);
        due("of like ones the least", x.bestRoom(0, 1, 0), 1);
        x.cough(2);
        due("coughing", x.bestRoom(2, 1, 0), 0);
        due("coughing", x.bestRoom(2, 1, 1), 10000);
        due("nothing changed", x.person(2, 1), 0);
        due("0", x.bestRoom(2, 0, 0), OUTSIDE);
        due("31", x.bestRoom(2, 31, 0), OUTSIDE);
        due("30", x.bestRoom(2, 30, 0), 1);
        due("what", x.bestRoom(2, 1, 2), OUTSIDE);
        due("what", x.bestRoom(2, 1, -1), OUTSIDE);
        due("nobody", x.bestRoom(3, 0, 0), UNKNOWN);
    }

    private static void promise18() {
        AbsentPraise x = hillOf("r4 0;b0 1;b2 3;g0 1;g1 3;p0 0;p0 2;p0 0;l0 2 8;l1 2 6;", 3);
        // Of 2 speak 1 (in 2), 0 (in 0), nobody: it can't be in 3 in time, but in 1 for the second hour.
        due("one hour", x.route(2, 1, 0), 10000);
        due("one hour, first room", x.route(2, 1, 1), 0);
        due("two hours", x.route(2, 2, 0), 10008);
        due("two hours, first room", x.route(2, 2, 1), 0);
        due("four hours: on to 3", x.route(2, 4, 0), 10014);
        due("four hours: first room", x.route(2, 4, 1), 0);
        due("eight hours", x.route(2, 8, 0), 10036);
        x.hour(1);
        due("from the second hour", x.route(2, 1, 1), 1);
        due("nothing changed", x.person(2, 1), 0);
        due("0", x.route(2, 0, 0), OUTSIDE);
        due("9", x.route(2, 9, 0), OUTSIDE);
        due("what", x.route(2, 1, 2), OUTSIDE);
        due("what", x.route(2, 1, -1), OUTSIDE);
        due("nobody", x.route(3, 9, 9), UNKNOWN);
        due("nobody", x.route(-1, 1, 0), UNKNOWN);
        AbsentPraise stuck = hillOf("r2 0;p0 1;p0 1;l0 1 0;", 2);
        due("stuck", stuck.route(1, 1, 0), 9991);
        due("stuck", stuck.route(1, 1, 1), 1);
    }

    private static void promise19() {
        AbsentPraise x = hillOf("r3 0;p0 0;p0 0;p0 0;l0 1 9;l1 2 6;l2 0 4;", 3);
        // 0 speaks of 1, 1 of 2, 2 of 0. With 0 away: 9, -3, 0; with 1 away (or both others): 9, 6, -5; with 2 away: 0, 6, 0.
        due("set", x.leavers(1, 0), 2);
        due("how much", x.leavers(1, 1), 10010);
        due("to where all are", x.leavers(0, 0), 0);
        due("to where all are", x.leavers(0, 1), 9992);
        x.like(2, 0, 9);
        // Now each one alone brings 15.
        due("of like ones the least", x.leavers(1, 0), 1);
        due("how much", x.leavers(1, 1), 10015);
        x.hour(1);
        // 0 speaks of 2, 1 of 0, 2 of 1, each by 5.
        due("in another hour", x.leavers(2, 1), 10000 + 5 + 5 - 4);
        x.cough(1);
        due("a cough where nobody hears it", x.leavers(2, 1), 10000 + 5 + 5 - 4);
        due("nothing changed", x.room(0, 0), 7);
        due("no room", x.leavers(3, 5), UNKNOWN);
        due("no room", x.leavers(-1, 0), UNKNOWN);
        due("what", x.leavers(0, 2), OUTSIDE);
        due("what", x.leavers(0, -1), OUTSIDE);
        due("nobody", hillOf("r2 0;", 0).leavers(1, 0), 0);
        due("nothing", hillOf("r2 0;", 0).leavers(1, 1), 10000);
        due("no hill", new AbsentPraise().leavers(0, 0), UNKNOWN);
        coughingLeavers();
    }

    private static void coughingLeavers() {
        AbsentPraise x = hillOf("r3 0;b0 1;b0 2;p0 0;p0 0;l0 1 9;l1 0 0;", 2);
        due("either, so the least", x.leavers(1, 0), 1);
        due("how much", x.leavers(1, 1), 10009);
        x.cough(0);
        // On the bench 0 would be there by its cough; 1 leaves to where no bench brings it.
        due("not the one that coughs", x.leavers(1, 0), 2);
        due("how much", x.leavers(1, 1), 10009);
    }

    private static void promise20() {
        AbsentPraise x = hillOf("r2 0;p0 0;p0 0;p0 1;p0 1;l0 2 4;l2 0 3;l1 3 2;", 4);
        due("first", x.silent(0), 1);
        due("second", x.silent(1), 2);
        due("third", x.silent(2), 203);
        due("past", x.silent(3), NONE);
        due("below", x.silent(-1), NONE);
        due("far below", x.silent(Integer.MIN_VALUE), NONE);
        due("how many", x.told(9), 3);
    }

    private static void promise21() {
        AbsentPraise x = hillOf("r4 0;b0 1;b1 2;g0 3;g2 3;p0 0;p3 1;p0 2;", 3);
        due("at first", x.carried(0, 0), 1);
        due("one", x.carried(0, 1), 3);
        due("two", x.carried(0, 2), 7);
        due("twenty", x.carried(0, 20), 7);
        due("all", x.carried(0, -1), 2);
        due("never", x.carried(1, -1), NONE);
        due("not back", x.carried(2, 20), 4);
        due("-2", x.carried(0, -2), OUTSIDE);
        due("21", x.carried(0, 21), OUTSIDE);
        due("nobody", x.carried(3, 21), UNKNOWN);
        due("nobody", x.carried(-1, -1), UNKNOWN);
        due("alone", hillOf("r2 0;p0 0;", 1).carried(0, -1), 0);
        AbsentPraise row = hillOf("r6 0;b0 1;b1 2;b2 3;b3 4;b4 5;p0 0;p0 1;p0 2;p0 3;p0 4;p0 5;p0 5;", 7);
        due("a row", row.carried(0, -1), 5);
        due("together", row.carried(6, 1), 96);
    }

    private static void promise22() {
        AbsentPraise x = new AbsentPraise();
        due("no night", x.hale(0, 0), 1000000000);
        due("one", x.hale(1, 37), 370000000);
        due("none", x.hale(1, 0), 0);
        due("sure", x.hale(60, 100), 1000000000);
        // 999^... cut each night: 1000000000, 330000000, 108900000, 35937000, 11859210, 3913539, 1291467 (.87).
        due("cut", x.hale(6, 33), 1291467);
        due("cut again", x.hale(7, 33), 426184);
        due("-1", x.hale(-1, 5), OUTSIDE);
        due("61", x.hale(61, 5), OUTSIDE);
        due("q -1", x.hale(5, -1), OUTSIDE);
        due("q 101", x.hale(5, 101), OUTSIDE);
    }

    private static void promise23() {
        AbsentPraise x = new AbsentPraise();
        due("kind", x.note(3, 0, true), OUTSIDE);
        due("kind", x.note(-1, 0, true), OUTSIDE);
        due("v", x.note(0, 10, true), OUTSIDE);
        due("v", x.note(0, -10, true), OUTSIDE);
        for (int i = 1; i <= 6; i++) {
            due("note", x.note(i % 3, i % 2 == 0 ? 9 : -9, i % 2 == 0), i);
        }
        due("full", x.note(0, 0, true), FULL);
        due("outside first", x.note(3, 0, true), OUTSIDE);
        due("how many", x.told(11), 6);
        due("nothing kept", x.told(13), 0);
    }

    private static void promise24() {
        AbsentPraise x = new AbsentPraise();
        due("all", x.thinks(0), 10);
        due("all", x.thinks(1), 0);
        due("all", x.thinks(2), 9);
        x.note(2, 3, false);
        due("6 or 7", x.thinks(0), 2);
        due("6", x.thinks(1), 6);
        due("7", x.thinks(2), 7);
        x.note(0, -2, true);
        due("7 alone", x.thinks(0), 1);
        due("7", x.thinks(1), 7);
        due("7", x.thinks(2), 7);
        x.note(1, 8, false);
        due("none", x.thinks(0), 0);
        due("none", x.thinks(1), NONE);
        due("none", x.thinks(2), NONE);
        due("-1", x.thinks(-1), OUTSIDE);
        due("3", x.thinks(3), OUTSIDE);
        x.tear();
        x.note(1, 0, true);
        due("a mother says no ill", x.thinks(0), 10);
        x.note(2, 0, false);
        due("0 to 4", x.thinks(2), 4);
        x.note(0, -9, true);
        due("0 alone", x.thinks(2), 0);
        x.tear();
        x.note(0, 9, false);
        due("9 alone", x.thinks(1), 9);
    }

    private static void promise25() {
        AbsentPraise x = new AbsentPraise();
        due("by being there", x.ask(0), 1);
        due("mother", x.ask(1), 0);
        due("mean", x.ask(2), 1);
        due("-1", x.ask(-1), OUTSIDE);
        due("3", x.ask(3), OUTSIDE);
        x.note(0, 0, false);
        due("below 5: not by the absent", x.ask(1), NONE);
        due("below 5: there", x.ask(0), 1);
        x.tear();
        x.note(2, 4, false);
        // 8 or 9: away parts them as well as there, for a mean one there alone.
        due("of like ones 0", x.ask(0), 0);
        due("mean", x.ask(2), 1);
        due("mother", x.ask(1), 0);
        x.note(0, 8, false);
        due("one alone", x.ask(0), NONE);
        x.note(0, 9, false);
        due("none at all", x.ask(0), NONE);
    }

    private static void promise26() {
        AbsentPraise x = hillOf("r3 0;b0 1;p0 0;p0 2;p3 0;l0 1 7;l2 1 7;", 3);
        due("absent", x.listens(0, 1, 7), 6);
        due("there", x.listens(0, 1, -2), 1);
        due("never", x.listens(0, 1, 0), 0);
        x.cough(1);
        due("absent", x.listens(0, 1, 7), 4);
        due("there", x.listens(0, 1, -2), 3);
        due("deaf", x.listens(2, 1, 7), 6);
        due("10", x.listens(0, 1, 10), OUTSIDE);
        due("-10", x.listens(0, 1, -10), OUTSIDE);
        due("9", x.listens(0, 1, 9), 0);
        due("-9", x.listens(0, 1, -9), 0);
        due("itself", x.listens(1, 1, 10), UNKNOWN);
        due("nobody", x.listens(0, 3, 0), UNKNOWN);
        due("nobody", x.listens(-1, 0, 0), UNKNOWN);
    }

    private static void promise27() {
        AbsentPraise x = hillOf("r2 0;p0 0;", 1);
        due("above", x.write(0, 10000), OUTSIDE);
        due("below", x.write(0, -10000), OUTSIDE);
        due("nobody", x.write(1, 10000), UNKNOWN);
        for (int i = 1; i <= 15; i++) {
            due("entry", x.write(0, i % 2 == 0 ? 9999 : -9999), i);
        }
        due("full", x.write(0, 0), FULL);
        due("outside first", x.write(0, 10000), OUTSIDE);
        due("unknown first", x.write(-1, 0), UNKNOWN);
        due("how many", x.told(12), 15);
    }

    private static void promise28() {
        AbsentPraise x = hillOf("r2 0;p0 0;", 1);
        due("nothing", x.tear(), 0);
        x.note(0, 9, true);
        x.note(0, 9, true);
        x.write(0, 1);
        due("three", x.tear(), 3);
        due("noted", x.told(11), 0);
        due("book", x.told(12), 0);
        due("thinks", x.thinks(0), 10);
        due("judge", x.judge(), NONE);
        due("again", x.tear(), 0);
    }

    private static void promise29() {
        AbsentPraise x = hillOf("r2 0;b0 1;p0 0;p0 1;l0 1 8;", 2);
        due("empty", x.judge(), NONE);
        x.write(1, 0);
        x.write(0, 0);
        due("right", x.judge(), NONE);
        x.write(0, 1);
        x.write(1, 8);
        due("third", x.judge(), 2);
        x.hour(1);
        due("first", x.judge(), 0);
        x.undo();
        due("third again", x.judge(), 2);
        x.tear();
        x.write(1, -8);
        due("not below", x.judge(), 0);
    }

    private static void promise30() {
        AbsentPraise x = new AbsentPraise();
        due("at first", x.seed(2147483647), 0);
        due("below", x.seed(-1), OUTSIDE);
        due("least", x.seed(Integer.MIN_VALUE), OUTSIDE);
        due("most", x.seed(0), 2147483647);
        due("was", x.seed(5), 0);
    }

    private static void promise31() {
        AbsentPraise x = hillOf("r2 0;p0 0;", 1);
        due("-1", x.keep(-1), UNKNOWN);
        due("2", x.keep(2), UNKNOWN);
        x.hour(1);
        due("refused leaves it", x.keep(2) + x.told(13), UNKNOWN + 1);
        due("0", x.keep(0), 1);
        due("nothing to undo", x.told(13), 0);
        due("nothing to undo", x.undo(), NOT);
        due("1", x.keep(1), 1);
        AbsentPraise none = new AbsentPraise();
        none.seed(4);
        due("without a hill", none.keep(1), 1);
        none.seed(6);
        due("back", none.goBack(1), 1);
        due("the seed", none.seed(0), 4);
    }

    private static void promise32() {
        AbsentPraise x = hillOf("r2 1;b0 1;g0 1;p0 0;p0 1;l0 1 8;", 2);
        due("not kept", x.goBack(0), NOT);
        due("-1", x.goBack(-1), UNKNOWN);
        due("2", x.goBack(2), UNKNOWN);
        x.hour(1);
        x.cough(1);
        x.seed(11);
        x.note(0, 3, false);
        x.keep(0);
        x.go(0, 1);
        x.like(0, 1, 2);
        x.hour(2);
        x.seed(12);
        x.write(0, 4);
        x.keep(1);
        x.drift(9);
        due("back to 0", x.goBack(0), 1);
        due("undo", x.undo(), NOT);
        due("hours", x.told(6), 1);
        due("coughs", x.told(7), 2);
        due("room", x.person(0, 1), 0);
        due("warm", x.person(1, 2), 10008);
        due("chilled", x.person(0, 3), 1);
        due("liking", x.liking(0, 1), 8);
        due("seed", x.seed(3), 11);
        due("noted stays", x.told(11), 1);
        due("book stays", x.told(12), 1);
        due("back to 1", x.goBack(1), 1);
        due("hours", x.told(6), 3);
        due("seed", x.seed(3), 12);
        due("liking", x.liking(0, 1), 2);
        due("as often as one likes", x.goBack(0), 1);
        due("hours", x.told(6), 1);
        x.hour(1);
        due("the image is not what goes on", x.goBack(0), 1);
        due("hours", x.told(6), 1);
    }

    private static void constants() {
        due("NONE", AbsentPraise.NONE, NONE);
        due("UNKNOWN", AbsentPraise.UNKNOWN, UNKNOWN);
        due("OUTSIDE", AbsentPraise.OUTSIDE, OUTSIDE);
        due("NOT", AbsentPraise.NOT, NOT);
        due("FULL", AbsentPraise.FULL, FULL);
    }

    private static void runPromise(int number) {
        promise = number;
        switch (number) {
            case 1: promise1(); break;
            case 2: promise2(); break;
            case 3: promise3(); break;
            case 4: promise4(); break;
            case 5: promise5(); break;
            case 6: promise6(); break;
            case 7: promise7(); break;
            case 8: promise8(); break;
            case 9: promise9(); break;
            case 10: promise10(); break;
            case 11: promise11(); break;
            case 12: promise12(); break;
            case 13: promise13(); break;
            case 14: promise14(); break;
            case 15: promise15(); break;
            case 16: promise16(); break;
            case 17: promise17(); break;
            case 18: promise18(); break;
            case 19: promise19(); break;
            case 20: promise20(); break;
            case 21: promise21(); break;
            case 22: promise22(); break;
            case 23: promise23(); break;
            case 24: promise24(); break;
            case 25: promise25(); break;
            case 26: promise26(); break;
            case 27: promise27(); break;
            case 28: promise28(); break;
            case 29: promise29(); break;
            case 30: promise30(); break;
            case 31: promise31(); break;
            case 32: promise32(); break;
            default: constants(); break;
        }
    }

    public static void main(String[] args) {
        for (int number = 0; number <= 32; number++) {
            runPromise(number);
        }
        System.out.println(wrong == 0 ? "all promises stand" : wrong + " answers are not as due");
        if (wrong != 0) {
            System.exit(1);
        }
    }
}
