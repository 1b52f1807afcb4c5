import java.math.BigInteger;

/** The sentences of the document on plans, SEEN, CHANCE and AGES that name an edge, one method for each. */
public final class EdgesOfPlansTest {
    private static final Due DUE = new Due("edges of plans");
    /** Car 0 strikes car 1 in each moment for 3, if car 1 stands still. */
    private static final String FACING = "b00e1;b10w9";

    public static void main(String[] args) {
        standing();
        steering();
        ringing();
        sparing();
        seeing();
        guessing();
        asking();
        chances();
        ages();
        DUE.end();
    }

    private static void isStand(String what, DodgemDebate d, int car, int x, int y, int points) {
        DUE.is("20: x, " + what, d.stand(car, 0), x);
        DUE.is("20: y, " + what, d.stand(car, 1), y);
        DUE.is("20: how many, " + what, d.stand(car, 2), points);
    }

    // ---- STAND

    private static void standing() {
        numbersOfStand();
        standOfLikeOnesTheLeast();
        standNotWhereAnotherIsTold();
        standInItsOwnCell();
        standOfTheLastCell();
        standChangesNothing();
    }

    private static void numbersOfStand() {
        DodgemDebate d = Due.debate(FACING, "");
        for (int n : new int[] {-1, 2, 7, 8, Due.LEAST, Due.MOST}) {
            DUE.is("20: stand(" + n + ", 0)", d.stand(n, 0), Due.BAD);
        }
        for (int n : new int[] {-1, 3, Due.LEAST, Due.MOST}) {
            DUE.is("20: stand(0, " + n + ")", d.stand(0, n), Due.BAD);
        }
        DUE.is("20: without cars", new DodgemDebate().stand(0, 0), Due.BAD);
    }

    private static void standOfLikeOnesTheLeast() {
        isStand("all alike", Due.debate("b33e5", ""), 0, 0, 0, 0);
        isStand("the least x, then y", Due.still(Due.debate("b33e1;b20w9;b15w9", ""), 1, 2), 0, 0, 5, 72);
        isStand("of one x the least y", Due.still(Due.debate("b33e1;b25w9;b21w9", ""), 1, 2), 0, 1, 1, 72);
    }

    private static void standNotWhereAnotherIsTold() {
        isStand("0,0 is told", Due.still(Due.debate("b00e9;b44e1", ""), 0, 1), 1, 0, 1, 0);
        isStand("0,0 to 1,0 are told", Due.still(Due.debate("b00e1;b01e1;b02e1;b03e1;b04e1;b05e1;b10e1;b55e1", ""),
                0, 1, 2, 3, 4, 5, 6, 7), 7, 1, 1, 0);
    }

    private static void standInItsOwnCell() {
        isStand("its own is the best", Due.still(Due.debate("b23n1;b24s9", ""), 1), 0, 2, 3, 72);
        isStand("its own is the least of like ones", Due.still(Due.debate("b00e9;b55e1", ""), 0, 1), 0, 0, 0, 0);
    }

    private static void standOfTheLastCell() {
        isStand("5,5", Due.still(Due.debate("b00w1;b45e9", ""), 1), 0, 5, 5, 72);
        isStand("5,0", Due.still(Due.debate("b00w1;b40e9", ""), 1), 0, 5, 0, 72);
        // Head on it could come from 6,0 alone; so it turns round in moment 0 and strikes from moment 5 on, for 1.
        isStand("none beyond the floor", Due.still(Due.debate("b33w1;b50e9", ""), 1), 0, 0, 0, 19);
    }

    private static void standChangesNothing() {
        DodgemDebate d = Due.still(Due.debate("b00e1;b55w9", ""), 1);
        isStand("elsewhere", d, 0, 4, 5, 72);
        DUE.is("6: as told", d.car(0, 1), 0);
        DUE.isAt("11: as told", d, 0, 0, 1, 0, 0, 0, 0, 1);
        DUE.is("14: as told", d.strikes(), 0);
    }

    // ---- STEER

    private static void steering() {
        numbersOfBetter();
        betterOfLikeOnesTheLeast();
        betterOfAMinister();
        betterInTheLastMoment();
        betterWhateverRoom();
        betterForItsOwnPoints();
    }

    private static void isBetter(String what, DodgemDebate d, int car, int moment, int which, int points) {
        DUE.is("21: which, " + what, d.better(car, moment, 0), which);
        DUE.is("21: how many, " + what, d.better(car, moment, 1), points);
    }

    private static void numbersOfBetter() {
        DodgemDebate d = Due.debate(FACING, "");
        for (int n : new int[] {-1, 2, 7, 8, Due.LEAST, Due.MOST}) {
            DUE.is("21: better(" + n + ", 0, 0)", d.better(n, 0, 0), Due.BAD);
        }
        for (int n : new int[] {-1, 24, Due.LEAST, Due.MOST}) {
            DUE.is("21: better(0, " + n + ", 0)", d.better(0, n, 0), Due.BAD);
        }
        for (int n : new int[] {-1, 2, Due.LEAST, Due.MOST}) {
            DUE.is("21: better(0, 0, " + n + ")", d.better(0, 0, n), Due.BAD);
        }
        DUE.is("21: without cars", new DodgemDebate().better(0, 0, 0), Due.BAD);
    }

    private static void betterOfLikeOnesTheLeast() {
        isBetter("not", Due.debate("b22e1", ""), 0, 0, 0, 0);
        isBetter("left", Due.still(Due.debate("b22e1;b23s9", ""), 1), 0, 0, 1, 72);
        isBetter("right", Due.still(Due.debate("b22e1;b21n9", ""), 1), 0, 0, 2, 72);
        isBetter("left is ahead of right", Due.still(Due.debate("b22e1;b23s9;b21n9", ""), 1, 2), 0, 0, 1, 72);
        isBetter("not is ahead of left", Due.still(Due.debate("b22e1;b23s9;b32w9", ""), 1, 2), 0, 0, 0, 72);
    }

    private static void betterOfAMinister() {
        isBetter("it does not steer", Due.still(Due.debate("m22e1;b23s9", ""), 1), 0, 0, 0, 0);
        isBetter("a historian's does", Due.still(Due.debate("h22e1;b23s9", ""), 1), 0, 0, 2, 72);
    }

    private static void betterInTheLastMoment() {
        DodgemDebate d = Due.still(Due.debate("b00e5;b01s9", ""), 1);
        isBetter("it strikes once", d, 0, 23, 2, 3);
        isBetter("too early", d, 0, 21, 0, 0);
    }

    private static void betterWhateverRoom() {
        DodgemDebate d = Due.still(Due.debate("b22e1;b23s9", "x0l;x0l;x0l;x0l;x0l;x0l;x0l;x0l;x0l;x0l;x0l;x0l"), 1);
        isBetter("a thirteenth", d, 0, 0, 1, 72);
        DUE.is("37: twelve", d.count(1), 12);
        DUE.is("7: the last as told", d.steer(11, 0), 23);
        // By its own right turn it goes south, turns round, and strikes from moment 5 on.
        DodgemDebate other = Due.still(Due.debate("b22e1;b23s9", "a0r"), 1);
        isBetter("behind another of its moment", other, 0, 0, 0, 57);
        DodgemDebate twice = Due.still(Due.debate("b22w1;b23s9", "a0r"), 1);
        isBetter("as told is best", twice, 0, 0, 0, 72);
    }

    private static void betterForItsOwnPoints() {
        DodgemDebate d = Due.still(Due.debate("b22e1;b32w9;b04e1;b14w9", ""), 1, 3);
        isBetter("what another has does not count", d, 0, 0, 0, 72);
        isBetter("without points", Due.debate("b50e1;b55e1", ""), 1, 0, 0, 0);
        isBetter("of the second car", Due.still(Due.debate("b23s9;b22e1", ""), 0), 1, 0, 1, 72);
        isBetter("of the second car", Due.still(Due.debate("b21n9;b22e1", "x7l"), 0), 1, 0, 2, 72);
    }

    // ---- RING

    private static void ringing() {
        for (int n : new int[] {-1, 2, Due.LEAST, Due.MOST}) {
            DUE.is("22: ring(" + n + ")", Due.debate(FACING, "").ring(n), Due.BAD);
        }
        isRing("without cars", new DodgemDebate(), 0, 0);
        isRing("all alike", Due.debate("b00n5", ""), 0, 1);
        isRing("all are noes", Due.debate("b30n5;b40n5", ""), 0, 0);
        isRing("at the first, as told", Due.debate("b20e5;b22e5", ""), 0, 2);
        isRing("in the second, they have come", Due.debate("b30w5;b32w5", ""), 1, 2);
        // Behind moment 22 car 0 has come to x 2; a bell in moment 22 would have kept it at x 3.
        isRing("in the last", Due.debate("b30n5", "w0r"), 23, 1);
        isRing("one moment later it is too late", Due.debate("b30n5", "x0r"), 0, 0);
        DodgemDebate rung = Due.debate("b30w5", "");
        rung.event(0, 0, 0);
        isRing("a bell that is rung puts it off", rung, 2, 1);
        DodgemDebate full = Due.debate("b30w5", "");
        for (int i = 0; i < 8; i++) {
            full.event(0, i, 0);
        }
        isRing("whatever room", full, 9, 1);
        DUE.is("37: eight", full.count(4), 8);
    }

    private static void isRing(String what, DodgemDebate d, int moment, int ayes) {
        DUE.is("22: which, " + what, d.ring(0), moment);
        DUE.is("22: how many, " + what, d.ring(1), ayes);
    }

    // ---- SPARE

    private static void sparing() {
        for (int n : new int[] {-2, 2, Due.LEAST, Due.MOST}) {
            DUE.is("23: spare(" + n + ")", Due.debate(FACING, "").spare(n), Due.BAD);
        }
        isSpare("without cars", cutting(""), 0, Due.NONE, Due.NONE);
        isSpare("without cars, with events", cutting("", 0, 1), 0, Due.NONE, Due.NONE);
        isSpare("none is meek", cutting(FACING), 0, Due.NONE, Due.NONE);
        isSpare("none is meek, with an event", cutting(FACING, 1), 0, Due.NONE, Due.NONE);
        isSpare("the first of two", cutting(FACING, 0, 1), 1, 0, Due.NONE);
        isSpare("the last of three", cutting(FACING, 0, 0, 1), 1, 2, Due.NONE);
        isSpare("the least row, not the least bits", cutting(FACING, 0, 1, 1, 0), 2, 0, 3);
        isSpare("two cuts of one car", cutting(FACING, 1, 1, 0, 0), 2, 0, 1);
        isSpare("three would be too many", cutting(FACING, 1, 1, 0, 0, 0, 1), Due.NONE, Due.NONE, Due.NONE);
        isSpare("the last two of eight", cutting(FACING, 0, 0, 0, 7, 7, 7, 1, 1), 2, 6, 7);
        isSpare("the last of eight", cutting(FACING, 0, 0, 7, 7, 7, 7, 7, 1), 1, 7, Due.NONE);
        isSpare("one is alone for good", cutting(FACING + ";b55n1", 2), Due.NONE, Due.NONE, Due.NONE);
        DodgemDebate bell = Due.debate("b00e5;b01e5", "x0r");
        bell.event(1, 0, 1);
        bell.event(0, 23, 0);
        isSpare("a bell", bell, 1, 1, Due.NONE);
    }

    private static DodgemDebate cutting(String cars, int... cut) {
        return Due.still(Due.debate(cars, ""), cut);
    }

    private static void isSpare(String what, DodgemDebate d, int many, int first, int second) {
        DUE.is("23: how many, " + what, d.spare(-1), many);
        DUE.is("23: the first, " + what, d.spare(0), first);
        DUE.is("23: the second, " + what, d.spare(1), second);
    }

    // ---- SEEN

    private static void seeing() {
        numbersOfSeen();
        eightSeenAtMost();
        allAreForgotten();
        aCarThatThereIsNot();
        eventsThatNeverWere();
    }

    private static void numbersOfSeen() {
        DodgemDebate d = Due.debate("b00e5", "");
        for (int n : new int[] {-1, 8, Due.LEAST, Due.MOST}) {
            DUE.is("24: of car " + n, d.seen(0, n, 0, 0), Due.BAD);
        }
        DUE.is("37: none came", d.count(7), 0);
        DUE.is("24: the least", d.seen(0, 0, 0, 0), 1);
        DUE.is("24: the greatest, of a car that there is not", d.seen(23, 7, 5, 5), 2);
    }

    private static void eightSeenAtMost() {
        DodgemDebate d = Due.debate("b00e5", "");
        for (int i = 1; i <= 8; i++) {
            DUE.is("24: the like may be seen again", d.seen(0, 0, 1, 0), i);
        }
        DUE.is("24: a ninth", d.seen(0, 0, 5, 5), Due.FULL);
        DUE.is("24: BAD is ahead of FULL, of a moment", d.seen(24, 0, 0, 0), Due.BAD);
        DUE.is("24: BAD is ahead of FULL, of a car", d.seen(0, 8, 0, 0), Due.BAD);
        DUE.is("24: BAD is ahead of FULL, of x", d.seen(0, 0, 6, 0), Due.BAD);
        DUE.is("24: BAD is ahead of FULL, of y", d.seen(0, 0, 0, 6), Due.BAD);
        DUE.is("37: eight", d.count(7), 8);
        DUE.is("27: the ninth was not seen", d.was(0, 1), 1022);
    }

    private static void allAreForgotten() {
        DodgemDebate d = Due.debate("b00e5", "");
        DUE.is("25: none", d.forget(), 0);
        for (int i = 0; i < 8; i++) {
            d.seen(0, 0, 5, 5);
        }
        DUE.is("27: it was not there", d.was(0, 1), 0);
        DUE.is("25: eight", d.forget(), 8);
        DUE.is("25: none are left", d.forget(), 0);
        DUE.is("27: nothing is seen", d.was(0, 1), 1022);
        DUE.is("24: from the first on", d.seen(0, 0, 1, 0), 1);
    }

    private static void aCarThatThereIsNot() {
        DodgemDebate d = Due.debate("b00e5;b05e5", "");
        d.event(0, 9, 0);
        d.seen(0, 2, 0, 0);
        DUE.is("26: never", d.never(), 0);
        DUE.is("27: never", d.was(0, 0), 0);
        DUE.is("27: never", d.was(0, 1), 0);
        DUE.is("28: all alike", d.ask(0), 0);
        d.wipe(0);
        Due.typeAll(d, 0, "b50e5;b55e5;b00w5");
        DUE.is("27: there is one now", d.was(0, 0), 7);
    }

    private static void eventsThatNeverWere() {
        DUE.is("26: without events", new DodgemDebate().never(), 0);
        DodgemDebate all = Due.debate("b00e5", "");
        for (int i = 0; i < 8; i++) {
            all.event(0, i, 0);
        }
        DUE.is("26: nothing seen", all.never(), 255);
        all.seen(8, 0, 1, 0);
        DUE.is("26: so it was with all of them, not with one less", all.never(), 0);
        all.forget();
        all.seen(8, 0, 2, 0);
        DUE.is("26: any one", all.never(), 255);
        all.seen(7, 0, 1, 0);
        all.seen(6, 0, 0, 0);
        DUE.is("26: the last one", all.never(), 128);
        all.seen(6, 0, 1, 0);
        DUE.is("26: not in two cells at once", all.never(), 0);
        DodgemDebate empty = new DodgemDebate();
        empty.event(0, 0, 0);
        DUE.is("26: without cars, nothing seen", empty.never(), 1);
    }

    // ---- SORT, HEAVY

    private static void guessing() {
        numbersOfWas();
        nothingSeen();
        sorts();
        weights();
        weightsOfTheOther();
    }

    private static void numbersOfWas() {
        DodgemDebate d = Due.debate(FACING, "");
        for (int n : new int[] {-1, 2, 7, 8, Due.LEAST, Due.MOST}) {
            DUE.is("27: was(" + n + ", 0)", d.was(n, 0), Due.BAD);
            DUE.is("27: was(" + n + ", 1)", d.was(n, 1), Due.BAD);
        }
        for (int n : new int[] {-1, 2, Due.LEAST, Due.MOST}) {
            DUE.is("27: was(0, " + n + ")", d.was(0, n), Due.BAD);
        }
        DUE.is("27: without cars", new DodgemDebate().was(0, 0), Due.BAD);
    }

    private static void nothingSeen() {
        DodgemDebate d = Due.debate(FACING, "");
        DUE.is("27: all sorts", d.was(1, 0), 7);
        DUE.is("27: all weights, from bit 1 on", d.was(1, 1), 1022);
    }

    private static void sorts() {
        for (char told : new char[] {'b', 'm', 'h'}) {
            int[][] cells = {{2, 3}, {3, 2}, {2, 1}, {2, 2}};
            int[] bits = {1, 2, 4, 0};
            for (int i = 0; i < 4; i++) {
                DodgemDebate d = Due.debate(told + "22e5", "a0l");
                d.seen(0, 0, cells[i][0], cells[i][1]);
                DUE.is("27: told as " + told + ", seen at " + cells[i][0] + "," + cells[i][1], d.was(0, 0), bits[i]);
                DUE.is("6: as told", d.car(0, 0), "bmh".indexOf(told));
            }
            DodgemDebate straight = Due.debate(told + "22e5", "");
            straight.seen(0, 0, 3, 2);
            DUE.is("27: unless it steers, a minister's goes as one of the back benches", straight.was(0, 0), 3);
        }
    }

    private static void weights() {
        for (int other = 1; other <= 9; other++) {
            DodgemDebate d = Due.still(Due.debate("b10e5;b20n" + other, ""), 1);
            d.seen(0, 0, 2, 0);
            DUE.is("27: it has pushed " + other, d.was(0, 1), 1022 & ~((1 << other) - 1));
            d.forget();
            d.seen(0, 0, 1, 0);
            DUE.is("27: it has not pushed " + other, d.was(0, 1), (1 << other) - 2);
            DUE.is("6: as told", d.car(0, 4), 5);
        }
    }

    private static void weightsOfTheOther() {
        for (int weight = 1; weight <= 9; weight++) {
            DodgemDebate d = Due.still(Due.debate("b10e" + weight + ";b20n5", ""), 1);
            d.seen(0, 1, 3, 0);
            DUE.is("27: pushed by " + weight, d.was(1, 1), (2 << weight) - 2);
            d.forget();
            d.seen(0, 1, 2, 0);
            DUE.is("27: not pushed by " + weight, d.was(1, 1), 1022 & -(2 << weight));
        }
    }

    // ---- ASK

    private static void asking() {
        DodgemDebate d = Due.debate(FACING, "");
        for (int n : new int[] {-1, 2, 7, 8, Due.LEAST, Due.MOST}) {
            DUE.is("28: ask(" + n + ")", d.ask(n), Due.BAD);
        }
        DUE.is("28: without cars", new DodgemDebate().ask(0), Due.BAD);
        DUE.is("28: all are alike in all moments", Due.debate("b00e5", "").ask(0), 0);
        // Behind moment 2 it is at 2,0 by weights 1 to 4, at 3,0 by 5 to 9; so it is from then on.
        DodgemDebate half = Due.still(Due.debate("b00e5;b30n5", ""), 1);
        DUE.is("28: of like ones the least", half.ask(0), 2);
        half.event(0, 2, 0);
        DUE.is("28: a bell puts it off", half.ask(0), 3);
        // Moment 0 parts 1 to 4, which stay at 1,0, from the others; moment 2 parts 5 and 6, at 2,1, from 7 to 9.
        DodgemDebate three = Due.still(Due.debate("b10e5;b20n5;b31e7", "b0l;c0r"), 1, 2);
        DUE.is("28: five of nine alike are least", three.ask(0), 0);
        three.seen(0, 0, 2, 0);
        DUE.is("27: those of HEAVY", three.was(0, 1), 1022 & -32);
        DUE.is("28: of those of HEAVY alone", three.ask(0), 2);
        three.seen(0, 0, 1, 0);
        DUE.is("28: no weight is left", three.ask(0), 0);
        DodgemDebate last = Due.still(Due.debate("b00e5;b01s5", "x0r"), 1);
        DUE.is("28: in the last moment", last.ask(0), 23);
        DUE.is("28: 9 alone pushes", Due.still(Due.debate("b00e5;b20n9", ""), 1).ask(0), 1);
        DUE.is("28: 1 alone does not", Due.still(Due.debate("b00e5;b20n2", ""), 1).ask(0), 1);
        // Behind moment 9: 1 to 5 at 3,2; 6 and 7 at 4,2; 8 and 9 at 4,1, which has the sum of 3,2.
        DUE.is("28: by x and y, not by their sum", Due.debate("b51w5;b40n6;b25n7", "").ask(0), 9);
    }

    // ---- CHANCE

    private static void chances() {
        numbersOfChance();
        withoutEvents();
        none16thsAndAll16ths();
        lowestTerms();
        eightEvents();
        eachByItself();
    }

    private static void isChance(String what, DodgemDebate d, int c, int car, long above, long below) {
        DUE.is("29: above, " + what, d.chance(c, car, 0), above);
        DUE.is("29: below, " + what, d.chance(c, car, 1), below);
    }

    private static void numbersOfChance() {
        DodgemDebate d = Due.debate(FACING, "");
        for (int n : new int[] {-1, 17, Due.LEAST, Due.MOST}) {
            DUE.is("29: chance(" + n + ", 0, 0)", d.chance(n, 0, 0), Due.BAD_LONG);
        }
        for (int n : new int[] {-1, 2, 7, 8, Due.LEAST, Due.MOST}) {
            DUE.is("29: chance(0, " + n + ", 0)", d.chance(0, n, 0), Due.BAD_LONG);
        }
        for (int n : new int[] {-1, 2, Due.LEAST, Due.MOST}) {
            DUE.is("29: chance(0, 0, " + n + ")", d.chance(0, 0, n), Due.BAD_LONG);
        }
        DUE.is("29: without cars", new DodgemDebate().chance(0, 0, 0), Due.BAD_LONG);
    }

    private static void withoutEvents() {
        for (int c = 0; c <= 16; c++) {
            isChance("it is struck", Due.debate(FACING, ""), c, 1, 1, 1);
            isChance("it is alone", Due.debate("b00e5", ""), c, 0, 0, 1);
        }
    }

    private static void none16thsAndAll16ths() {
        DodgemDebate d = Due.still(Due.debate(FACING, ""), 0, 0, 1);
        isChance("no event is", d, 0, 1, 1, 1);
        isChance("all events are", d, 16, 1, 0, 1);
        DodgemDebate bell = Due.debate("b00e5;b01s9", "x0r");
        bell.event(0, 23, 0);
        bell.event(1, 0, 1);
        isChance("never struck is 0 by 1", bell, 16, 1, 0, 1);
        isChance("by its own going", bell, 0, 0, 1, 1);
    }

    private static void lowestTerms() {
        int[] above = {1, 15, 7, 13, 3, 11, 5, 9, 1, 7, 3, 5, 1, 3, 1, 1, 0};
        int[] below = {1, 16, 8, 16, 4, 16, 8, 16, 2, 16, 8, 16, 4, 16, 8, 16, 1};
        DodgemDebate d = Due.debate("b00e1;b10w9", "");
        d.event(1, 0, 0);
        for (int c = 0; c <= 16; c++) {
            isChance("cut by " + c + " sixteenths", d, c, 1, above[c], below[c]);
        }
    }

    private static void eightEvents() {
        DodgemDebate d = Due.still(Due.debate(FACING, ""), 0, 0, 0, 0, 0, 0, 0, 0);
        isChance("one sixteenth, eight times", d, 15, 1, 1, 1L << 32);
        isChance("fifteen sixteenths, eight times", d, 1, 1, 2562890625L, 1L << 32);
        isChance("a half, eight times", d, 8, 1, 1, 256);
        isChance("three quarters, eight times", d, 4, 1, 6561, 65536);
        isChance("none of eight", d, 0, 1, 1, 1);
        isChance("all of eight", d, 16, 1, 0, 1);
        d.back();
        isChance("seven are left", d, 15, 1, 1, 1L << 28);
        DodgemDebate sure = Due.still(Due.debate(FACING, ""), 1, 1, 1, 1, 1, 1, 1, 1);
        isChance("in any case, by all of eight", sure, 16, 1, 1, 1);
        isChance("in any case, by some of eight", sure, 5, 1, 1, 1);
    }

    private static void eachByItself() {
        DodgemDebate d = Due.still(Due.debate("b10e5;b20w5", ""), 0, 1);
        isChance("car 1, unless car 0 is cut", d, 8, 1, 1, 2);
        isChance("car 0, unless car 1 is cut", d, 4, 0, 3, 4);
        Due.still(d, 0);
        isChance("car 1, unless car 0 is cut by one of two", d, 8, 1, 1, 4);
        isChance("car 0, as it was", d, 4, 0, 3, 4);
    }

    // ---- AGES

    private static void ages() {
        numbersOfAges();
        agesWithoutCars();
        agesInPlaceOfThoseTold();
        agesAsIfTold();
        agesOneAfterTheOther();
    }

    private static void numbersOfAges() {
        DodgemDebate d = Due.debate(FACING, "");
        for (int n : new int[] {-1, 9, Due.LEAST, Due.MOST}) {
            DUE.is("30: ages(1, " + n + ", 0)", d.ages(1, n, 0), Due.BAD);
        }
        for (int n : new int[] {-1, 2, Due.LEAST, Due.MOST}) {
            DUE.is("30: ages(1, 8, " + n + ")", d.ages(1, 8, n), Due.BAD);
        }
    }

    private static void agesWithoutCars() {
        DodgemDebate d = new DodgemDebate();
        for (int n = 0; n <= 8; n++) {
            DUE.is("30: strikes", d.ages(1, n, 0), 0);
            DUE.is("30: points", d.ages(1, n, 1), 0);
        }
        DUE.is("30: BAD all the same", d.ages(1, 9, 0), Due.BAD);
    }

    private static void agesInPlaceOfThoseTold() {
        DodgemDebate d = Due.still(Due.debate(FACING, ""), 1, 0);
        DUE.is("14: all are cut", d.strikes(), 0);
        DUE.is("30: without any", d.ages(5, 0, 0), Due.debate(FACING, "").strikes());
        DUE.is("37: they are still told", d.count(4), 2);
        DUE.is("14: all are cut", d.strikes(), 0);
    }

    private static void agesAsIfTold() {
        String[] texts = {"b10e5", "b00e5;b30w3", "b00e5;b30w3;m53n9;h33e1", "b22e1;b23s9;m44w2",
            "b00e5;b01w2;m02n9;h10e1;b11s3;b12w7;h20e4;m21n6"};
        for (int seed : new int[] {0, 1, 2, -1, 7, 12345, Due.MOST, Due.LEAST, 1103515245, -1103515245}) {
            for (String cars : texts) {
                for (int n = 0; n <= 8; n += n == 1 ? 6 : 1) {
                    isAsIfTold(cars, seed, n);
                }
            }
        }
    }

    private static void agesOneAfterTheOther() {
        DodgemDebate d = Due.debate("b00e5;b30w3;m53n9;h33e1", "");
        for (int seed = 0; seed < 40; seed++) {
            int n = 8 - seed % 9;
            DodgemDebate fresh = Due.debate("b00e5;b30w3;m53n9;h33e1", "");
            DUE.is("30: strikes are by the seed alone", d.ages(seed, n, 0), fresh.ages(seed, n, 0));
            DUE.is("30: points are by the seed alone", d.ages(seed, n, 1), fresh.ages(seed, n, 1));
        }
    }

    private static void isAsIfTold(String cars, int seed, int n) {
        DodgemDebate told = Due.debate(cars, "c0l;e1r");
        int[] state = {seed};
        for (int i = 0; i < n; i++) {
            int kind = lot(state, 2);
            int moment = lot(state, 24);
            told.event(kind, moment, lot(state, told.count(0)));
        }
        DodgemDebate d = Due.debate(cars, "c0l;e1r");
        DUE.is("30: strikes of seed " + seed, d.ages(seed, n, 0), told.strikes());
        DUE.is("30: points of seed " + seed, d.ages(seed, n, 1), told.count(6));
    }

    /** A LOT by numbers that cannot wrap, brought to 32 bits by the rest of a division. */
    private static int lot(int[] seed, int m) {
        BigInteger all = BigInteger.ONE.shiftLeft(32);
        BigInteger next = BigInteger.valueOf(1103515245).multiply(BigInteger.valueOf(seed[0]))
                .add(BigInteger.valueOf(12345)).mod(all);
        seed[0] = next.intValue();
        return next.shiftRight(16).mod(BigInteger.valueOf(m)).intValue();
    }
}
