/** The sentences of the document on EVENTS and MOMENTS that name an edge, one method for each. */
public final class EdgesOfMomentsTest {
    private static final Due DUE = new Due("edges of moments");
    private static final int[] STEP_X = {1, 0, -1, 0};
    private static final int[] STEP_Y = {0, 1, 0, -1};
    private static final String WAYS = "enws";
    /** Goes to and fro on row 0, and strikes the car at 0,1 in moment 23 alone. */
    private static final String ONLY_AT_LAST = "b00e5;b01e5", TURN_AT_LAST = "x0r";

    public static void main(String[] args) {
        events();
        moments();
        steers();
        going();
        striking();
        looking();
        DUE.end();
    }

    private static String car(char sort, int x, int y, int way, int weight) {
        return "" + sort + x + y + WAYS.charAt(way) + weight;
    }

    // ---- EVENTS

    private static void events() {
        numbersOfAnEvent();
        eightEventsAtMost();
        theLastEventIsUndone();
        aCutIsFromThenOn();
        aCutOfNoCar();
        aBellIsOfItsMomentAlone();
        aBellWhicheverCar();
        aCutInABell();
        eventsInAnyOrder();
    }

    private static void numbersOfAnEvent() {
        DodgemDebate d = new DodgemDebate();
        for (int kind : new int[] {-1, 2, Due.LEAST, Due.MOST}) {
            DUE.is("8: kind " + kind, d.event(kind, 0, 0), Due.BAD);
        }
        for (int moment : new int[] {-1, 24, Due.LEAST, Due.MOST}) {
            DUE.is("8: a bell in moment " + moment, d.event(0, moment, 0), Due.BAD);
            DUE.is("8: a cut in moment " + moment, d.event(1, moment, 0), Due.BAD);
        }
        for (int car : new int[] {-1, 8, Due.LEAST, Due.MOST}) {
            DUE.is("8: a bell with car " + car, d.event(0, 0, car), Due.BAD);
            DUE.is("8: a cut of car " + car, d.event(1, 0, car), Due.BAD);
        }
        DUE.is("37: none came", d.count(4), 0);
        DUE.is("8: the least", d.event(0, 0, 0), 1);
        DUE.is("8: the greatest, of no car", d.event(1, 23, 7), 2);
    }

    private static void eightEventsAtMost() {
        DodgemDebate d = Due.debate("b00e5", "");
        for (int i = 1; i <= 8; i++) {
            DUE.is("8: event " + i, d.event(1, 23, 7), i);
        }
        DUE.is("8: a ninth", d.event(1, 0, 0), Due.FULL);
        DUE.is("8: BAD is ahead of FULL, of a kind", d.event(2, 0, 0), Due.BAD);
        DUE.is("8: BAD is ahead of FULL, of a moment", d.event(1, 24, 0), Due.BAD);
        DUE.is("8: BAD is ahead of FULL, of a car", d.event(1, 0, 8), Due.BAD);
        DUE.is("37: eight", d.count(4), 8);
        DUE.is("11: the ninth was not", d.at(0, 0, 5), 1);
        DUE.is("9", d.back(), 7);
        DUE.is("8: room for one", d.event(1, 0, 0), 8);
        DUE.is("11: it was", d.at(0, 0, 5), 0);
    }

    private static void theLastEventIsUndone() {
        DodgemDebate d = Due.debate("b00e5;b02e5", "");
        DUE.is("9: there is none", d.back(), Due.NOT);
        d.event(1, 0, 0);
        d.event(1, 0, 1);
        DUE.is("9: one is left", d.back(), 1);
        DUE.is("11: the first one", d.at(0, 0, 5), 0);
        DUE.is("11: not the last one", d.at(0, 1, 5), 1);
        DUE.is("9: none is left", d.back(), 0);
        DUE.is("11: nor the first one", d.at(0, 0, 5), 1);
        DUE.is("9: there is none", d.back(), Due.NOT);
    }

    private static void aCutIsFromThenOn() {
        for (int moment = 0; moment < 24; moment++) {
            DodgemDebate d = Due.debate("b00e5;b05e5", "");
            d.event(1, moment, 0);
            for (int m = 0; m < 24; m++) {
                DUE.is("11: CURRENT behind " + m + ", cut in " + moment, d.at(m, 0, 5), m < moment ? 1 : 0);
                DUE.is("11: of another car", d.at(m, 1, 5), 1);
            }
            int stays = moment == 0 ? 0 : d.at(moment - 1, 0, 0);
            DUE.is("11: it does not go in " + moment, d.at(moment, 0, 0), stays);
            DUE.is("11: nor later", d.at(23, 0, 0), stays);
        }
        DodgemDebate twice = Due.debate("b00e5", "");
        twice.event(1, 3, 0);
        twice.event(1, 5, 0);
        DUE.isAt("11: cut twice", twice, 23, 0, 3, 0, 0, 0, 0, 0);
    }

    private static void aCutOfNoCar() {
        DodgemDebate d = Due.debate("b00e5;b05e5", "");
        d.event(1, 0, 2);
        d.event(1, 0, 7);
        DUE.isAt("11: it has current", d, 4, 0, 5, 0, 0, 0, 0, 1);
        DUE.isAt("11: it has current", d, 4, 1, 5, 5, 0, 0, 0, 1);
        DodgemDebate later = new DodgemDebate();
        later.event(1, 0, 1);
        Due.typeAll(later, 0, "b00e5;b05e5");
        DUE.is("11: a cut that was told ahead of its car", later.at(0, 1, 5), 0);
    }

    private static void aBellIsOfItsMomentAlone() {
        for (int moment = 0; moment < 24; moment++) {
            DodgemDebate d = Due.debate("b00e5", "");
            d.event(0, moment, 0);
            for (int m = 0; m < 24; m++) {
                DUE.is("13: RUNG in " + m + ", rung in " + moment, d.house(m, 2), m == moment ? 1 : 0);
                int goes = m < moment ? m + 1 : m;
                int round = goes % 12;
                DUE.is("11: x behind " + m, d.at(m, 0, 0), round <= 5 ? round : Math.min(5, 11 - round));
            }
            DUE.is("11: CURRENT stays", d.at(moment, 0, 5), 1);
        }
        DodgemDebate twice = Due.debate("b00e5", "");
        twice.event(0, 2, 0);
        twice.event(0, 2, 0);
        DUE.is("13: rung twice", twice.house(2, 2), 1);
        DUE.is("11: rung twice", twice.at(4, 0, 0), 4);
    }

    private static void aBellWhicheverCar() {
        for (int car = 0; car < 8; car++) {
            DodgemDebate d = Due.debate("b00e5;b01e5", "");
            d.event(0, 1, car);
            DUE.isAt("11: by a bell with car " + car, d, 1, 0, 1, 0, 0, 0, 0, 1);
            DUE.isAt("11: by a bell with car " + car, d, 1, 1, 1, 1, 0, 0, 0, 1);
        }
    }

    private static void aCutInABell() {
        DodgemDebate d = Due.debate("b00e5", "");
        d.event(0, 3, 0);
        d.event(1, 3, 0);
        DUE.isAt("11: both in one moment", d, 3, 0, 3, 0, 0, 0, 0, 0);
        DUE.isAt("11: still cut", d, 4, 0, 3, 0, 0, 0, 0, 0);
    }

    private static void eventsInAnyOrder() {
        DodgemDebate d = Due.debate("b00e5", "");
        d.event(1, 5, 0);
        d.event(0, 1, 0);
        d.event(1, 3, 0);
        DUE.is("11: by their moments, not as told", d.at(23, 0, 0), 2);
    }

    // ---- MOMENTS

    private static void moments() {
        momentsAre0To23();
        partsOfACar();
        carsThatThereAre();
        theFloorIs6By6();
        whatOfTheHouse();
    }

    private static void momentsAre0To23() {
        DodgemDebate d = Due.debate("b00e5", "");
        for (int moment : new int[] {-1, 24, Due.LEAST, Due.MOST}) {
            DUE.is("11: at(" + moment + ")", d.at(moment, 0, 0), Due.BAD);
            DUE.is("12: who(" + moment + ")", d.who(moment, 0, 0), Due.BAD);
            DUE.is("13: house(" + moment + ")", d.house(moment, 0), Due.BAD);
            DUE.is("21: better(" + moment + ")", d.better(0, moment, 0), Due.BAD);
            DUE.is("24: seen(" + moment + ")", d.seen(moment, 0, 0, 0), Due.BAD);
        }
        DUE.is("11: at(0)", d.at(0, 0, 0), 1);
        DUE.is("11: at(23)", d.at(23, 0, 0), 0);
        DUE.is("12: who(23)", d.who(23, 0, 0), 0);
        DUE.is("13: house(23)", d.house(23, 0), 1);
        DUE.is("21: better(23)", d.better(0, 23, 0), 0);
        DUE.is("24: seen(23)", d.seen(23, 0, 0, 0), 1);
    }

    private static void partsOfACar() {
        DodgemDebate d = Due.debate("b20e5", "");
        DUE.isAt("11: all parts", d, 0, 0, 3, 0, 0, 0, 0, 1);
        for (int what : new int[] {-1, 6, Due.LEAST, Due.MOST}) {
            DUE.is("11: at(0, 0, " + what + ")", d.at(0, 0, what), Due.BAD);
        }
    }

    private static void carsThatThereAre() {
        DodgemDebate d = Due.debate("b00e5;b05e5", "");
        for (int car : new int[] {-1, 2, 7, 8, Due.LEAST, Due.MOST}) {
            DUE.is("11: at(0, " + car + ", 0)", d.at(0, car, 0), Due.BAD);
        }
        DUE.is("11: the last", d.at(0, 1, 1), 5);
        DodgemDebate full = Due.debate("b00e1;b11e1;b22e1;b33e1;b44e1;b55w1;b05e1;b50w1", "");
        DUE.isAt("11: the last of eight", full, 0, 7, 4, 0, 2);
        DUE.is("11: no ninth", full.at(0, 8, 0), Due.BAD);
        DUE.is("11: no cars", new DodgemDebate().at(0, 0, 0), Due.BAD);
    }

    private static void theFloorIs6By6() {
        DodgemDebate d = Due.still(Due.debate("b00e1;b05e1;b50e1;b55e1", ""), 0, 1, 2, 3);
        for (int x = 0; x < 6; x++) {
            for (int y = 0; y < 6; y++) {
                boolean corner = x % 5 == 0 && y % 5 == 0;
                DUE.is("12: who(0, " + x + ", " + y + ")", d.who(0, x, y), corner ? x / 5 * 2 + y / 5 : Due.NONE);
            }
        }
        for (int n : new int[] {-1, 6, Due.LEAST, Due.MOST}) {
            DUE.is("12: x " + n, d.who(0, n, 0), Due.BAD);
            DUE.is("12: y " + n, d.who(0, 0, n), Due.BAD);
            DUE.is("24: x " + n, d.seen(0, 0, n, 0), Due.BAD);
            DUE.is("24: y " + n, d.seen(0, 0, 0, n), Due.BAD);
        }
        DUE.is("24: the last cell", d.seen(0, 0, 5, 5), 1);
        DUE.is("12: without cars", new DodgemDebate().who(23, 5, 5), Due.NONE);
    }

    private static void whatOfTheHouse() {
        DodgemDebate d = Due.still(Due.debate("b00e1;b10e1;b20e1;b30e1;b40e1;b50e1;b21e1;b22e1", ""),
                0, 1, 2, 3, 4, 5, 6, 7);
        DUE.is("13: x 0 to 2 are ayes", d.house(0, 0), 5);
        DUE.is("13: the others are noes", d.house(0, 1), 3);
        DUE.is("13: not rung", d.house(0, 2), 0);
        for (int what : new int[] {-1, 3, Due.LEAST, Due.MOST}) {
            DUE.is("13: house(0, " + what + ")", d.house(0, what), Due.BAD);
        }
        DodgemDebate edge = Due.debate("b20e5", "");
        DUE.is("13: behind the moment, not ahead of it", edge.house(0, 0), 0);
        DUE.is("13: behind the moment, not ahead of it", edge.house(0, 1), 1);
        DodgemDebate none = new DodgemDebate();
        none.event(0, 0, 0);
        DUE.is("13: without cars", none.house(0, 0), 0);
        DUE.is("13: without cars", none.house(0, 1), 0);
        DUE.is("13: without cars", none.house(0, 2), 1);
    }

    // ---- STEERS

    private static void steers() {
        leftAndRightWrap();
        aMinistersStays();
        steersOfNoCar();
        steersOfTheFirstAndLastMoment();
        steersInABellAndWithoutCurrent();
    }

    private static void leftAndRightWrap() {
        for (int way = 0; way < 4; way++) {
            for (char sort : new char[] {'b', 'h'}) {
                String car = car(sort, 2, 2, way, 5);
                DodgemDebate left = Due.still(Due.debate(car, "a0l;c0l;c0l;e0l;e0l;e0l;e0l"), 0);
                DUE.is("11: left of " + way, left.at(0, 0, 2), (way + 1) % 4);
                DUE.is("11: in its moment alone", left.at(1, 0, 2), (way + 1) % 4);
                DUE.is("11: left twice more", left.at(2, 0, 2), (way + 3) % 4);
                DUE.is("11: left four times more", left.at(4, 0, 2), (way + 3) % 4);
                DodgemDebate right = Due.still(Due.debate(car, "a0r;c0r;c0l;e0r;e0r"), 0);
                DUE.is("11: right of " + way, right.at(0, 0, 2), (way + 3) % 4);
                DUE.is("11: right and left", right.at(2, 0, 2), (way + 3) % 4);
                DUE.is("11: right twice more", right.at(4, 0, 2), (way + 1) % 4);
            }
        }
    }

    private static void aMinistersStays() {
        for (int way = 0; way < 4; way++) {
            DodgemDebate d = Due.debate(car('m', 2, 2, way, 5) + ";b05e5", "a0l;a1r");
            DUE.isAt("11: it goes by its way", d, 0, 0, 2 + STEP_X[way], 2 + STEP_Y[way], way);
            DUE.is("11: another's does not stay", d.at(0, 1, 2), 3);
        }
    }

    private static void steersOfNoCar() {
        DodgemDebate d = Due.debate("b00e5;b05e5", "a2l;a7r");
        DUE.is("7: told all the same", d.steer(1, 1), 7);
        DUE.isAt("11: nobody is steered", d, 0, 0, 1, 0, 0);
        DUE.isAt("11: nobody is steered", d, 0, 1, 1, 5, 0);
        DUE.is("14: without cars", Due.debate("", "a0l").strikes(), 0);
    }

    private static void steersOfTheFirstAndLastMoment() {
        DodgemDebate d = Due.debate("b22e5;b00e5", "a0l;x1r");
        DUE.isAt("11: ahead of going", d, 0, 0, 2, 3, 1);
        DUE.isAt("11: ahead of the last one", d, 22, 1, 0, 0, 2);
        DUE.isAt("11: in the last one", d, 23, 1, 0, 1, 1);
    }

    private static void steersInABellAndWithoutCurrent() {
        DodgemDebate d = Due.debate("b22e5;b44e5", "b0l;b1r");
        d.event(0, 1, 0);
        d.event(1, 0, 1);
        DUE.isAt("11: it is steered while it is rung", d, 1, 0, 3, 2, 1);
        DUE.isAt("11: and goes by that", d, 2, 0, 3, 3, 1);
        DUE.isAt("11: it is steered without current", d, 1, 1, 4, 4, 3, 0, 0, 0);
    }

    // ---- going

    private static void going() {
        oneCellByItsWay();
        whereThereIsNoCell();
        inACorner();
        byNumbers();
    }

    private static void oneCellByItsWay() {
        for (int way = 0; way < 4; way++) {
            for (char sort : new char[] {'b', 'm', 'h'}) {
                int by = sort == 'h' ? -1 : 1;
                DodgemDebate d = Due.debate(car(sort, 2, 3, way, 1), "");
                DUE.isAt("11: " + sort, d, 0, 0, 2 + by * STEP_X[way], 3 + by * STEP_Y[way], way, 0, 0, 1);
            }
        }
    }

    private static void whereThereIsNoCell() {
        for (int to = 0; to < 4; to++) {
            int x = to == 0 ? 5 : to == 2 ? 0 : 2;
            int y = to == 1 ? 5 : to == 3 ? 0 : 2;
            for (char sort : new char[] {'b', 'm', 'h'}) {
                int way = sort == 'h' ? (to + 2) % 4 : to;
                DodgemDebate d = Due.debate(car(sort, x, y, way, 1), "");
                DUE.isAt("11: it stays and turns round", d, 0, 0, x, y, (way + 2) % 4, 0, 0, 1);
                DUE.isAt("11: it comes away", d, 1, 0, x - STEP_X[to], y - STEP_Y[to], (way + 2) % 4, 0, 0, 1);
            }
        }
    }

    private static void inACorner() {
        DodgemDebate d = Due.debate("b55e5", "a0l");
        DUE.isAt("11: steered north, turned south", d, 0, 0, 5, 5, 3);
        DUE.isAt("11: goes south", d, 1, 0, 5, 4, 3);
        DodgemDebate cut = Due.still(Due.debate("b55e5", ""), 0);
        DUE.isAt("11: without current it does not turn round", cut, 23, 0, 5, 5, 0);
        DodgemDebate rung = Due.debate("b55e5", "");
        rung.event(0, 0, 0);
        DUE.isAt("11: nor while it is rung", rung, 0, 0, 5, 5, 0);
    }

    private static void byNumbers() {
        DodgemDebate away = Due.debate("b10e5;b00e5", "");
        DUE.isAt("11: the one ahead is away by then", away, 0, 0, 2, 0, 0, 0, 0, 1);
        DUE.isAt("11: it goes where that one was", away, 0, 1, 1, 0, 0, 0, 0, 1);
        DodgemDebate there = Due.debate("b00e5;b10e5", "");
        DUE.isAt("11: the one ahead is still there", there, 0, 0, 1, 0, 0, 1, 0, 1);
        DUE.isAt("11: pushed, and then it goes", there, 0, 1, 3, 0, 0, 0, 1, 1);
        DodgemDebate turned = Due.debate("b50e5;b40e5", "");
        DUE.isAt("11: it has turned round by then", turned, 0, 0, 5, 0, 2, 0, 1, 1);
        DUE.isAt("11: so it is head on", turned, 0, 1, 4, 0, 0, 3, 0, 1);
    }

    // ---- STRIKES

    private static void striking() {
        pointsByTheOthersWay();
        noLessHeavy();
        noCellBehindThatOne();
        somebodyBehindThatOne();
        theCellBehindIsFreeByThen();
        pointsAndStruckByThen();
    }

    private static void pointsByTheOthersWay() {
        for (int to = 0; to < 4; to++) {
            for (int other = 0; other < 4; other++) {
                for (char sort : new char[] {'b', 'm', 'h'}) {
                    for (char otherSort : new char[] {'b', 'm', 'h'}) {
                        int way = sort == 'h' ? (to + 2) % 4 : to;
                        DodgemDebate d = Due.still(Due.debate(car(sort, 2, 2, way, 5) + ";"
                                + car(otherSort, 2 + STEP_X[to], 2 + STEP_Y[to], other, 5), ""), 1);
                        int points = other == (to + 2) % 4 ? 3 : other == to ? 1 : 2;
                        DUE.isAt("11: " + sort + " strikes " + otherSort, d, 0, 0,
                                2 + STEP_X[to], 2 + STEP_Y[to], way, points, 0, 1);
                        DUE.isAt("11: " + otherSort + " is struck", d, 0, 1,
                                2 + 2 * STEP_X[to], 2 + 2 * STEP_Y[to], other, 0, 1, 0);
                    }
                }
            }
        }
    }

    private static void noLessHeavy() {
        for (int weight = 1; weight <= 9; weight++) {
            for (int other = 1; other <= 9; other++) {
                DodgemDebate d = Due.still(Due.debate(car('b', 1, 0, 0, weight) + ";" + car('b', 2, 0, 1, other), ""), 1);
                int pushed = weight >= other ? 1 : 0;
                DUE.isAt("11: " + weight + " strikes " + other, d, 0, 0, 1 + pushed, 0, 0, 2, 0, 1);
                DUE.isAt("11: " + other + " is struck", d, 0, 1, 2 + pushed, 0, 1, 0, 1, 0);
                DUE.is("18: both stay", d.jam(1), 1);
                DUE.is("18: both stay, from then on", d.jam(0), pushed == 1 ? 3 : 0);
            }
        }
    }

    private static void noCellBehindThatOne() {
        for (int to = 0; to < 4; to++) {
            int x = to == 0 ? 5 : to == 2 ? 0 : 2;
            int y = to == 1 ? 5 : to == 3 ? 0 : 2;
            DodgemDebate d = Due.still(Due.debate(car('b', x - STEP_X[to], y - STEP_Y[to], to, 9) + ";"
                    + car('b', x, y, to, 1), ""), 1);
            DUE.isAt("11: both stay, and it does not turn round", d, 0, 0, x - STEP_X[to], y - STEP_Y[to], to, 1, 0, 1);
            DUE.isAt("11: both stay", d, 0, 1, x, y, to, 0, 1, 0);
            DUE.is("14: in each moment", d.strikes(), 24);
            DUE.is("18: from the first on", d.jam(0) * 100 + d.jam(1), 1);
        }
    }

    private static void somebodyBehindThatOne() {
        for (int to = 0; to < 4; to++) {
            int x = 2;
            int y = 3;
            DodgemDebate d = Due.still(Due.debate(car('b', x, y, to, 9)
                    + ";" + car('b', x + STEP_X[to], y + STEP_Y[to], to, 1)
                    + ";" + car('b', x + 2 * STEP_X[to], y + 2 * STEP_Y[to], to, 1), ""), 1, 2);
            DUE.isAt("11: both stay", d, 23, 0, x, y, to, 24, 0, 1);
            DUE.isAt("11: both stay", d, 23, 1, x + STEP_X[to], y + STEP_Y[to], to, 0, 24, 0);
            DUE.isAt("11: the third is not struck", d, 23, 2, x + 2 * STEP_X[to], y + 2 * STEP_Y[to], to, 0, 0, 0);
            DUE.is("17: the third is meek", d.meek(), 4);
        }
    }

    private static void theCellBehindIsFreeByThen() {
        DodgemDebate free = Due.still(Due.debate("b30e5;b10e5;b20n5", ""), 2);
        DUE.isAt("11: car 0 is away by then", free, 0, 1, 2, 0, 0, 2, 0, 1);
        DUE.isAt("11: pushed", free, 0, 2, 3, 0, 1, 0, 1, 0);
        DodgemDebate taken = Due.still(Due.debate("b10e5;b20n5;b30e5", ""), 1);
        DUE.isAt("11: car 2 is still there", taken, 0, 0, 1, 0, 0, 2, 0, 1);
        DUE.isAt("11: and goes then", taken, 0, 2, 4, 0, 0, 0, 0, 1);
        DUE.isAt("11: in the next moment it is pushed", taken, 1, 1, 3, 0, 1, 0, 2, 0);
    }

    private static void pointsAndStruckByThen() {
        DodgemDebate d = Due.still(Due.debate("b00e1;b30w9", ""), 1);
        for (int m = 0; m < 24; m++) {
            int strikes = Math.max(0, m - 1);
            DUE.isAt("11: by then", d, m, 0, Math.min(2, m + 1), 0, 0, 3 * strikes, 0, 1);
            DUE.isAt("11: by then", d, m, 1, 3, 0, 2, 0, strikes, 0);
        }
    }

    // ---- what is told of all

    private static void looking() {
        strikesInAll();
        theFirstStrike();
        theBest();
        theMeek();
        theJam();
        whatIsCarried();
    }

    private static void strikesInAll() {
        DUE.is("14: without cars", new DodgemDebate().strikes(), 0);
        DUE.is("14: of one car", Due.debate("b00e5", "").strikes(), 0);
        DUE.is("14: one, in the last moment", Due.still(Due.debate(ONLY_AT_LAST, TURN_AT_LAST), 1).strikes(), 1);
        DodgemDebate d = Due.still(Due.debate("b00e1;b02e1;b10w9;b12w9", ""), 2, 3);
        DUE.is("14: two in each moment", d.strikes(), 48);
        DUE.is("37: two in each moment", d.count(5), 48);
        DUE.is("37: their points", d.count(6), 144);
        d.event(0, 0, 0);
        DUE.is("14: none while it is rung", d.strikes(), 46);
    }

    private static void theFirstStrike() {
        DUE.is("15: there is none", Due.debate("b00e5", "").first(0), Due.NONE);
        DUE.is("15: there is none", Due.debate("b00e5", "").first(1), Due.NONE);
        DUE.is("15: without cars", new DodgemDebate().first(1), Due.NONE);
        DodgemDebate last = Due.still(Due.debate(ONLY_AT_LAST, TURN_AT_LAST), 1);
        DUE.is("15: in the last moment", last.first(0), 23);
        DUE.is("15: by car 0", last.first(1), 0);
        DodgemDebate two = Due.still(Due.debate("b10w9;b12w9;b00e1;b02e1", ""), 0, 1);
        DUE.is("15: in the first moment", two.first(0), 0);
        DUE.is("15: by the first of two", two.first(1), 2);
        DodgemDebate later = Due.still(Due.debate("b00e1;b12w9;b02e1;b30w9", ""), 1, 3);
        DUE.is("15: by moments, then by numbers", later.first(1), 2);
        for (int what : new int[] {-1, 2, Due.LEAST, Due.MOST}) {
            DUE.is("15: first(" + what + ")", last.first(what), Due.BAD);
        }
        last.event(0, 23, 0);
        DUE.is("15: not even then", last.first(0), Due.NONE);
        DUE.is("15: by nobody", last.first(1), Due.NONE);
        last.back();
        DUE.is("15: again", last.first(0), 23);
    }

    private static void theBest() {
        DUE.is("16: there are none", new DodgemDebate().best(), Due.NONE);
        DUE.is("16: of one", Due.debate("b00e5", "").best(), 0);
        DUE.is("16: of like ones, without points", Due.debate("b00e5;b05e5", "").best(), 0);
        DodgemDebate alike = Due.still(Due.debate("b55n9;b00e1;b02e1;b10w9;b12w9", ""), 0, 3, 4);
        DUE.is("11: 72 points", alike.at(23, 1, 3), 72);
        DUE.is("11: 72 points", alike.at(23, 2, 3), 72);
        DUE.is("16: of like ones, with points", alike.best(), 1);
        DodgemDebate last = Due.still(Due.debate("b55n9;b00e1;b10n9;b02e1;b12w9;b45s1;b44n1;b03e1", ""), 0, 2, 4, 5, 6, 7);
        DUE.is("16: not who strikes first", last.best(), 3);
        DodgemDebate end = Due.still(Due.debate("b01e5;b00e5", "x1r"), 0);
        DUE.is("16: behind moment 23", end.best(), 1);
    }

    private static void theMeek() {
        DUE.is("17: without cars", new DodgemDebate().meek(), 0);
        DUE.is("17: one alone", Due.debate("b00e5", "").meek(), 1);
        DodgemDebate pair = Due.still(Due.debate("b55e5;b00e1;b10w9", ""), 0, 2);
        DUE.is("17: who strikes is not, who is struck is not", pair.meek(), 1);
        DodgemDebate eight = Due.still(Due.debate("b00e1;b01e1;b02e1;b03e1;b04e1;b05e1;b10e1;b55e1", ""),
                0, 1, 2, 3, 4, 5, 6, 7);
        DUE.is("17: all eight", eight.meek(), 255);
        DodgemDebate last = Due.still(Due.debate(ONLY_AT_LAST, TURN_AT_LAST), 1);
        DUE.is("17: in the last moment", last.meek(), 0);
        last.event(0, 23, 0);
        DUE.is("17: not even then", last.meek(), 3);
    }

    private static void theJam() {
        DUE.is("18: without cars", new DodgemDebate().jam(0), 0);
        DUE.is("18: without cars", new DodgemDebate().jam(1), 0);
        DodgemDebate last = Due.still(Due.debate("b00e1;b01e9", "x0r"), 1);
        DUE.is("18: in the last moment", last.jam(0), 23);
        DUE.is("18: one", last.jam(1), 1);
        DodgemDebate pushed = Due.still(Due.debate(ONLY_AT_LAST, TURN_AT_LAST), 1);
        DUE.is("18: a strike that pushes is none", pushed.jam(0), 0);
        DUE.is("18: a strike that pushes is none", pushed.jam(1), 0);
        DUE.is("18: in the second moment", Due.still(Due.debate("b00e1;b20w9", ""), 1).jam(0), 1);
        DodgemDebate alike = Due.still(Due.debate("b00e1;b30w9", ""), 1);
        DUE.is("18: of like ones the least", alike.jam(0), 2);
        alike.event(0, 2, 0);
        DUE.is("18: none while it is rung", alike.jam(0), 3);
        alike.event(1, 0, 0);
        DUE.is("18: none without current", alike.jam(0), 0);
        DUE.is("18: none without current", alike.jam(1), 0);
        for (int what : new int[] {-1, 2, Due.LEAST, Due.MOST}) {
            DUE.is("18: jam(" + what + ")", last.jam(what), Due.BAD);
        }
    }

    private static void whatIsCarried() {
        DodgemDebate none = new DodgemDebate();
        none.event(0, 0, 0);
        DUE.is("19: without cars", none.carried(), 0);
        DodgemDebate d = Due.debate("b20n5;b22n5;b30n5", "");
        DUE.is("19: without bells", d.carried(), 0);
        int[] moments = {0, 23, 7, 7};
        int[] carried = {1, 2, 3, 3};
        for (int i = 0; i < 4; i++) {
            d.event(0, moments[i], 0);
            DUE.is("19: rung in " + moments[i], d.carried(), carried[i]);
        }
        DodgemDebate even = Due.debate("b20n5;b30n5", "");
        even.event(0, 0, 0);
        DUE.is("19: as many are not more", even.carried(), 0);
        DodgemDebate fewer = Due.debate("b20n5;b30n5;b32n5", "");
        fewer.event(0, 0, 0);
        DUE.is("19: fewer", fewer.carried(), 0);
        DodgemDebate leaves = Due.debate("b20e5", "");
        leaves.event(0, 1, 0);
        DUE.is("19: as they stand then", leaves.carried(), 0);
    }
}
