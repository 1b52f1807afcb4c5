/** One method for each promise of the document: ordinary calls, edges and wrong numbers, worked out by hand. */
public final class PromisesTest {
    private static final int NULL = Due.NULL, INDEX = Due.INDEX, CAST = Due.CAST, STORE = Due.STORE, SIZE = Due.SIZE;
    private static final int LEAST = Due.LEAST;
    private static final Due DUE = new Due("promises");

    private static void due(String what, long got, long want) {
        DUE.is(what, got, want);
    }

    private static DodgemDebate debate(String cars, String steers) {
        return Due.debate(cars, steers);
    }

    /** Head on, of like weight: car 1 strikes at once, from moment 1 on both do, to and fro. */
    private static DodgemDebate headOn() {
        return debate("b00e5;b20w5", "");
    }

    private static void isAt(String name, DodgemDebate d, int moment, int car, int... parts) {
        DUE.isAt(name, d, moment, car, parts);
    }

    private static void faultIs(int text, String s, int place) {
        DodgemDebate d = new DodgemDebate();
        Due.typeAll(d, text, s);
        due("5: fault of " + s, d.fault(text), place);
        due("5: rows of " + s, d.count(text), place != -1 || s.isEmpty() ? 0 : (s.length() + 1) / (text == 0 ? 6 : 4));
    }

    public static void main(String[] args) {
        texts();
        events();
        moments();
        plans();
        puzzles();
        chances();
        sheets();
        DUE.end();
    }

    private static void texts() {
        promise1();
        promise2();
        promise3();
        promise4();
        promise5();
        promise6();
        promise7();
    }

    private static void promise1() {
        DodgemDebate d = new DodgemDebate();
        for (int what = 0; what <= 8; what++) {
            due("1: count(" + what + ")", d.count(what), 0);
        }
        for (int s = 0; s < 4; s++) {
            due("1: lose(" + s + ")", d.lose(s), NULL);
        }
    }

    private static void promise2() {
        DodgemDebate d = new DodgemDebate();
        due("2", d.type(-1, 98), -2);
        due("2", d.type(2, 98), -2);
        due("2", d.type(0, -1), -2);
        due("2", d.type(0, 256), -2);
        due("2", d.count(2), 0);
        due("2", d.type(0, 0), 1);
        due("2", d.type(0, 255), 2);
        due("2", d.type(1, 255), 1);
        for (int i = 2; i < 47; i++) {
            due("2", d.type(0, 98), i + 1);
        }
        due("2: full", d.type(0, 98), -4);
        due("2: bad is ahead of full", d.type(0, 256), -2);
        due("2", d.count(2), 47);
        due("2: the other is not full", d.type(1, 98), 2);
    }

    private static void promise3() {
        DodgemDebate d = debate("b00e1", "a0l");
        due("3", d.wipe(-1), -2);
        due("3", d.wipe(2), -2);
        due("3", d.wipe(0), 5);
        due("3", d.count(0), 0);
        due("3", d.count(1), 1);
        due("3", d.wipe(0), 0);
        due("3", d.wipe(1), 3);
        due("3", d.count(3), 0);
    }

    private static void promise4() {
        DodgemDebate d = debate("b00e1;", "a");
        due("4", d.undo(-1), -2);
        due("4", d.undo(2), -2);
        due("4", d.fault(0), 6);
        due("4", d.undo(0), 5);
        due("4", d.fault(0), -1);
        due("4", d.car(0, 4), 1);
        due("4", d.undo(1), 0);
        due("4", d.undo(1), -3);
        due("4", d.fault(1), -1);
    }

    private static void promise5() {
        DodgemDebate d = new DodgemDebate();
        due("5", d.fault(-1), -2);
        due("5", d.fault(2), -2);
        faultIs(0, "", -1);
        faultIs(0, "b00e1", -1);
        faultIs(0, "m55n9;h54s1", -1);
        faultIs(0, "x", 0);
        faultIs(0, ";", 0);
        faultIs(0, "b", 1);
        faultIs(0, "b60e1", 1);
        faultIs(0, "b06e1", 2);
        faultIs(0, "b00l1", 3);
        faultIs(0, "b00e0", 4);
        faultIs(0, "b00e", 4);
        faultIs(0, "b00e1 ", 5);
        faultIs(0, "b00e1;", 6);
        faultIs(0, "b12e1;h12e1", 8);
        faultIs(0, "b12e1;h12", 8);
        faultIs(0, "b12e1;h21e1;m12n", 14);
        faultIs(0, "b00e1;b01e1;b02e1;b03e1;b04e1;b05e1;b10e1;b11e1", -1);
        faultIs(1, "", -1);
        faultIs(1, "a0l", -1);
        faultIs(1, "x7r;x7r", -1);
        faultIs(1, "y0l", 0);
        faultIs(1, "A0l", 0);
        faultIs(1, "a8l", 1);
        faultIs(1, "a0e", 2);
        faultIs(1, "a0", 2);
        faultIs(1, "a0l0", 3);
        faultIs(1, "a0l;", 4);
        faultIs(1, "a0l;b0l;c0l;d0l;e0l;f0l;g0l;h0l;i0l;j0l;k0l;l0l", -1);
        DodgemDebate full = debate("b00e1;b01e1;b02e1;b03e1;b04e1;b05e1;b10e1;b11e1", "");
        due("5: no room for a ninth", full.type(0, ';'), -4);
        DodgemDebate faulty = debate("b00e5;b10w5;", "a0l;");
        due("5: as if empty", faulty.strikes(), 0);
        due("5: as if empty", faulty.car(0, 0), -2);
        due("5: as if empty", faulty.steer(0, 0), -1);
        due("5: its bytes are there", faulty.count(2), 12);
    }

    private static void promise6() {
        DodgemDebate d = debate("b01e1;m23n5;h45w9;b50s3", "");
        int[][] told = {{0, 0, 1, 0, 1}, {1, 2, 3, 1, 5}, {2, 4, 5, 2, 9}, {0, 5, 0, 3, 3}};
        for (int car = 0; car < 4; car++) {
            for (int what = 0; what < 5; what++) {
                due("6: car(" + car + ", " + what + ")", d.car(car, what), told[car][what]);
            }
        }
        due("6", d.car(4, 0), -2);
        due("6", d.car(-1, 0), -2);
        due("6", d.car(0, -1), -2);
        due("6", d.car(0, 5), -2);
        due("6", d.car(Integer.MAX_VALUE, 0), -2);
    }

    private static void promise7() {
        DodgemDebate d = debate("", "x7r;a0l");
        int[][] told = {{23, 7, 2}, {0, 0, 1}, {-1, -1, -1}};
        for (int i = 0; i < 3; i++) {
            for (int what = 0; what < 3; what++) {
                due("7: steer(" + i + ", " + what + ")", d.steer(i, what), told[i][what]);
            }
        }
        due("7", d.steer(11, 0), -1);
        due("7", d.steer(12, 0), -2);
        due("7", d.steer(-1, 0), -2);
        due("7", d.steer(0, 3), -2);
        due("7", d.steer(0, -1), -2);
        due("7: bad is ahead of none", d.steer(11, 3), -2);
    }

    private static void events() {
        promise8();
        promise9();
        promise10();
    }

    private static void promise8() {
        DodgemDebate d = new DodgemDebate();
        due("8", d.event(-1, 0, 0), -2);
        due("8", d.event(2, 0, 0), -2);
        due("8", d.event(0, -1, 0), -2);
        due("8", d.event(0, 24, 0), -2);
        due("8: of a bell too", d.event(0, 0, 8), -2);
        due("8", d.event(1, 0, -1), -2);
        for (int i = 0; i < 8; i++) {
            due("8", d.event(i % 2, 23, 7), i + 1);
        }
        due("8", d.event(0, 0, 0), -4);
        due("8: bad is ahead of full", d.event(2, 0, 0), -2);
        due("8", d.count(4), 8);
        DodgemDebate b = debate("b00e5;b02e5", "");
        b.event(0, 1, 7);
        b.event(1, 3, 1);
        b.event(1, 4, 5);
        isAt("8: rung", b, 1, 0, 1, 0, 0, 0, 0, 1);
        isAt("8: no longer rung", b, 2, 0, 2, 0, 0, 0, 0, 1);
        isAt("8: cut", b, 3, 1, 2, 2, 0, 0, 0, 0);
        isAt("8: cut for good", b, 23, 1, 2, 2, 0, 0, 0, 0);
        isAt("8: not cut", b, 3, 0, 3, 0, 0, 0, 0, 1);
    }

    private static void promise9() {
        DodgemDebate d = headOn();
        due("9", d.back(), -3);
        d.event(1, 0, 0);
        d.event(1, 0, 1);
        due("9", d.strikes(), 0);
        due("9", d.back(), 1);
        due("9: car 1 goes again", d.at(0, 1, 0), 1);
        due("9", d.back(), 0);
        due("9", d.strikes(), 47);
    }

    private static void promise10() {
        DodgemDebate d = new DodgemDebate();
        due("10", d.read(-1), -2);
        due("10", d.read(4), -2);
        due("10", d.read(0), NULL);
        due("10", d.count(8), 1);
        d.sheet(0, 2, 11);
        int[] items = {0, 23, 7, 1, 0, 0, 1, 24, 0, 0, 0};
        for (int i = 0; i < items.length; i++) {
            d.put(0, 2, i, items[i]);
        }
        due("10: up to the one that may not be", d.read(0), 2);
        due("10", d.count(4), 2);
        due("10", d.house(23, 2), 1);
        d.put(0, 2, 7, 5);
        due("10: three whole, and they come behind", d.read(0), 3);
        due("10", d.count(4), 5);
        due("10", d.read(0), 3);
        due("10: no room", d.read(0), 0);
        due("10", d.count(4), 8);
        d.back();
        due("10: room for one", d.read(0), 1);
        d.sheet(1, 0, 2);
        due("10: none whole", d.read(1), 0);
        d.sheet(1, 0, 0);
        due("10: empty", d.read(1), 0);
        DodgemDebate cut = debate("b00e5;b02e5;b04e5", "");
        cut.sheet(2, 1, 60);
        int[] rows = {1, 2, 1, 1, 4, 2, 0, 3, 0, 0, 3, 8};
        for (int i = 0; i < rows.length; i++) {
            cut.put(2, 1, i, rows[i]);
        }
        due("10: three, and no car 8", cut.read(2), 3);
        due("10: car 0 goes on", cut.at(4, 0, 5), 1);
        due("10: car 1 is cut", cut.at(2, 1, 5), 0);
        due("10: not sooner", cut.at(1, 1, 5), 1);
        due("10: car 2 is cut", cut.at(4, 2, 5), 0);
        due("10: not sooner", cut.at(3, 2, 5), 1);
        due("10: rung", cut.house(3, 2), 1);
        cut.sheet(3, 0, 60);
        due("10: twenty bells, five of them", cut.read(3), 5);
        due("10: as long as there is room", cut.count(4), 8);
    }

    private static void moments() {
        promise11();
        moreOfMoments();
        promise12();
        promise13();
        promise14to16();
        promise17();
        promise18();
        promise19();
    }

    private static void promise11() {
        DodgemDebate one = debate("b00e5", "");
        isAt("11: goes", one, 0, 0, 1, 0, 0, 0, 0, 1);
        isAt("11: at the edge", one, 4, 0, 5, 0, 0, 0, 0, 1);
        isAt("11: turns round", one, 5, 0, 5, 0, 2, 0, 0, 1);
        isAt("11: comes back", one, 6, 0, 4, 0, 2, 0, 0, 1);
        isAt("11: turns again", one, 11, 0, 0, 0, 0, 0, 0, 1);
        isAt("11: in the end", one, 23, 0, 0, 0, 0, 0, 0, 1);
        DodgemDebate two = headOn();
        isAt("11: struck", two, 0, 0, 0, 0, 0, 0, 1, 1);
        isAt("11: has struck", two, 0, 1, 1, 0, 2, 3, 0, 1);
        isAt("11: points", two, 1, 0, 0, 0, 0, 3, 2, 1);
        isAt("11: points", two, 1, 1, 1, 0, 2, 6, 1, 1);
        isAt("11: in the end", two, 23, 0, 0, 0, 0, 69, 24, 1);
        isAt("11: in the end", two, 23, 1, 1, 0, 2, 72, 23, 1);
        due("11", two.at(-1, 0, 0), -2);
        due("11", two.at(24, 0, 0), -2);
        due("11", two.at(0, -1, 0), -2);
        due("11", two.at(0, 2, 0), -2);
        due("11", two.at(0, 0, -1), -2);
        due("11", two.at(0, 0, 6), -2);
    }

    private static void moreOfMoments() {
        DodgemDebate turns = debate("b22e5;m30n5;h33n5", "a0l;a1l;a2r;b0r;b0r");
        isAt("11: left, and then pushed west", turns, 0, 0, 1, 3, 1, 0, 1);
        isAt("11: right twice", turns, 1, 0, 1, 2, 3);
        isAt("11: a minister's stays", turns, 0, 1, 3, 1, 1);
        isAt("11: a historian's goes against its way", turns, 0, 2, 2, 3, 0, 2);
        DodgemDebate edge = debate("h00e5;m05n1", "");
        isAt("11: a historian's turns round", edge, 0, 0, 0, 0, 2);
        isAt("11: and comes away", edge, 1, 0, 1, 0, 2);
        isAt("11: a minister's turns round", edge, 0, 1, 0, 5, 3);
        DodgemDebate rung = debate("b22e5", "a0l;b0l");
        rung.event(0, 0, 0);
        isAt("11: steers are done in a bell", rung, 0, 0, 2, 2, 1);
        DodgemDebate cut = debate("b22e5", "b0l");
        cut.event(1, 0, 0);
        isAt("11: and without current", cut, 1, 0, 2, 2, 1, 0, 0, 0);
        DodgemDebate same = debate("b00e5;b10e5", "");
        same.event(1, 0, 1);
        isAt("11: from behind for 1, and it is pushed", same, 0, 0, 1, 0, 0, 1, 0, 1);
        isAt("11: pushed", same, 0, 1, 2, 0, 0, 0, 1, 0);
        isAt("11: pushed to the edge", same, 3, 1, 5, 0, 0, 0, 4, 0);
        isAt("11: both stay at the edge", same, 4, 0, 4, 0, 0, 5, 0, 1);
        DodgemDebate side = debate("b00e4;b10n5", "");
        side.event(1, 0, 1);
        isAt("11: from the side for 2, but too light", side, 0, 0, 0, 0, 0, 2, 0, 1);
        isAt("11: stays", side, 0, 1, 1, 0, 1, 0, 1, 0);
        DodgemDebate three = debate("b00e9;b10e1;b20e1", "");
        three.event(1, 0, 1);
        three.event(1, 0, 2);
        isAt("11: two in a row are not pushed", three, 0, 0, 0, 0, 0, 1, 0, 1);
        DodgemDebate history = debate("h20e5;h10e5", "");
        history.event(1, 0, 1);
        isAt("11: by its way, not by how it goes", history, 0, 0, 1, 0, 0, 3, 0, 1);
    }

    private static void promise12() {
        DodgemDebate d = headOn();
        due("12", d.who(0, 0, 0), 0);
        due("12", d.who(0, 1, 0), 1);
        due("12", d.who(0, 2, 0), -1);
        due("12", d.who(23, 5, 5), -1);
        due("12", d.who(-1, 0, 0), -2);
        due("12", d.who(24, 0, 0), -2);
        due("12", d.who(0, -1, 0), -2);
        due("12", d.who(0, 6, 0), -2);
        due("12", d.who(0, 0, -1), -2);
        due("12", d.who(0, 0, 6), -2);
    }

    private static void promise13() {
        DodgemDebate d = debate("b20e5;b25w5", "");
        d.event(0, 1, 7);
        due("13", d.house(0, 0), 1);
        due("13", d.house(0, 1), 1);
        due("13", d.house(0, 2), 0);
        due("13: who turns round is where it was", debate("b00w5;b10e5;b50e5", "").house(0, 0), 2);
        due("13: the others", debate("b00w5;b10e5;b50e5", "").house(0, 1), 1);
        due("13", d.house(1, 2), 1);
        due("13", d.house(2, 2), 0);
        due("13", d.house(-1, 0), -2);
        due("13", d.house(24, 0), -2);
        due("13", d.house(0, 3), -2);
        due("13", d.house(0, -1), -2);
    }

    private static void promise14to16() {
        DodgemDebate d = headOn();
        due("14", d.strikes(), 47);
        due("15", d.first(0), 0);
        due("15", d.first(1), 1);
        due("15", d.first(2), -2);
        due("15", d.first(-1), -2);
        due("16", d.best(), 1);
        DodgemDebate apart = debate("b00e5;b05e5", "");
        due("14", apart.strikes(), 0);
        due("15", apart.first(0), -1);
        due("15", apart.first(1), -1);
        due("16: of like ones the least", apart.best(), 0);
        due("16: none", new DodgemDebate().best(), -1);
        DodgemDebate late = debate("b55n1;b10e5;b40w5", "");
        due("15: both strike in moment 1, car 1 first", late.first(0), 1);
        due("15", late.first(1), 1);
    }

    private static void promise17() {
        DodgemDebate d = debate("b05e5;b00e5;b44e5;b20w5", "");
        due("17", d.meek(), 0b0101);
        due("17: none", headOn().meek(), 0);
        due("17: no cars", new DodgemDebate().meek(), 0);
    }

    private static void promise18() {
        DodgemDebate d = debate("b00w9;b10w1", "");
        // Car 0 turns round and pushes car 1 east, which strikes back, too light; from moment 5 on, at the
        // edge, both stay by both strikes.
        due("18", d.jam(0), 5);
        due("18", d.jam(1), 2);
        due("18", d.jam(2), -2);
        due("18", d.jam(-1), -2);
        due("18: none stay", headOn().jam(1), 0);
        due("18: none stay", headOn().jam(0), 0);
        DodgemDebate later = debate("b00e1;b30w9;b31s9", "");
        later.event(1, 0, 1);
        // Car 2 strikes car 1 from moment 0 on, car 0 joins it in moment 2.
        due("18: most", later.jam(0), 2);
        due("18: most", later.jam(1), 2);
    }

    private static void promise19() {
        DodgemDebate d = debate("b00n5;b55n5;b10n5", "");
        due("19", d.carried(), 0);
        d.event(0, 0, 0);
        due("19: at the first moment", d.carried(), 1);
        d.back();
        d.event(0, 3, 0);
        due("19", d.carried(), 1);
        d.event(0, 3, 1);
        due("19: one moment", d.carried(), 1);
        d.event(0, 23, 1);
        d.event(1, 5, 1);
        due("19", d.carried(), 2);
        DodgemDebate even = debate("b00n5;b55n5", "");
        even.event(0, 3, 0);
        due("19: as many are not more", even.carried(), 0);
    }

    private static void plans() {
        promise20();
        promise21();
        promise22();
        promise23();
    }

    private static void promise20() {
        DodgemDebate alone = debate("b33e5", "");
        due("20: of like ones the least", alone.stand(0, 0), 0);
        due("20", alone.stand(0, 1), 0);
        due("20", alone.stand(0, 2), 0);
        // Car 1 stands still at 5,5 facing west: car 0 comes at it from the west in each moment for 3.
        DodgemDebate d = debate("b00e1;b55w9", "");
        d.event(1, 0, 1);
        due("20", d.stand(0, 0), 4);
        due("20", d.stand(0, 1), 5);
        due("20", d.stand(0, 2), 72);
        due("20: told is told", d.car(0, 1), 0);
        due("20: told is told", d.at(0, 0, 0), 1);
        due("20", d.stand(1, 0), 0);
        due("20: not the other's cell", d.stand(1, 1), 1);
        due("20", d.stand(-1, 0), -2);
        due("20", d.stand(2, 0), -2);
        due("20", d.stand(0, 3), -2);
        due("20", d.stand(0, -1), -2);
    }

    private static void promise21() {
        // Car 1 stands still ahead on the left, facing south: a left turn at once strikes it for 3, 24 times.
        DodgemDebate d = debate("b22e1;b23s9", "");
        d.event(1, 0, 1);
        due("21", d.better(0, 0, 0), 1);
        due("21", d.better(0, 0, 1), 72);
        due("21: no turn", d.better(1, 0, 0), 0);
        due("21: told is told", d.steer(0, 0), -1);
        DodgemDebate right = debate("b22e1;b21n9", "");
        right.event(1, 0, 1);
        due("21: right", right.better(0, 0, 0), 2);
        due("21: right", right.better(0, 0, 1), 72);
        DodgemDebate minister = debate("m22e1;b23s9", "");
        minister.event(1, 0, 1);
        due("21: a minister's", minister.better(0, 0, 0), 0);
        due("21: a minister's", minister.better(0, 0, 1), 0);
        DodgemDebate full = debate("b22e1;b23s9", "x0l;x0l;x0l;x0l;x0l;x0l;x0l;x0l;x0l;x0l;x0l;x0l");
        full.event(1, 0, 1);
        due("21: whatever room", full.better(0, 0, 0), 1);
        due("21: whatever room", full.better(0, 0, 1), 72);
        due("21: still twelve", full.count(1), 12);
        due("21", d.better(2, 0, 0), -2);
        due("21", d.better(-1, 0, 0), -2);
        due("21", d.better(0, 24, 0), -2);
        due("21", d.better(0, -1, 0), -2);
        due("21", d.better(0, 0, 2), -2);
        due("21", d.better(0, 0, -1), -2);
    }

    private static void promise22() {
        // Ahead of moment 0 none is an aye; car 0 is one behind moment 0, car 1 behind moment 1.
        DodgemDebate d = debate("b30w5;b45w5", "");
        due("22", d.ring(0), 2);
        due("22", d.ring(1), 2);
        due("22", d.ring(2), -2);
        due("22", d.ring(-1), -2);
        due("22: as told", headOn().ring(0), 0);
        due("22: as told", headOn().ring(1), 2);
        due("22: nobody", new DodgemDebate().ring(1), 0);
    }

    private static void promise23() {
        DodgemDebate d = headOn();
        due("23: none need be spared", d.spare(-1), 0);
        due("23", d.spare(0), -1);
        due("23", d.spare(1), -1);
        d.event(1, 0, 0);
        d.event(0, 5, 0);
        d.event(1, 0, 1);
        due("23: one", d.spare(-1), 1);
        due("23: the least", d.spare(0), 0);
        due("23", d.spare(1), -1);
        d.back();
        d.event(1, 0, 0);
        d.event(1, 0, 1);
        due("23: one that cuts car 1", d.spare(-1), 1);
        due("23", d.spare(0), 3);
        d.event(1, 0, 1);
        due("23: two", d.spare(-1), 2);
        due("23: the least row", d.spare(0), 0);
        due("23: the least row", d.spare(1), 2);
        d.event(1, 0, 0);
        due("23: the others", d.spare(0), 3);
        due("23: the others", d.spare(1), 4);
        d.event(1, 0, 1);
        due("23: three would be too many", d.spare(-1), -1);
        due("23", d.spare(0), -1);
        due("23", d.spare(1), -1);
        due("23", d.spare(-2), -2);
        due("23", d.spare(2), -2);
    }

    private static void puzzles() {
        promise24and25();
        promise26();
        promise27();
        promise28();
    }

    private static void promise24and25() {
        DodgemDebate d = new DodgemDebate();
        due("25", d.forget(), 0);
        due("24", d.seen(-1, 0, 0, 0), -2);
        due("24", d.seen(24, 0, 0, 0), -2);
        due("24", d.seen(0, -1, 0, 0), -2);
        due("24", d.seen(0, 8, 0, 0), -2);
        due("24", d.seen(0, 0, -1, 0), -2);
        due("24", d.seen(0, 0, 6, 0), -2);
        due("24", d.seen(0, 0, 0, -1), -2);
        due("24", d.seen(0, 0, 0, 6), -2);
        for (int i = 0; i < 8; i++) {
            due("24", d.seen(23, 7, 5, 5), i + 1);
        }
        due("24", d.seen(0, 0, 0, 0), -4);
        due("24: bad is ahead of full", d.seen(24, 0, 0, 0), -2);
        due("24", d.count(7), 8);
        due("25", d.forget(), 8);
        due("25", d.count(7), 0);
    }

    private static void promise26() {
        DodgemDebate d = debate("b00e5", "");
        due("26", d.never(), 0);
        d.event(0, 0, 0);
        d.event(1, 9, 0);
        d.event(0, 1, 0);
        due("26: nothing seen", d.never(), 0b111);
        d.seen(1, 0, 1, 0);
        due("26: one of the bells", d.never(), 0b101);
        d.seen(0, 0, 1, 0);
        due("26: the first", d.never(), 0b001);
        d.seen(0, 1, 1, 0);
        due("26: of no car", d.never(), 0);
    }

    private static void promise27() {
        DodgemDebate d = debate("b22e5;b42w5", "a0l");
        due("27: nothing seen", d.was(0, 0), 0b111);
        due("27: nothing seen", d.was(0, 1), 1022);
        d.seen(0, 0, 2, 3);
        due("27: it steers", d.was(0, 0), 0b001);
        d.forget();
        d.seen(0, 0, 2, 1);
        due("27: it steers, backwards", d.was(0, 0), 0b100);
        d.forget();
        d.seen(0, 0, 2, 2);
        due("27: it doesn't steer, and is pushed back", d.was(0, 0), 0b010);
        DodgemDebate push = debate("b00e5;b10e5", "");
        push.event(1, 0, 1);
        push.seen(0, 0, 1, 0);
        due("27: no less heavy", push.was(0, 1), 0b1111100000);
        due("27: no heavier", push.was(1, 1), 0b0000111110);
        due("27: told is told", push.car(0, 4), 5);
        push.seen(0, 7, 1, 0);
        due("27: of no car", push.was(0, 1), 0);
        due("27", push.was(2, 0), -2);
        due("27", push.was(-1, 0), -2);
        due("27", push.was(0, 2), -2);
        due("27", push.was(0, -1), -2);
    }

    private static void promise28() {
        DodgemDebate d = debate("b10e5;b30w5", "");
        d.event(1, 0, 1);
        // In moment 1 car 0 strikes car 1: from 5 on it goes there, else it stays.
        due("28", d.ask(0), 1);
        due("28: the other is pushed by up to 5", d.ask(1), 1);
        d.seen(1, 0, 2, 0);
        due("28: all are alike", d.ask(0), 0);
        due("28: no such weight", debate("b00e5", "").ask(0), 0);
        due("28", d.ask(2), -2);
        due("28", d.ask(-1), -2);
    }

    private static void chances() {
        promise29();
        promise30();
    }

    private static void promise29() {
        DodgemDebate d = headOn();
        due("29: without events", d.chance(5, 0, 0), 1);
        due("29: without events", d.chance(5, 0, 1), 1);
        d.event(1, 0, 1);
        due("29: car 1 strikes it unless it is cut", d.chance(4, 0, 0), 3);
        due("29", d.chance(4, 0, 1), 4);
        due("29: in any case", d.chance(4, 1, 0), 1);
        due("29: in any case", d.chance(4, 1, 1), 1);
        due("29: never", d.chance(16, 0, 0), 0);
        due("29: by 1", d.chance(16, 0, 1), 1);
        due("29: always", d.chance(0, 0, 0), 1);
        for (int i = 0; i < 7; i++) {
            d.event(1, 0, 1);
        }
        due("29: one sixteenth, eight times", d.chance(15, 0, 0), 1);
        due("29: one sixteenth, eight times", d.chance(15, 0, 1), 1L << 32);
        long bad = Long.MIN_VALUE + 2;
        due("29", d.chance(-1, 0, 0), bad);
        due("29", d.chance(17, 0, 0), bad);
        due("29", d.chance(0, 2, 0), bad);
        due("29", d.chance(0, -1, 0), bad);
        due("29", d.chance(0, 0, 2), bad);
        due("29", d.chance(0, 0, -1), bad);
    }

    private static void promise30() {
        DodgemDebate d = headOn();
        due("30: without events", d.ages(99, 0, 0), 47);
        due("30: without events", d.ages(99, 0, 1), 141);
        d.event(1, 0, 0);
        d.event(1, 0, 1);
        due("30: in place of those told", d.ages(99, 0, 0), 47);
        due("30: told is told", d.count(4), 2);
        // Of seed 1 the upper 16 bits are 16838, 14666 and 10953: a bell in moment 2.
        due("30: one bell", d.ages(1, 1, 0), 45);
        due("30: one bell", d.ages(1, 1, 1), 135);
        due("30: no cars", new DodgemDebate().ages(1, 8, 0), 0);
        due("30", d.ages(1, -1, 0), -2);
        due("30", d.ages(1, 9, 0), -2);
        due("30", d.ages(1, 8, 2), -2);
        due("30", d.ages(1, 8, -1), -2);
    }

    private static void sheets() {
        promise31and32();
        promise33and34();
        promise35();
        promise36();
        promise37();
        promise38();
    }

    private static void promise31and32() {
        DodgemDebate d = new DodgemDebate();
        due("31", d.sheet(-1, 0, 1), -2);
        due("31", d.sheet(4, 0, 1), -2);
        due("31", d.sheet(0, -1, 1), -2);
        due("31", d.sheet(0, 3, 1), -2);
        due("31", d.sheet(0, 0, 61), -2);
        due("31: bad is ahead of size", d.sheet(0, 3, -1), -2);
        due("31", d.count(8), 0);
        due("31", d.sheet(0, 0, -1), SIZE);
        due("31", d.count(8), 5);
        due("32: size made no sheet", d.lose(0), NULL);
        due("31", d.sheet(0, 2, 60), 60);
        due("31: 0 at first", d.get(0, 2, 59), 0);
        d.put(0, 2, 3, 9);
        due("31: size changes nothing", d.sheet(0, 2, -1), SIZE);
        due("31: size changes nothing", d.get(0, 2, 3), 9);
        due("31: a new row", d.sheet(0, 2, 10), 10);
        due("31: a new row", d.get(0, 2, 3), 0);
        due("32", d.lose(0), 10);
        due("32", d.lose(0), NULL);
        due("32", d.lose(-1), -2);
        due("32", d.lose(4), -2);
        due("31: of none", d.sheet(3, 1, 0), 0);
        due("32: of none", d.lose(3), 0);
    }

    private static void promise33and34() {
        DodgemDebate d = new DodgemDebate();
        due("33", d.put(0, 0, 0, 1), NULL);
        due("34", d.get(0, 0, 0), LEAST);
        d.sheet(0, 0, 3);
        d.sheet(1, 1, 3);
        d.sheet(2, 2, 3);
        due("33", d.put(-1, 0, 0, 1), -2);
        due("33", d.put(4, 0, 0, 1), -2);
        due("33", d.put(0, -1, 0, 1), -2);
        due("33", d.put(0, 3, 0, 1), -2);
        due("33: cast is ahead of index", d.put(0, 1, 3, 1), CAST);
        due("33", d.count(8), 3);
        due("33", d.put(0, 0, 3, 1), INDEX);
        due("33", d.put(0, 0, -1, 1), INDEX);
        due("33", d.count(8), 2);
        due("33: null is ahead of cast", d.put(3, 2, 0, 1), NULL);
        due("33", d.put(0, 0, 0, 200), 1);
        due("34: lowest bits of a byte", d.get(0, 0, 0), -56);
        due("33", d.put(1, 1, 2, 0x12348765), 1);
        due("34: lowest bits of a short", d.get(1, 1, 2), (short) 0x8765);
        due("33", d.put(2, 2, 1, LEAST + 1), 1);
        due("34: all bits of an int", d.get(2, 2, 1), LEAST + 1);
        due("34", d.get(-1, 0, 0), LEAST);
        due("34", d.get(0, 3, 0), LEAST);
        due("34: bad is no finding", d.count(8), 1);
        due("34", d.get(0, 2, 0), LEAST);
        due("34", d.count(8), 3);
        due("34", d.get(0, 0, 3), LEAST);
        due("34", d.count(8), 2);
        due("34", d.get(3, 0, 0), LEAST);
        due("34", d.count(8), 1);
    }

    private static void promise35() {
        DodgemDebate d = new DodgemDebate();
        d.sheet(0, 1, 5);
        d.sheet(1, 1, 4);
        d.sheet(2, 2, 4);
        for (int i = 0; i < 5; i++) {
            d.put(0, 1, i, i + 1);
        }
        due("35", d.copy(-1, 0, 0, 0, 1), -2);
        due("35", d.copy(0, 0, 4, 0, 1), -2);
        due("35", d.copy(3, 0, 0, 0, 1), NULL);
        due("35", d.copy(0, 0, 3, 0, 1), NULL);
        due("35: store is ahead of index", d.copy(0, 9, 2, 0, 1), STORE);
        due("35", d.count(8), 4);
        due("35", d.copy(0, -1, 1, 0, 1), INDEX);
        due("35", d.copy(0, 0, 1, -1, 1), INDEX);
        due("35", d.copy(0, 0, 1, 0, -1), INDEX);
        due("35", d.copy(0, 0, 1, 0, 5), INDEX);
        due("35", d.copy(0, 2, 1, 0, 4), INDEX);
        due("35", d.copy(0, Integer.MAX_VALUE, 1, 0, Integer.MAX_VALUE), INDEX);
        due("35", d.copy(0, 1, 1, Integer.MAX_VALUE, 2), INDEX);
        due("35: none, at the end", d.copy(0, 5, 1, 4, 0), 1);
        due("35: none, beyond the end", d.copy(0, 6, 1, 4, 0), INDEX);
        due("35", d.get(1, 1, 0), 0);
        due("35", d.copy(0, 1, 1, 0, 4), 1);
        due("35", d.get(1, 1, 0), 2);
        due("35", d.get(1, 1, 3), 5);
        due("35: onto itself", d.copy(0, 0, 0, 1, 4), 1);
        int[] want = {1, 1, 2, 3, 4};
        for (int i = 0; i < 5; i++) {
            due("35: as they were", d.get(0, 1, i), want[i]);
        }
    }

    private static void promise36() {
        DodgemDebate d = headOn();
        due("36", d.write(0, 0), NULL);
        d.sheet(0, 0, 60);
        d.sheet(1, 2, 3);
        due("36", d.write(1, -1), -2);
        due("36", d.write(1, 4), -2);
        due("36", d.write(2, 0), -2);
        due("36", d.write(-1, 0), -2);
        due("36: bad is ahead of null", d.write(2, 3), -2);
        d.put(0, 0, 24, 7);
        due("36", d.write(1, 0), 24);
        due("36", d.get(0, 0, 0), 3);
        due("36", d.get(0, 0, 23), 72);
        due("36: no more", d.get(0, 0, 24), 7);
        due("36", d.write(0, 1), 3);
        due("36", d.get(1, 2, 0), 0);
        due("36", d.get(1, 2, 2), 6);
        d.sheet(1, 1, 0);
        due("36: no items", d.write(0, 1), 0);
    }

    private static void promise37() {
        DodgemDebate d = debate("b00e5;b20w5", "x5l");
        d.event(0, 23, 0);
        d.seen(0, 0, 0, 0);
        d.lose(2);
        int[] want = {2, 1, 11, 3, 1, 45, 135, 1, 1};
        for (int what = 0; what <= 8; what++) {
            due("37: count(" + what + ")", d.count(what), want[what]);
        }
        due("37", d.count(9), -2);
        due("37", d.count(-1), -2);
    }

    private static long plus(long h, long... values) {
        for (long v : values) {
            h = 31 * h + v;
        }
        return h;
    }

    private static void promise38() {
        long h = plus(17, 0, 0, 0, 0, 0, 0, 0, 0, -1, -1);
        for (int i = 0; i < 36; i++) {
            h = plus(h, -1);
        }
        for (int moment = 0; moment < 24; moment++) {
            h = plus(h, 0, 0, 0);
        }
        h = plus(h, -1, -1, -1, 0, 0, 0, 0, 0, 0, 0, -1, 0, 0, 0);
        due("38: of a new object", new DodgemDebate().digest(), h);
        DodgemDebate d = debate("b12e4;h42w4;m33n9", "d0l;x2r");
        d.event(0, 1, 0);
        d.event(1, 6, 1);
        d.seen(2, 0, 2, 2);
        due("38: of parts", d.digest(), digestByParts(d));
        due("38: changes nothing", d.digest(), digestByParts(d));
        long before = d.digest();
        d.lose(0);
        due("38: findings are not in it", d.digest(), before);
    }

    private static long digestByParts(DodgemDebate d) {
        long h = 17;
        for (int what = 0; what < 8; what++) {
            h = plus(h, d.count(what));
        }
        h = plus(h, d.fault(0), d.fault(1));
        for (int i = 0; i < 12; i++) {
            h = plus(h, d.steer(i, 0), d.steer(i, 1), d.steer(i, 2));
        }
        for (int c = 0; c < d.count(0); c++) {
            h = plus(h, d.car(c, 0), d.car(c, 1), d.car(c, 2), d.car(c, 3), d.car(c, 4));
            for (int m : new int[] {0, 7, 15, 23}) {
                h = plus(h, d.at(m, c, 0), d.at(m, c, 1), d.at(m, c, 2), d.at(m, c, 3), d.at(m, c, 4), d.at(m, c, 5));
            }
            h = plus(h, d.stand(c, 0), d.stand(c, 1), d.stand(c, 2), d.better(c, 9, 0), d.better(c, 9, 1));
            h = plus(h, d.was(c, 0), d.was(c, 1), d.ask(c), d.chance(5, c, 0), d.chance(5, c, 1));
        }
        for (int m = 0; m < 24; m++) {
            h = plus(h, d.house(m, 0), d.house(m, 1), d.house(m, 2));
        }
        h = plus(h, d.first(0), d.first(1), d.best(), d.meek(), d.jam(0), d.jam(1), d.carried());
        return plus(h, d.ring(0), d.ring(1), d.spare(-1), d.spare(0), d.never(), d.ages(7, 6, 0), d.ages(7, 6, 1));
    }
}
