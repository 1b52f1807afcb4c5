/** The sentences of the document on texts, EVENTS and refused calls of them that name an edge, one method for each. */
public final class EdgesOfTextsTest {
    private static final Due DUE = new Due("edges of texts");
    private static final String EIGHT_CARS = "b00e1;m11n2;h22w3;b33s4;m44e5;h55n6;b05w7;m50s9";
    private static final String TWELVE_STEERS = "a0l;b1r;c2l;d3r;e4l;f5r;g6l;h7r;i0l;j1r;w2l;x7r";

    public static void main(String[] args) {
        textsAreTwo();
        aByteIs0To255();
        upTo47Bytes();
        howManyBytes();
        anEmptyTextIsNotUndone();
        theSignsOfACar();
        theSignsOfASteer();
        anEmptyTextIsWell();
        aTextThatIsNotEndedHasItsFaultAtItsEnd();
        theFirstOfTwoFaults();
        aCellThatIsTaken();
        noNinthCarAndNoThirteenthSteer();
        withAFaultAsIfEmpty();
        aFaultThatIsUndone();
        eachPartOfACar();
        noSuchCar();
        eachPartOfASteer();
        noSuchSteer();
        DUE.end();
    }

    private static DodgemDebate typed(int text, String s) {
        DodgemDebate d = new DodgemDebate();
        Due.typeAll(d, text, s);
        return d;
    }

    private static void textsAreTwo() {
        for (int text : new int[] {-1, 2, 3, 255, Due.LEAST, Due.MOST}) {
            DodgemDebate d = Due.debate("b00e1", "a0l");
            DUE.is("2: type(" + text + ")", d.type(text, 98), Due.BAD);
            DUE.is("3: wipe(" + text + ")", d.wipe(text), Due.BAD);
            DUE.is("4: undo(" + text + ")", d.undo(text), Due.BAD);
            DUE.is("5: fault(" + text + ")", d.fault(text), Due.BAD);
            DUE.is("nothing comes of it", d.count(2) * 100 + d.count(3), 503);
        }
    }

    private static void aByteIs0To255() {
        for (int text = 0; text < 2; text++) {
            DodgemDebate d = new DodgemDebate();
            for (int b : new int[] {-1, 256, 98 + 256, Due.LEAST, Due.MOST}) {
                DUE.is("2: type of " + b, d.type(text, b), Due.BAD);
            }
            DUE.is("2: none of them came", d.count(2 + text), 0);
            DUE.is("2: type of 0", d.type(text, 0), 1);
            DUE.is("2: type of 255", d.type(text, 255), 2);
        }
    }

    private static void upTo47Bytes() {
        for (int text = 0; text < 2; text++) {
            DodgemDebate d = new DodgemDebate();
            for (int i = 1; i <= 47; i++) {
                DUE.is("2: byte " + i, d.type(text, ';'), i);
            }
            DUE.is("2: byte 48", d.type(text, ';'), Due.FULL);
            DUE.is("2: BAD is ahead of FULL, of a byte", d.type(text, 256), Due.BAD);
            DUE.is("2: BAD is ahead of FULL, of a text", d.type(2, ';'), Due.BAD);
            DUE.is("2: FULL changes nothing", d.count(2 + text), 47);
            DUE.is("2: the other has room", d.type(1 - text, ';'), 1);
            DUE.is("4: one undone", d.undo(text), 46);
            DUE.is("2: room for one", d.type(text, 'b'), 47);
            DUE.is("2: and no more", d.type(text, 'b'), Due.FULL);
            DUE.is("3: wiped", d.wipe(text), 47);
            DUE.is("2: room again", d.type(text, 'b'), 1);
        }
    }

    private static void howManyBytes() {
        DodgemDebate d = Due.debate("b00e1;b", "a0l");
        DUE.is("37: of cars", d.count(2), 7);
        DUE.is("37: of steers", d.count(3), 3);
        DUE.is("4: of cars", d.undo(0), 6);
        DUE.is("4: of steers", d.undo(1), 2);
        DUE.is("3: of steers", d.wipe(1), 2);
        DUE.is("3: of steers, empty", d.wipe(1), 0);
        DUE.is("3: cars stay", d.count(2), 6);
        DUE.is("3: of cars", d.wipe(0), 6);
        DUE.is("3: of cars, empty", d.wipe(0), 0);
    }

    private static void anEmptyTextIsNotUndone() {
        for (int text = 0; text < 2; text++) {
            DodgemDebate d = new DodgemDebate();
            DUE.is("4: new", d.undo(text), Due.NOT);
            d.type(text, 'b');
            d.type(1 - text, 'a');
            DUE.is("4: the last", d.undo(text), 0);
            DUE.is("4: none is left", d.undo(text), Due.NOT);
            d.type(text, 'b');
            d.wipe(text);
            DUE.is("4: wiped", d.undo(text), Due.NOT);
            DUE.is("4: the other stays", d.count(3 - text), 1);
        }
    }

    /** Of all bytes just the signs can stand behind a text; then its FAULT is the one given, else their place. */
    private static void canGoOnWith(int text, String ahead, String signs, int then) {
        for (int b = 0; b < 256; b++) {
            DodgemDebate d = typed(text, ahead);
            d.type(text, b);
            boolean fine = signs.indexOf((char) b) >= 0;
            DUE.is("5: byte " + b + " behind '" + ahead + "'", d.fault(text), fine ? then : ahead.length());
        }
    }

    private static void theSignsOfACar() {
        canGoOnWith(0, "", "bmh", 1);
        canGoOnWith(0, "b", "012345", 2);
        canGoOnWith(0, "m0", "012345", 3);
        canGoOnWith(0, "h05", "enws", 4);
        canGoOnWith(0, "b50e", "123456789", Due.NONE);
        canGoOnWith(0, "b00e1", ";", 6);
        canGoOnWith(0, "b00e1;", "bmh", 7);
        canGoOnWith(0, "b00e1;m10n2;h", "012345", 14);
    }

    private static void theSignsOfASteer() {
        canGoOnWith(1, "", "abcdefghijklmnopqrstuvwx", 1);
        canGoOnWith(1, "a", "01234567", 2);
        canGoOnWith(1, "x7", "lr", Due.NONE);
        canGoOnWith(1, "a0l", ";", 4);
        canGoOnWith(1, "a0l;", "abcdefghijklmnopqrstuvwx", 5);
        canGoOnWith(1, "a0l;b1r;c", "01234567", 10);
    }

    private static void anEmptyTextIsWell() {
        DodgemDebate d = new DodgemDebate();
        DUE.is("5: no cars", d.fault(0), Due.NONE);
        DUE.is("5: no steers", d.fault(1), Due.NONE);
        d.type(0, 'x');
        d.wipe(0);
        DUE.is("5: wiped", d.fault(0), Due.NONE);
    }

    private static void aTextThatIsNotEndedHasItsFaultAtItsEnd() {
        prefixes(0, EIGHT_CARS, 6);
        prefixes(1, TWELVE_STEERS, 4);
    }

    private static void prefixes(int text, String whole, int signs) {
        DUE.is("a text of 47", whole.length(), 47);
        DodgemDebate d = new DodgemDebate();
        for (int n = 1; n <= 47; n++) {
            d.type(text, whole.charAt(n - 1));
            boolean ended = n % signs == signs - 1;
            DUE.is("5: the first " + n + " of " + whole, d.fault(text), ended ? Due.NONE : n);
            DUE.is("37: rows of them", d.count(text), ended ? (n + 1) / signs : 0);
        }
        for (int n = 46; n >= 0; n--) {
            DUE.is("4: undone", d.undo(text), n);
            boolean ended = n == 0 || n % signs == signs - 1;
            DUE.is("5: again " + n, d.fault(text), ended ? Due.NONE : n);
            DUE.is("37: again", d.count(text), ended ? (n + 1) / signs : 0);
        }
    }

    private static void theFirstOfTwoFaults() {
        DUE.is("5", typed(0, "b00x0").fault(0), 3);
        DUE.is("5: ; twice", typed(0, "b00e1;;b01e1").fault(0), 6);
        DUE.is("5: a cell that is taken is ahead of a wrong way", typed(0, "b00e1;b00x1").fault(0), 8);
        DUE.is("5: a wrong x is ahead of it", typed(0, "b00e1;b60e1").fault(0), 7);
        DUE.is("5: a wrong sort is ahead of it", typed(0, "b00e1;x00e1").fault(0), 6);
        DUE.is("5: one byte too many", typed(0, "b00e12").fault(0), 5);
        DUE.is("5: steers", typed(1, "a9x").fault(1), 1);
        DUE.is("5: ; twice", typed(1, "a0l;;").fault(1), 4);
        DodgemDebate both = Due.debate("b0", "a0l;y");
        DUE.is("5: each text has its own", both.fault(0), 2);
        DUE.is("5: each text has its own", both.fault(1), 4);
    }

    private static void aCellThatIsTaken() {
        canGoOnWith(0, "b23e1;h2", "01245", 9);
        canGoOnWith(0, "b20e1;b25e1;h2", "1234", 15);
        canGoOnWith(0, "b00e1;m11n2;h22w3;b33s4;m44e5;h55n6;b05w7;m0", "1234", 45);
        DUE.is("5: of the last, by the first", typed(0, "b00e1;m11n2;h22w3;b33s4;m44e5;h55n6;b05w7;m00s9").fault(0), 44);
        DUE.is("5: x and y the other way round", typed(0, "b23e1;b32e1").fault(0), Due.NONE);
        DUE.is("5: of like x", typed(0, "b23e1;b24e1").fault(0), Due.NONE);
        DUE.is("5: of like y", typed(0, "b23e1;b13e1").fault(0), Due.NONE);
        DUE.is("5: a steer may be told again", typed(1, "a0l;a0l").fault(1), Due.NONE);
        DodgemDebate d = typed(0, "b23e1;h23");
        d.wipe(0);
        Due.typeAll(d, 0, "h23e1");
        DUE.is("5: a cell of a text that is wiped is free", d.fault(0), Due.NONE);
    }

    private static void noNinthCarAndNoThirteenthSteer() {
        DodgemDebate d = Due.debate(EIGHT_CARS, TWELVE_STEERS);
        DUE.is("2: a ninth car has no room", d.type(0, ';'), Due.FULL);
        DUE.is("2: a thirteenth steer has no room", d.type(1, ';'), Due.FULL);
        DUE.is("5: eight are well", d.fault(0), Due.NONE);
        DUE.is("5: twelve are well", d.fault(1), Due.NONE);
        DUE.is("37: eight", d.count(0), 8);
        DUE.is("37: twelve", d.count(1), 12);
        DUE.is("6: the last", d.car(7, 4), 9);
        DUE.is("7: the last", d.steer(11, 0), 23);
    }

    private static void withAFaultAsIfEmpty() {
        DodgemDebate cars = Due.debate("b00e5;b10w5;", "a0l");
        DUE.is("37: no cars", cars.count(0), 0);
        DUE.is("37: its bytes", cars.count(2), 12);
        DUE.is("37: steers stay", cars.count(1), 1);
        DUE.is("6", cars.car(0, 0), Due.BAD);
        DUE.is("11", cars.at(0, 0, 0), Due.BAD);
        DUE.is("12", cars.who(0, 0, 0), Due.NONE);
        DUE.is("13", cars.house(0, 0), 0);
        DUE.is("14", cars.strikes(), 0);
        DUE.is("16", cars.best(), Due.NONE);
        DUE.is("17", cars.meek(), 0);
        DUE.is("20", cars.stand(0, 0), Due.BAD);
        DUE.is("21", cars.better(0, 0, 0), Due.BAD);
        DUE.is("22", cars.ring(1), 0);
        DUE.is("23", cars.spare(-1), 0);
        DUE.is("27", cars.was(0, 0), Due.BAD);
        DUE.is("28", cars.ask(0), Due.BAD);
        DUE.is("29", cars.chance(0, 0, 0), Due.BAD_LONG);
        DUE.is("30", cars.ages(1, 8, 0), 0);
        DodgemDebate steers = Due.debate("b22e5", "a0l;a0l;");
        DUE.is("37: no steers", steers.count(1), 0);
        DUE.is("37: its bytes", steers.count(3), 8);
        DUE.is("7", steers.steer(0, 0), Due.NONE);
        DUE.isAt("11: it is not steered", steers, 0, 0, 3, 2, 0);
        DUE.is("37: cars stay", steers.count(0), 1);
    }

    private static void aFaultThatIsUndone() {
        DodgemDebate d = Due.debate("b22e5;", "a0l;");
        d.undo(0);
        DUE.isAt("11: the car is there, and not steered", d, 0, 0, 3, 2, 0);
        d.undo(1);
        DUE.isAt("11: it is steered", d, 0, 0, 2, 3, 1);
        d.type(0, 'x');
        DUE.is("11: it is gone", d.at(0, 0, 0), Due.BAD);
        d.undo(0);
        d.undo(0);
        d.type(0, '9');
        DUE.is("6: another weight", d.car(0, 4), 9);
        d.wipe(0);
        DUE.is("6: none", d.car(0, 4), Due.BAD);
    }

    private static void eachPartOfACar() {
        int[][] told = {{0, 0, 0, 0, 1}, {1, 1, 1, 1, 2}, {2, 2, 2, 2, 3}, {0, 3, 3, 3, 4},
            {1, 4, 4, 0, 5}, {2, 5, 5, 1, 6}, {0, 0, 5, 2, 7}, {1, 5, 0, 3, 9}};
        DodgemDebate d = typed(0, EIGHT_CARS);
        for (int car = 0; car < 8; car++) {
            for (int what = 0; what < 5; what++) {
                DUE.is("6: car(" + car + ", " + what + ")", d.car(car, what), told[car][what]);
            }
            for (int what : new int[] {-1, 5, Due.LEAST, Due.MOST}) {
                DUE.is("6: car(" + car + ", " + what + ")", d.car(car, what), Due.BAD);
            }
        }
    }

    private static void noSuchCar() {
        for (int many = 0; many <= 8; many++) {
            DodgemDebate d = typed(0, EIGHT_CARS.substring(0, Math.max(0, 6 * many - 1)));
            DUE.is("37: cars", d.count(0), many);
            for (int car = many; car < 10; car++) {
                DUE.is("6: " + car + " of " + many, d.car(car, 0), Due.BAD);
            }
            for (int car : Due.NUMBERS_BELOW_0) {
                DUE.is("6: " + car + " of " + many, d.car(car, 0), Due.BAD);
            }
            DUE.is("6: the greatest", d.car(Due.MOST, 0), Due.BAD);
        }
    }

    private static void eachPartOfASteer() {
        DodgemDebate d = typed(1, TWELVE_STEERS);
        int[] moments = {0, 1, 2, 3, 4, 5, 6, 7, 8, 9, 22, 23};
        int[] cars = {0, 1, 2, 3, 4, 5, 6, 7, 0, 1, 2, 7};
        for (int i = 0; i < 12; i++) {
            DUE.is("7: the moment of " + i, d.steer(i, 0), moments[i]);
            DUE.is("7: the car of " + i, d.steer(i, 1), cars[i]);
            DUE.is("7: left or right of " + i, d.steer(i, 2), 1 + i % 2);
            for (int what : new int[] {-1, 3, Due.LEAST, Due.MOST}) {
                DUE.is("7: steer(" + i + ", " + what + ")", d.steer(i, what), Due.BAD);
            }
        }
    }

    private static void noSuchSteer() {
        DodgemDebate d = typed(1, "a0l");
        DUE.is("7: told", d.steer(0, 2), 1);
        for (int i = 1; i < 12; i++) {
            for (int what = 0; what < 3; what++) {
                DUE.is("7: there is no " + i, d.steer(i, what), Due.NONE);
            }
            DUE.is("7: BAD is ahead of NONE", d.steer(i, 3), Due.BAD);
        }
        DUE.is("7: none can be the 12th", d.steer(12, 0), Due.BAD);
        DUE.is("7: the greatest", d.steer(Due.MOST, 0), Due.BAD);
        for (int i : Due.NUMBERS_BELOW_0) {
            DUE.is("7: steer(" + i + ")", d.steer(i, 0), Due.BAD);
        }
    }
}
