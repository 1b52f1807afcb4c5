/** The sentences of the document on SHEETS, FINDINGS, count and digest that name an edge, one method for each. */
public final class EdgesOfSheetsTest {
    private static final Due DUE = new Due("edges of sheets");
    private static final int[] NO_SHEET = {-1, 4, Due.LEAST, Due.MOST};
    private static final int[] NO_FORM = {-1, 3, Due.LEAST, Due.MOST};
    private static final int BYTES = 0, SHORTS = 1, INTS = 2;

    public static void main(String[] args) {
        making();
        losing();
        putting();
        copying();
        reading();
        writing();
        counting();
        digesting();
        DUE.end();
    }

    private static void isRow(String what, DodgemDebate d, int s, int form, int... items) {
        for (int i = 0; i < items.length; i++) {
            DUE.is(what + ": item " + i, d.get(s, form, i), items[i]);
        }
        DUE.is(what + ": no item more", d.get(s, form, items.length), Due.LEAST);
        DUE.is(what + ": INDEX", d.count(8), 2);
    }

    // ---- sheet

    private static void making() {
        allAreLostAtFirst();
        sheetsAre0To3();
        formsAre0To2();
        itemsAre0To60();
        aSizeBelow0();
        itemsAre0AtFirst();
        aNewRowInPlaceOfAnother();
    }

    private static void allAreLostAtFirst() {
        DodgemDebate d = Due.debate("b00e5", "");
        for (int s = 0; s < 4; s++) {
            DUE.is("32: lose", d.lose(s), Due.NULL);
            DUE.is("33: put", d.put(s, 0, 0, 1), Due.NULL);
            DUE.is("34: get", d.get(s, 0, 0), Due.LEAST);
            DUE.is("35: copy", d.copy(s, 0, s, 0, 0), Due.NULL);
            DUE.is("36: write", d.write(0, s), Due.NULL);
            DUE.is("10: read", d.read(s), Due.NULL);
        }
        DUE.is("37: NULL", d.count(8), 1);
        DUE.is("37: no event came", d.count(4), 0);
    }

    private static void sheetsAre0To3() {
        DodgemDebate d = Due.debate("b00e5", "");
        d.sheet(0, 0, 3);
        for (int s : NO_SHEET) {
            DUE.is("31: sheet(" + s + ")", d.sheet(s, 0, 1), Due.BAD);
            DUE.is("32: lose(" + s + ")", d.lose(s), Due.BAD);
            DUE.is("33: put(" + s + ")", d.put(s, 0, 0, 1), Due.BAD);
            DUE.is("34: get(" + s + ")", d.get(s, 0, 0), Due.LEAST);
            DUE.is("35: copy of " + s, d.copy(s, 0, 0, 0, 1), Due.BAD);
            DUE.is("35: copy to " + s, d.copy(0, 0, s, 0, 1), Due.BAD);
            DUE.is("36: write to " + s, d.write(0, s), Due.BAD);
            DUE.is("10: read(" + s + ")", d.read(s), Due.BAD);
        }
        DUE.is("37: BAD is no finding", d.count(8), 0);
        for (int s = 0; s < 4; s++) {
            DUE.is("31: sheet(" + s + ")", d.sheet(s, s % 3, s + 1), s + 1);
        }
        for (int s = 0; s < 4; s++) {
            DUE.is("32: lose(" + s + ")", d.lose(s), s + 1);
        }
    }

    private static void formsAre0To2() {
        DodgemDebate d = new DodgemDebate();
        d.sheet(0, INTS, 3);
        for (int form : NO_FORM) {
            DUE.is("31: form " + form, d.sheet(0, form, 1), Due.BAD);
            DUE.is("33: form " + form, d.put(0, form, 0, 1), Due.BAD);
            DUE.is("34: form " + form, d.get(0, form, 0), Due.LEAST);
            DUE.is("33: BAD is ahead of NULL", d.put(1, form, 0, 1), Due.BAD);
            DUE.is("34: BAD is ahead of NULL", d.get(1, form, 0), Due.LEAST);
        }
        DUE.is("37: BAD is no finding", d.count(8), 0);
        isRow("31: as it was", d, 0, INTS, 0, 0, 0);
    }

    private static void itemsAre0To60() {
        for (int form = 0; form < 3; form++) {
            DodgemDebate d = new DodgemDebate();
            DUE.is("31: none", d.sheet(0, form, 0), 0);
            isRow("31: none", d, 0, form);
            DUE.is("31: 60", d.sheet(0, form, 60), 60);
            DUE.is("33: the last", d.put(0, form, 59, 7), 1);
            DUE.is("34: the last", d.get(0, form, 59), 7);
            DUE.is("31: 61", d.sheet(0, form, 61), Due.BAD);
            DUE.is("31: the greatest", d.sheet(0, form, Due.MOST), Due.BAD);
            DUE.is("34: as it was", d.get(0, form, 59), 7);
            DUE.is("37: BAD is no finding, the latest is INDEX", d.count(8), 2);
        }
    }

    private static void aSizeBelow0() {
        for (int n : Due.NUMBERS_BELOW_0) {
            DodgemDebate d = new DodgemDebate();
            DUE.is("31: BAD is ahead of SIZE, of a sheet", d.sheet(4, 0, n), Due.BAD);
            DUE.is("31: BAD is ahead of SIZE, of a form", d.sheet(0, 3, n), Due.BAD);
            DUE.is("37: no finding", d.count(8), 0);
            DUE.is("31: " + n, d.sheet(0, 0, n), Due.SIZE);
            DUE.is("37: SIZE", d.count(8), 5);
            DUE.is("32: still lost", d.lose(0), Due.NULL);
            Due.fillSheet(d, 0, SHORTS, 1, 2);
            DUE.is("31: " + n, d.sheet(0, 0, n), Due.SIZE);
            isRow("31: as it was", d, 0, SHORTS, 1, 2);
        }
    }

    private static void itemsAre0AtFirst() {
        DodgemDebate d = new DodgemDebate();
        d.sheet(0, INTS, 60);
        for (int i = 0; i < 60; i++) {
            DUE.is("34: item " + i, d.get(0, INTS, i), 0);
            d.put(0, INTS, i, i + 1);
        }
        d.lose(0);
        d.sheet(0, INTS, 60);
        for (int i = 0; i < 60; i++) {
            DUE.is("34: anew, item " + i, d.get(0, INTS, i), 0);
        }
    }

    private static void aNewRowInPlaceOfAnother() {
        DodgemDebate d = new DodgemDebate();
        Due.fillSheet(d, 1, INTS, 1, 2, 3);
        Due.fillSheet(d, 2, INTS, 4, 5, 6);
        DUE.is("31: of another form", d.sheet(1, BYTES, 5), 5);
        isRow("31: new", d, 1, BYTES, 0, 0, 0, 0, 0);
        DUE.is("33: its form", d.put(1, INTS, 0, 1), Due.CAST);
        isRow("31: another is as it was", d, 2, INTS, 4, 5, 6);
    }

    // ---- lose

    private static void losing() {
        DodgemDebate d = new DodgemDebate();
        d.sheet(0, BYTES, 0);
        d.sheet(1, SHORTS, 60);
        d.sheet(2, INTS, 1);
        DUE.is("32: of none", d.lose(0), 0);
        DUE.is("32: it is LOST", d.lose(0), Due.NULL);
        DUE.is("32: of 60", d.lose(1), 60);
        DUE.is("34: it is LOST", d.get(1, SHORTS, 0), Due.LEAST);
        DUE.is("37: NULL", d.count(8), 1);
        DUE.is("32: another stays", d.lose(2), 1);
        DUE.is("32: never made", d.lose(3), Due.NULL);
    }

    // ---- put, get

    private static void putting() {
        itemsThatThereAre();
        theLowestBits();
        orderOfPutAndGet();
        getTellsByCountAlone();
    }

    private static void itemsThatThereAre() {
        DodgemDebate d = new DodgemDebate();
        Due.fillSheet(d, 0, SHORTS, 1, 2, 3);
        for (int i : new int[] {-1, 3, 60, Due.LEAST, Due.MOST}) {
            DUE.is("33: item " + i, d.put(0, SHORTS, i, 9), Due.INDEX);
            DUE.is("34: item " + i, d.get(0, SHORTS, i), Due.LEAST);
            DUE.is("37: INDEX", d.count(8), 2);
        }
        DUE.is("33: the first", d.put(0, SHORTS, 0, 4), 1);
        DUE.is("33: the last", d.put(0, SHORTS, 2, 6), 1);
        isRow("33", d, 0, SHORTS, 4, 2, 6);
        d.sheet(1, SHORTS, 0);
        DUE.is("33: of none", d.put(1, SHORTS, 0, 9), Due.INDEX);
    }

    private static void theLowestBits() {
        int[] told = {127, 128, 255, 256, -1, -128, -129, 32767, 32768, 65535, 65536, -32769, Due.MOST, Due.LEAST};
        DodgemDebate d = new DodgemDebate();
        for (int form = 0; form < 3; form++) {
            d.sheet(form, form, 1);
            for (int v : told) {
                DUE.is("33: " + v, d.put(form, form, 0, v), 1);
                DUE.is("34: " + v + " in form " + form, d.get(form, form, 0), form == 0 ? (byte) v : form == 1 ? (short) v : v);
            }
        }
        DUE.is("37: the least int is no finding", d.count(8), 0);
    }

    private static void orderOfPutAndGet() {
        DodgemDebate d = new DodgemDebate();
        d.sheet(0, BYTES, 2);
        DUE.is("33: NULL is ahead of INDEX", d.put(1, BYTES, -1, 0), Due.NULL);
        for (int form = 0; form < 3; form++) {
            d.sheet(0, form, 2);
            for (int other = 0; other < 3; other++) {
                DUE.is("33: a form " + form + " as of " + other, d.put(0, other, 0, 5), form == other ? 1 : Due.CAST);
                DUE.is("33: CAST is ahead of INDEX", d.put(0, other, 2, 5), form == other ? Due.INDEX : Due.CAST);
                DUE.is("37: its number", d.count(8), form == other ? 2 : 3);
                DUE.is("34: a form " + form + " as of " + other, d.get(0, other, 0), form == other ? 5 : Due.LEAST);
            }
        }
    }

    private static void getTellsByCountAlone() {
        DodgemDebate d = new DodgemDebate();
        d.sheet(0, BYTES, 1);
        DUE.is("34: BAD", d.get(4, BYTES, 0), Due.LEAST);
        DUE.is("37: BAD is no finding", d.count(8), 0);
        DUE.is("34: CAST", d.get(0, INTS, 0), Due.LEAST);
        DUE.is("37: CAST", d.count(8), 3);
        DUE.is("34: CAST is ahead of INDEX", d.get(0, INTS, 1), Due.LEAST);
        DUE.is("37: CAST", d.count(8), 3);
        DUE.is("34: INDEX", d.get(0, BYTES, 1), Due.LEAST);
        DUE.is("37: INDEX", d.count(8), 2);
        DUE.is("34: NULL is ahead of INDEX", d.get(1, BYTES, -1), Due.LEAST);
        DUE.is("37: NULL", d.count(8), 1);
        DUE.is("34: an item", d.get(0, BYTES, 0), 0);
        DUE.is("37: the latest stays", d.count(8), 1);
    }

    // ---- copy

    private static void copying() {
        orderOfCopy();
        spansThatThereAre();
        fromOneToAnother();
        ontoItself();
    }

    private static void orderOfCopy() {
        DodgemDebate d = new DodgemDebate();
        d.sheet(0, BYTES, 2);
        d.sheet(1, SHORTS, 2);
        DUE.is("35: BAD is ahead of NULL", d.copy(3, 0, 4, 0, 1), Due.BAD);
        DUE.is("35: BAD is ahead of NULL", d.copy(4, 0, 3, 0, 1), Due.BAD);
        DUE.is("37: no finding", d.count(8), 0);
        DUE.is("35: NULL, of s", d.copy(3, -1, 0, 0, 1), Due.NULL);
        DUE.is("35: NULL, of t", d.copy(0, -1, 3, 0, 1), Due.NULL);
        DUE.is("37: NULL", d.count(8), 1);
        DUE.is("35: STORE is ahead of INDEX", d.copy(0, -1, 1, 9, -1), Due.STORE);
        DUE.is("35: STORE, of no items", d.copy(1, 0, 0, 0, 0), Due.STORE);
        DUE.is("37: STORE", d.count(8), 4);
        DUE.is("35: INDEX", d.copy(0, 0, 0, 0, 3), Due.INDEX);
        DUE.is("37: INDEX", d.count(8), 2);
        d.sheet(2, INTS, 2);
        DUE.is("35: STORE, of ints", d.copy(2, 0, 1, 0, 1), Due.STORE);
        DUE.is("35: STORE, of bytes", d.copy(2, 0, 0, 0, 1), Due.STORE);
    }

    private static void spansThatThereAre() {
        int[] numbers = {-1, 0, 1, 2, 3, 4, 5, 6, Due.MOST, Due.MOST - 1, Due.LEAST};
        DodgemDebate d = new DodgemDebate();
        int calls = 0;
        for (int i : numbers) {
            for (int j : numbers) {
                for (int n : numbers) {
                    if (calls++ % 400 == 0) {
                        d = new DodgemDebate();
                        d.sheet(0, INTS, 5);
                        d.sheet(1, INTS, 3);
                    }
                    boolean fine = i >= 0 && j >= 0 && n >= 0 && (long) i + n <= 5 && (long) j + n <= 3;
                    DUE.is("35: copy(0, " + i + ", 1, " + j + ", " + n + ")", d.copy(0, i, 1, j, n), fine ? 1 : Due.INDEX);
                }
            }
        }
    }

    private static void fromOneToAnother() {
        DodgemDebate d = new DodgemDebate();
        Due.fillSheet(d, 0, SHORTS, 1, 2, 3, 4, 5);
        Due.fillSheet(d, 1, SHORTS, 6, 7, 8);
        DUE.is("35: none", d.copy(0, 5, 1, 3, 0), 1);
        isRow("35: none", d, 1, SHORTS, 6, 7, 8);
        DUE.is("35: not so many", d.copy(0, 3, 1, 0, 3), Due.INDEX);
        isRow("35: INDEX changes nothing", d, 1, SHORTS, 6, 7, 8);
        DUE.is("35: no room for so many", d.copy(0, 0, 1, 1, 3), Due.INDEX);
        isRow("35: INDEX changes nothing", d, 1, SHORTS, 6, 7, 8);
        DUE.is("35: the last two", d.copy(0, 3, 1, 1, 2), 1);
        isRow("35: the last two", d, 1, SHORTS, 6, 4, 5);
        isRow("35: s is as it was", d, 0, SHORTS, 1, 2, 3, 4, 5);
        DUE.is("35: all", d.copy(1, 0, 0, 0, 3), 1);
        isRow("35: all", d, 0, SHORTS, 6, 4, 5, 4, 5);
        d.put(1, SHORTS, 0, 9);
        DUE.is("35: rows stay two", d.get(0, SHORTS, 0), 6);
        d.sheet(2, SHORTS, 0);
        d.sheet(3, SHORTS, 0);
        DUE.is("35: of none to none", d.copy(2, 0, 3, 0, 0), 1);
        DUE.is("35: one of none", d.copy(2, 0, 3, 0, 1), Due.INDEX);
    }

    private static void ontoItself() {
        DodgemDebate up = new DodgemDebate();
        Due.fillSheet(up, 2, BYTES, 1, 2, 3, 4, 5);
        DUE.is("35: to the right", up.copy(2, 0, 2, 2, 3), 1);
        isRow("35: as they were", up, 2, BYTES, 1, 2, 1, 2, 3);
        DodgemDebate down = new DodgemDebate();
        Due.fillSheet(down, 2, BYTES, 1, 2, 3, 4, 5);
        DUE.is("35: to the left", down.copy(2, 2, 2, 0, 3), 1);
        isRow("35: as they were", down, 2, BYTES, 3, 4, 5, 4, 5);
        DUE.is("35: all of it", down.copy(2, 0, 2, 0, 5), 1);
        isRow("35: as they were", down, 2, BYTES, 3, 4, 5, 4, 5);
    }

    // ---- read

    private static void reading() {
        threeItemsForEach();
        asLongAsEachMayBe();
        asLongAsThereIsRoom();
        ofEachForm();
        readAsTold();
    }

    private static void threeItemsForEach() {
        for (int n = 0; n <= 24; n++) {
            DodgemDebate d = new DodgemDebate();
            d.sheet(0, BYTES, n);
            DUE.is("10: of " + n + " items", d.read(0), n / 3);
            DUE.is("37: events", d.count(4), n / 3);
        }
    }

    private static void asLongAsEachMayBe() {
        int[][] bad = {{-1, 0, 0}, {2, 0, 0}, {0, -1, 0}, {0, 24, 0}, {1, 0, -1}, {1, 0, 8}, {0, 0, 8},
            {Due.LEAST, 0, 0}, {1, Due.MOST, 0}, {1, 0, Due.LEAST}};
        for (int[] b : bad) {
            DodgemDebate first = new DodgemDebate();
            Due.fillSheet(first, 0, INTS, b[0], b[1], b[2], 0, 0, 0);
            DUE.is("10: the first may not be", first.read(0), 0);
            DUE.is("37: none came", first.count(4), 0);
            DodgemDebate third = new DodgemDebate();
            Due.fillSheet(third, 0, INTS, 0, 0, 0, 1, 23, 7, b[0], b[1], b[2], 0, 0, 0);
            DUE.is("10: the third may not be", third.read(0), 2);
            DUE.is("37: two came", third.count(4), 2);
            DUE.is("37: that is no finding", third.count(8), 0);
        }
    }

    private static void asLongAsThereIsRoom() {
        for (int told = 0; told <= 8; told++) {
            DodgemDebate d = new DodgemDebate();
            for (int i = 0; i < told; i++) {
                d.event(0, 0, 0);
            }
            Due.fillSheet(d, 0, INTS, 0, 1, 0, 0, 2, 0, 0, 3, 0);
            int come = Math.min(3, 8 - told);
            DUE.is("10: behind " + told, d.read(0), come);
            DUE.is("37: events", d.count(4), told + come);
            DUE.is("13: those told stay", d.house(0, 2), told > 0 ? 1 : 0);
            for (int m = 1; m <= 3; m++) {
                DUE.is("13: the bell in " + m, d.house(m, 2), m <= come ? 1 : 0);
            }
        }
        DodgemDebate most = new DodgemDebate();
        most.sheet(0, BYTES, 60);
        DUE.is("10: twenty, but eight have room", most.read(0), 8);
        DUE.is("10: none has room", most.read(0), 0);
        DUE.is("37: eight", most.count(4), 8);
    }

    private static void ofEachForm() {
        for (int form = 0; form < 3; form++) {
            DodgemDebate d = Due.debate("b00e5;b05e5", "");
            Due.fillSheet(d, 3, form, 1, 2, 1, 0, 5, 7);
            DUE.is("10: of form " + form, d.read(3), 2);
            DUE.is("11: cut", d.at(2, 1, 5), 0);
            DUE.is("11: not sooner", d.at(1, 1, 5), 1);
            DUE.is("13: rung", d.house(5, 2), 1);
        }
    }

    private static void readAsTold() {
        DodgemDebate read = Due.debate("b00e5;b30w3", "c0l");
        Due.fillSheet(read, 0, BYTES, 0, 1, 0, 1, 6, 1);
        read.read(0);
        DodgemDebate told = Due.debate("b00e5;b30w3", "c0l");
        told.event(0, 1, 0);
        told.event(1, 6, 1);
        DUE.is("38: as if told", read.digest(), told.digest());
        DUE.is("9: undone as if told", read.back(), 1);
        isRow("10: the sheet stays", read, 0, BYTES, 0, 1, 0, 1, 6, 1);
        read.lose(0);
        DUE.is("37: events do not go with it", read.count(4), 1);
    }

    // ---- write

    private static void writing() {
        numbersOfWrite();
        asManyAsThereAreItems();
        anyForm();
    }

    private static void numbersOfWrite() {
        DodgemDebate d = Due.debate("b00e1;b10w9", "");
        for (int car : new int[] {-1, 2, 7, 8, Due.LEAST, Due.MOST}) {
            DUE.is("36: BAD is ahead of NULL, of car " + car, d.write(car, 0), Due.BAD);
        }
        DUE.is("37: no finding", d.count(8), 0);
        DUE.is("36: NULL", d.write(0, 0), Due.NULL);
        DUE.is("37: NULL", d.count(8), 1);
        d.sheet(0, INTS, 3);
        DUE.is("36: no such car", d.write(2, 0), Due.BAD);
        DodgemDebate none = new DodgemDebate();
        none.sheet(0, INTS, 3);
        DUE.is("36: without cars", none.write(0, 0), Due.BAD);
    }

    private static void asManyAsThereAreItems() {
        for (int n : new int[] {0, 1, 23, 24, 25, 60}) {
            DodgemDebate d = Due.still(Due.debate("b00e1;b30w9", ""), 1);
            d.sheet(0, INTS, n);
            for (int i = 0; i < n; i++) {
                d.put(0, INTS, i, 1000 + i);
            }
            DUE.is("36: to " + n + " items", d.write(0, 0), Math.min(24, n));
            for (int i = 0; i < n; i++) {
                DUE.is("36: item " + i + " of " + n, d.get(0, INTS, i), i < 24 ? 3 * Math.max(0, i - 1) : 1000 + i);
            }
            DUE.is("37: no finding", d.count(8), 0);
            DUE.is("32: as many items as there were", d.lose(0), n);
        }
    }

    private static void anyForm() {
        for (int form = 0; form < 3; form++) {
            DodgemDebate d = Due.still(Due.debate("b00e1;b10w9", ""), 1);
            d.sheet(form, form, 24);
            DUE.is("36: of car 0", d.write(0, form), 24);
            DUE.is("34: the first", d.get(form, form, 0), 3);
            DUE.is("34: the most that there can be", d.get(form, form, 23), 72);
            DUE.is("36: of car 1", d.write(1, form), 24);
            DUE.is("34: it has none", d.get(form, form, 23), 0);
        }
    }

    // ---- count

    private static void counting() {
        DodgemDebate fresh = new DodgemDebate();
        for (int what = 0; what <= 8; what++) {
            DUE.is("37: of a new object, " + what, fresh.count(what), 0);
        }
        for (int what : new int[] {-1, 9, Due.LEAST, Due.MOST}) {
            DUE.is("37: count(" + what + ")", fresh.count(what), Due.BAD);
        }
        DodgemDebate d = Due.still(Due.debate("b00e1;b10w9", "a5l;b6r;c7l"), 1, 7);
        d.seen(0, 0, 0, 0);
        d.seen(0, 0, 0, 0);
        d.seen(0, 0, 0, 0);
        d.sheet(0, 0, -1);
        int[] want = {2, 3, 11, 11, 2, 24, 72, 3, 5};
        for (int what = 0; what <= 8; what++) {
            DUE.is("37: count(" + what + ")", d.count(what), want[what]);
        }
        DodgemDebate last = Due.still(Due.debate("b00e5;b01s5", "x0r"), 1);
        DUE.is("37: a strike in the last moment", last.count(5), 1);
        DUE.is("37: points behind the last moment", last.count(6), 3);
    }

    // ---- digest

    private static void digesting() {
        isByParts("new", new DodgemDebate(), new DodgemDebate());
        isByParts("of one car", Due.debate("b00e5", ""), Due.debate("b00e5", ""));
        isByParts("with faults", Due.debate("b00e5;", "a"), Due.debate("b00e5;", "a"));
        DodgemDebate none = Due.still(Due.debate("", "a0l"), 0, 1);
        none.seen(3, 0, 1, 1);
        isByParts("without cars", none, new DodgemDebate());
        isByParts("full", full(), full());
        DodgemDebate d = full();
        long before = d.digest();
        d.lose(3);
        DUE.is("38: findings are not in it", d.digest(), before);
        d.sheet(0, 2, 5);
        DUE.is("38: nor are sheets", d.digest(), before);
    }

    private static DodgemDebate full() {
        DodgemDebate d = Due.debate("b00e5;m30w3;h53n9;b33e1;m22s4;h41w6;b15n2;b20n8",
                "c0l;e1r;b2l;f3r;g4l;h5r;i6l;j7r;k0r;l3l;w6r;x7r");
        for (int i = 0; i < 8; i++) {
            d.event(i % 2, 3 * i, (i * 5 + 1) % 8);
            d.seen(i, i, d.at(i, i, 0), d.at(i, i, 1));
        }
        return d;
    }

    // Its cars are asked of another one that was told the same: of one alone it would be more than 512 calls.
    private static void isByParts(String what, DodgemDebate d, DodgemDebate ofCars) {
        long h = 17;
        for (int i = 0; i < 8; i++) {
            h = 31 * h + d.count(i);
        }
        h = 31 * h + d.fault(0);
        h = 31 * h + d.fault(1);
        for (int i = 0; i < 36; i++) {
            h = 31 * h + d.steer(i / 3, i % 3);
        }
        for (int car = 0; car < d.count(0); car++) {
            h = addCar(h, ofCars, car);
        }
        for (int i = 0; i < 72; i++) {
            h = 31 * h + d.house(i / 3, i % 3);
        }
        int[] rest = {d.first(0), d.first(1), d.best(), d.meek(), d.jam(0), d.jam(1), d.carried(), d.ring(0), d.ring(1),
            d.spare(-1), d.spare(0), d.never(), d.ages(7, 6, 0), d.ages(7, 6, 1)};
        for (int part : rest) {
            h = 31 * h + part;
        }
        DUE.is("38: " + what, d.digest(), h);
    }

    private static long addCar(long h, DodgemDebate d, int car) {
        for (int what = 0; what < 5; what++) {
            h = 31 * h + d.car(car, what);
        }
        for (int i = 0; i < 24; i++) {
            h = 31 * h + d.at(new int[] {0, 7, 15, 23}[i / 6], car, i % 6);
        }
        long[] plans = {d.stand(car, 0), d.stand(car, 1), d.stand(car, 2), d.better(car, 9, 0), d.better(car, 9, 1),
            d.was(car, 0), d.was(car, 1), d.ask(car), d.chance(5, car, 0), d.chance(5, car, 1)};
        for (long part : plans) {
            h = 31 * h + part;
        }
        return h;
    }
}
