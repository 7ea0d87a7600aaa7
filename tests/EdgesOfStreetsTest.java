/** Promises 1 to 5: each sentence of the document that names an edge. */
public final class EdgesOfStreetsTest {
    private static final int UNKNOWN = Due.UNKNOWN, OUTSIDE = Due.OUTSIDE, NONE = Due.NONE;

    private static void text(String text, int want) {
        WalkingBus x = Due.town("n3;011;121;s2");
        Due.is("'" + text + "'", Due.read(x, text), want);
        Due.is("'" + text + "' comes to no fault of the machine", x.fault(), 0);
        Due.is("'" + text + "': corners", x.many(0), want < 0 ? 3 : text.charAt(1) - '0');
        Due.is("'" + text + "': roads", x.many(1), want < 0 ? 2 : want);
    }

    private static void good(String text) {
        text(text, text.split(";").length - 2);
    }

    private static void faultAt(int place, String text) {
        text(text, -100 - place);
    }

    private static void newObject() {
        Due.sentence(1, "No STREETS (no CORNERS), CHILDREN, HELPERS, SHEETS.");
        WalkingBus x = new WalkingBus();
        for (int what = 0; what < 7; what++) {
            Due.is("how many " + what, x.many(what), 0);
        }
        Due.is("corner 0", x.way(0, 0, 0), UNKNOWN);
        Due.is("corner 0", x.along(0, 0, 0), UNKNOWN);
        Due.is("corner 0", x.child(0, 0, 5, 0), UNKNOWN);
        Due.is("corner 0", x.start(1, 0, 9, 0), UNKNOWN);
        Due.is("road 0", x.ofRoad(0, 0), UNKNOWN);
        Due.is("child 0", x.ofChild(0, 0), UNKNOWN);
        Due.is("a set of child 0", x.grown(1), OUTSIDE);
        Due.is("helper 0", x.days(0, 0), UNKNOWN);
        for (int k = 0; k < 4; k++) {
            Due.is("sheet " + k, x.put(k, 0, 0), -11);
            Due.is("sheet " + k, x.lose(k), 0);
        }
        Due.sentence(1, "An object is used for at most 512 calls (the last of them is still answered)");
        WalkingBus y = new WalkingBus();
        for (int call = 1; call < 511; call++) {
            y.holds(1 + call % 9);
        }
        Due.is("call 511", y.holds(5), 1 + 510 % 9);
        Due.is("call 512", y.holds(1), 5);
        for (int call = 513; call < 600; call++) {
            y.holds(call % 11);
        }
    }

    // ---- promise 2, the text

    private static void cornersOfText() {
        Due.sentence(2, "n and a digit 2 .. 7 (so many CORNERS, from 0 on)");
        good("n2;011;s0");
        good("n7;011;s0");
        for (char c : new char[] {'0', '1', '8', '9', '/', ':', 'n', ';'}) {
            faultAt(1, "n" + c + ";011;s0");
        }
        WalkingBus x = Due.town("n7;061;s6");
        Due.is("the last corner", x.way(6, 6, 0), 0);
        Due.is("one more", x.way(7, 7, 0), UNKNOWN);
    }

    private static void roadsOfText() {
        Due.sentence(2, "then 1 to 12 ROADS");
        faultAt(3, "n2;s1");
        faultAt(2, "n2s1");
        good("n2;011;s1");
        good("n2" + ";011".repeat(12) + ";s1");
        Due.sentence(2, "(a CORNER's digit of a thirteenth ROAD)");
        faultAt(51, "n2" + ";011".repeat(13) + ";s1");
        faultAt(51, "n2" + ";011".repeat(12) + ";0");
        faultAt(51, "n2" + ";011".repeat(12) + ";9");
        Due.sentence(2, "numbered from 0 on, each behind a ;");
        WalkingBus x = new WalkingBus();
        Due.is("twelve", Due.read(x, "n2;011;012;013;014;015;016;017;018;019;0110;0111;0112;s1"), 12);
        for (int k = 0; k < 12; k++) {
            Due.is("road " + k, x.ofRoad(k, 2), k + 1);
        }
        faultAt(6, "n2;011:011;s1");
        faultAt(6, "n2;011,011;s1");
        Due.sentence(2, "two CORNERS' digits");
        for (int corners = 2; corners <= 7; corners++) {
            good("n" + corners + ";0" + (corners - 1) + "1;s0");
            good("n" + corners + ";" + (corners - 1) + "01;s0");
            faultAt(3, "n" + corners + ";" + corners + "01;s0");
            faultAt(4, "n" + corners + ";0" + corners + "1;s0");
        }
        faultAt(3, "n7;/01;s0");
        faultAt(4, "n7;0:1;s0");
        Due.sentence(2, "not the same");
        faultAt(4, "n2;001;s0");
        faultAt(4, "n7;661;s0");
        faultAt(8, "n7;561;661;s0");
    }

    private static void numberOfText() {
        Due.sentence(2, "and a number 1 .. 30, of one or two digits (its LENGTH)");
        for (int length = 1; length <= 30; length++) {
            WalkingBus x = Due.town("n2;01" + length + ";s0");
            Due.is("LENGTH", x.ofRoad(0, 2), length);
        }
        good("n2;0130c11;s0");
        good("n2;011c11;s0");
        faultAt(5, "n2;01;s0");
        faultAt(5, "n2;01c11;s0");
        faultAt(7, "n2;01111;s0");
        faultAt(7, "n2;01300;s0");
        Due.sentence(2, "of a number that is not as told its first digit");
        for (String number : new String[] {"0", "00", "31", "32", "39", "40", "99"}) {
            faultAt(5, "n2;01" + number + ";s0");
            faultAt(5, "n2;01" + number + "c11;s0");
            faultAt(5, "n2;01" + number);
            faultAt(9, "n2;015;01" + number + ";s0");
        }
    }

    private static void crossingOfText() {
        Due.sentence(2, "then perhaps c, a digit 1 .. 9 (ODDS)");
        good("n2;015c11;s0");
        good("n2;015c91;s0");
        good("n2;015;s0");
        faultAt(7, "n2;015c01;s0");
        faultAt(7, "n2;015c:1;s0");
        faultAt(7, "n2;015c/1;s0");
        faultAt(7, "n2;015c;s0");
        faultAt(6, "n2;015C11;s0");
        Due.sentence(2, "and a digit 1 .. 9 (SHUT): a CROSSING");
        good("n2;015c19;s0");
        faultAt(8, "n2;015c10;s0");
        faultAt(8, "n2;015c1:;s0");
        faultAt(8, "n2;015c1/;s0");
        faultAt(8, "n2;015c1;s0");
        faultAt(9, "n2;015c111;s0");
        WalkingBus x = Due.town("n2;015c19;015c91;015;s0");
        Due.is("odds", x.ofRoad(0, 3), 1);
        Due.is("shut", x.ofRoad(0, 4), 9);
        Due.is("odds", x.ofRoad(1, 3), 9);
        Due.is("shut", x.ofRoad(1, 4), 1);
        Due.is("crossings", x.many(2), 2);
    }

    private static void schoolOfText() {
        Due.sentence(2, "then ; s and a CORNER's digit (the SCHOOL)");
        for (int corners = 2; corners <= 7; corners++) {
            good("n" + corners + ";011;s0");
            good("n" + corners + ";011;s" + (corners - 1));
            faultAt(8, "n" + corners + ";011;s" + corners);
        }
        faultAt(8, "n7;011;s/");
        faultAt(8, "n7;011;s:");
        faultAt(8, "n7;011;ss");
        faultAt(9, "n7;011;s00");
        faultAt(9, "n7;011;s0;");
        faultAt(9, "n7;011;s0;s0");
        faultAt(6, "n7;011s0");
        WalkingBus x = Due.town("n3;012;123;s2");
        x.child(0, 0, 9, 0);
        Due.is("to corner 2", x.start(1, 0, 50, 0), 45);
        Due.read(x, "n3;012;123;s1");
        x.child(0, 0, 9, 0);
        Due.is("to corner 1", x.start(1, 0, 50, 0), 48);
    }

    private static void firstFault() {
        Due.sentence(2, "FIRST FAULT: the place (from 0 on) of the first code with which no TEXT goes on");
        String text = "n5;0130c52;123c99;s4";
        good(text);
        for (int place = 0; place < text.length(); place++) {
            faultAt(place, text.substring(0, place) + "x" + text.substring(place + 1));
        }
        faultAt(0, "x");
        faultAt(0, "m2;011;s9");
        faultAt(3, "n2;x1x;sx");
        Due.sentence(2, "how many codes there are, if it just ends too soon");
        for (int many = 0; many < text.length(); many++) {
            faultAt(many, text.substring(0, many));
        }
        String full = "n2;0130;0130;0130" + ";0130c99".repeat(9) + ";s1";
        String hundred = ("n7;0130c11" + ";0130c99".repeat(11) + ";s1").substring(0, 100);
        good(full);
        Due.is("a hundred codes", hundred.length(), 100);
        faultAt(100, hundred);
        Due.sentence(2, "Codes: n 110, c 99, s 115, ; 59, digits 48 .. 57");
        int[] codes = {110, 50, 59, 48, 49, 53, 99, 49, 57, 59, 115, 48};
        WalkingBus x = new WalkingBus();
        Due.row(x, 0, 2, codes);
        Due.is("these", x.streets(0, 2, 0, 12), 1);
        for (int place : new int[] {0, 2, 6, 9, 10}) {
            for (int change : new int[] {-1, 1, 32, -32, 256, -256, 65536, Due.LEAST}) {
                x.put(0, place, codes[place] + change);
                Due.is("code " + (codes[place] + change), x.streets(0, 2, 0, 12), -100 - place);
                x.put(0, place, codes[place]);
            }
        }
    }

    private static void takenText() {
        Due.sentence(2, "A TEXT that is taken makes all anew: no CHILDREN (HELPERS stay)");
        WalkingBus x = Due.full();
        Due.is("a text", Due.read(x, "n2;017;s1"), 1);
        int[] many = {2, 1, 0, 0, 5, 0, 0};
        for (int what = 0; what < 7; what++) {
            Due.is("how many " + what, x.many(what), many[what]);
        }
        Due.is("child 0", x.ofChild(0, 0), UNKNOWN);
        Due.is("helper 0", x.days(0, 0), 21);
        Due.is("road 1", x.ofRoad(1, 0), UNKNOWN);
        Due.is("corner 2", x.way(2, 2, 0), UNKNOWN);
        for (int k = 0; k < 10; k++) {
            Due.is("a child", x.child(0, 0, 9, 0), k);
            Due.is("its friends", x.ofChild(k, 6), 0);
            Due.is("with whom it quarrels", x.ofChild(k, 7), 0);
        }
        Due.is("an eleventh", x.child(0, 0, 9, 0), Due.FULL);
        WalkingBus z = new WalkingBus();
        String twelve = "n7;561c11" + ";0112c34".repeat(11) + ";s6";
        for (String one : new String[] {twelve, "n3;122;s1", "n2;01", "n2;019;015;s1", "n4;231;3", "n2;017;s0", "n7" + ";011".repeat(13)}) {
            int roads = z.many(1);
            int answer = Due.read(z, one);
            Due.is("one text behind another: roads", z.many(1), answer > 0 ? one.split(";").length - 2 : roads);
            Due.is("crossings", z.many(2), one.equals(twelve) ? 12 : 0);
        }
        Due.is("the last one that was taken", z.ofRoad(0, 2), 7);
        Due.is("has no more roads", z.ofRoad(1, 2), UNKNOWN);
        Due.sentence(2, "(a TEXT that is not taken changes nothing)");
        for (String text : new String[] {"", "x", "n4", "n4;239c99;s", "n4;239c99;s3;", "n2" + ";011".repeat(12) + ";0"}) {
            WalkingBus y = Due.something();
            Due.write(y, 3, 0, text);
            WalkingBus twin = Due.something();
            Due.write(twin, 3, 0, text);
            Due.is("'" + text + "'", y.streets(3, 0, 0, text.length()) <= -100 ? 1 : 0, 1);
            Due.is("'" + text + "': all is as it was", Due.state(y).equals(Due.state(twin)) ? 1 : 0, 1);
        }
    }

    // ---- promise 2, the call

    private static void rowOfText() {
        Due.sentence(2, "a TEXT of n cells of a SHEET from i on, taken as a row of a SORT: how many ROADS");
        for (int sort = 0; sort < 3; sort++) {
            WalkingBus x = new WalkingBus();
            Due.write(x, 3, sort, "s2n2;011;012;s1s2");
            Due.is("from the middle", x.streets(3, sort, 2, 13), 2);
            Due.is("one cell less", x.streets(3, sort, 2, 12), -112);
            Due.is("one cell more", x.streets(3, sort, 2, 14), -113);
            Due.is("to the end", x.streets(3, sort, 2, 15), -113);
        }
        Due.sentence(2, "-100 less the FIRST FAULT");
        WalkingBus y = new WalkingBus();
        Due.write(y, 0, 0, "xn");
        Due.is("the first code", y.streets(0, 0, 0, 2), -100);
        Due.is("no code", y.streets(0, 0, 0, 0), -100);
        Due.is("no code, from the end on", y.streets(0, 0, 2, 0), -100);
        Due.is("the second", y.streets(0, 0, 1, 1), -101);
    }

    private static void refusedTexts() {
        Due.sentence(2, "streets: UNKNOWN");
        for (int sheet : Due.beyond(0, 3)) {
            Due.refusedAndCleared("sheet " + sheet, x -> x.streets(sheet, 0, 0, 0), UNKNOWN);
        }
        Due.sentence(2, "streets: OUTSIDE: sort");
        for (int sort : Due.beyond(0, 2)) {
            Due.refusedAndCleared("sort " + sort, x -> x.streets(0, sort, 0, 0), OUTSIDE);
        }
        Due.sentence(2, "streets: REFUSALS in the order in which the line tells them");
        Due.refusedAndCleared("sheet, sort", x -> x.streets(4, 3, -1, -1), UNKNOWN);
        Due.refusedAndCleared("sort, nothing", x -> x.streets(3, 3, -1, -1), OUTSIDE);
        Due.refusedAndCleared("sort, length", x -> x.streets(0, 3, -1, -1), OUTSIDE);
        Due.sentence(2, "streets: FAULTS CAST (nothing is no CAST)");
        Due.faulty("bytes as shorts", x -> x.streets(0, 1, 0, 1), Due.CAST);
        Due.faulty("bytes as ints", x -> x.streets(0, 2, 0, 1), Due.CAST);
        Due.faulty("shorts as bytes", x -> x.streets(1, 0, 0, 1), Due.CAST);
        Due.faulty("shorts as ints", x -> x.streets(1, 2, 0, 1), Due.CAST);
        Due.faulty("ints as bytes", x -> x.streets(2, 0, 0, 0), Due.CAST);
        Due.faulty("ints as shorts", x -> x.streets(2, 1, 0, 0), Due.CAST);
        Due.faulty("ahead of a length below 0", x -> x.streets(0, 1, 0, -1), Due.CAST);
        Due.faulty("ahead of cells that are not there", x -> x.streets(0, 1, 9, 9), Due.CAST);
        Due.sentence(2, "streets: FAULTS NULL");
        for (int sort = 0; sort < 3; sort++) {
            int taken = sort;
            Due.faulty("nothing, as sort " + sort, x -> x.streets(3, taken, 0, 0), Due.NULL);
            Due.faulty("ahead of a length below 0", x -> x.streets(3, taken, 0, -1), Due.NULL);
            Due.faulty("ahead of cells that are not there", x -> x.streets(3, taken, 5, 5), Due.NULL);
        }
        Due.sentence(2, "streets: FAULTS SIZE: n is below 0");
        Due.faulty("-1", x -> x.streets(0, 0, 0, -1), Due.SIZE);
        Due.faulty("the least", x -> x.streets(0, 0, 0, Due.LEAST), Due.SIZE);
        Due.faulty("ahead of cells that are not there", x -> x.streets(0, 0, -1, -1), Due.SIZE);
        Due.faulty("of an empty row", x -> x.streets(2, 2, 0, -1), Due.SIZE);
    }

    private static void cellsThatAreNotThere() {
        Due.sentence(2, "streets: FAULTS INDEX: not all cells are there");
        Due.faulty("one too many", x -> x.streets(0, 0, 0, 5), Due.INDEX);
        Due.faulty("one too many from 1 on", x -> x.streets(0, 0, 1, 4), Due.INDEX);
        Due.faulty("one too many from the end on", x -> x.streets(0, 0, 4, 1), Due.INDEX);
        Due.faulty("from -1 on", x -> x.streets(0, 0, -1, 1), Due.INDEX);
        Due.faulty("one of an empty row", x -> x.streets(2, 2, 0, 1), Due.INDEX);
        Due.faulty("the most", x -> x.streets(0, 0, 0, Due.MOST), Due.INDEX);
        Due.faulty("both the most", x -> x.streets(0, 0, Due.MOST, Due.MOST), Due.INDEX);
        Due.faulty("from the most on", x -> x.streets(0, 0, Due.MOST, 1), Due.INDEX);
        Due.faulty("from the least on", x -> x.streets(0, 0, Due.LEAST, 4), Due.INDEX);
        WalkingBus x = Due.something();
        Due.is("all of them", x.streets(0, 0, 0, 4), -100);
        Due.is("no fault", x.fault(), 0);
        Due.sentence(2, "INDEX (of cells from i on also where i is not 0 .. how many there are, if none of them is taken, too)");
        Due.faulty("none, from -1 on", y -> y.streets(0, 0, -1, 0), Due.INDEX);
        Due.faulty("none, from 5 on", y -> y.streets(0, 0, 5, 0), Due.INDEX);
        Due.faulty("none, from the most on", y -> y.streets(0, 0, Due.MOST, 0), Due.INDEX);
        Due.faulty("none, from the least on", y -> y.streets(0, 0, Due.LEAST, 0), Due.INDEX);
        Due.faulty("none of an empty row, from 1 on", y -> y.streets(2, 2, 1, 0), Due.INDEX);
        Due.is("none, from the end on", x.streets(0, 0, 4, 0), -100);
        Due.is("none of an empty row", x.streets(2, 2, 0, 0), -100);
        Due.is("no fault", x.fault(), 0);
    }

    // ---- promise 3

    private static void roads() {
        Due.sentence(3, "0, 1 its CORNERS as told, 2 LENGTH, 3 ODDS, 4 SHUT (0: it is no CROSSING)");
        WalkingBus x = Due.town("n7;6030;061c91;653c19;s0");
        int[][] parts = {{6, 0, 30, 0, 0}, {0, 6, 1, 9, 1}, {6, 5, 3, 1, 9}};
        for (int k = 0; k < 3; k++) {
            for (int what = 0; what < 5; what++) {
                Due.is("road " + k + ", " + what, x.ofRoad(k, what), parts[k][what]);
            }
        }
        Due.sentence(3, "ofRoad: UNKNOWN");
        for (int k : Due.beyond(0, 4)) {
            Due.refused("road " + k, y -> y.ofRoad(k, 0), UNKNOWN);
        }
        Due.is("ahead of any streets", new WalkingBus().ofRoad(0, 0), UNKNOWN);
        WalkingBus twelve = Due.town("n2" + ";011".repeat(11) + ";017;s1");
        Due.is("the twelfth", twelve.ofRoad(11, 2), 7);
        Due.is("a thirteenth", twelve.ofRoad(12, 2), UNKNOWN);
        Due.sentence(3, "ofRoad: OUTSIDE");
        for (int what : Due.beyond(0, 4)) {
            Due.refused("part " + what, y -> y.ofRoad(0, what), OUTSIDE);
        }
        Due.sentence(3, "ofRoad: UNKNOWN is told ahead of OUTSIDE");
        Due.refused("both", y -> y.ofRoad(5, 5), UNKNOWN);
    }

    // ---- promises 4 and 5

    private static void along(WalkingBus x, int a, int b, int... roads) {
        Due.is("roads from " + a + " to " + b, x.way(a, b, 2), roads.length);
        for (int k = 0; k < roads.length; k++) {
            Due.is("road " + k + " from " + a + " to " + b, x.along(a, b, k), roads[k]);
        }
        Due.is("no more from " + a + " to " + b, x.along(a, b, roads.length), NONE);
    }

    private static void ways() {
        Due.sentence(4, "ROADS are gone either way");
        along(Due.town("n3;101;212;s0"), 0, 2, 0, 1);
        along(Due.town("n3;101;212;s0"), 2, 0, 1, 0);
        along(Due.town("n3;011;212;s0"), 0, 2, 0, 1);
        Due.sentence(4, "the ROADS of the least LENGTHS together");
        // By one less, by the same, by one more than the road from 0 to 2 itself.
        along(Due.town("n3;029;014;124;s0"), 0, 2, 1, 2);
        along(Due.town("n3;029;014;125;s0"), 0, 2, 0);
        along(Due.town("n3;029;015;125;s0"), 0, 2, 0);
        along(Due.town("n3;029c11;015;125;s0"), 0, 2, 0);
        along(Due.town("n2;012;011;s0"), 0, 1, 1);
        WalkingBus x = Due.town("n7;0130c11;1230c11;2330c11;3430c11;4530c11;5630c11;s0");
        Due.is("the most", x.way(0, 6, 0), 180);
        Due.is("the most crossings", x.way(6, 0, 1), 6);
        Due.is("the most roads", x.way(0, 6, 2), 6);
        along(x, 6, 0, 5, 4, 3, 2, 1, 0);
        WalkingBus six = Due.town("n7;062;011c11;121c11;231c11;341c11;451c11;561c11;s0");
        Due.is("three by corner 6, five by the others", six.way(0, 5, 0), 3);
        Due.is("four by either, with the fewer crossings by corner 6", six.way(0, 4, 1), 2);
        for (int mid = 0; mid < 7; mid++) {
            int from = (mid + 3) % 7;
            int to = (mid + 5) % 7;
            along(Due.town("n7;" + from + mid + "1;" + to + mid + "1;s0"), from, to, 0, 1);
        }
        Due.sentence(4, "of several ways the one of the fewest CROSSINGS");
        along(Due.town("n3;024c11;012;122;s0"), 0, 2, 1, 2);
        along(Due.town("n3;012c11;122;024;s0"), 0, 2, 2);
        along(Due.town("n4;012c11;132c11;022;232c11;s0"), 0, 3, 2, 3);
        along(Due.town("n2;013c11;013;s0"), 0, 1, 1);
        Due.sentence(4, "of these the first as a row of ROADS");
        along(Due.town("n4;012;022;232;132;s0"), 0, 3, 0, 3);
        along(Due.town("n4;012;022;232;132;s0"), 3, 0, 2, 1);
        along(Due.town("n3;012;122;024;s0"), 0, 2, 0, 1);
        along(Due.town("n3;024;012;122;s0"), 0, 2, 0);
        along(Due.town("n3;122;012;024;s0"), 0, 2, 1, 0);
        along(Due.town("n3;122;012;024;s0"), 2, 0, 0, 1);
        along(Due.town("n2;013c11;013c99;s0"), 0, 1, 0);
        along(Due.town("n3;011;121;121;011;s0"), 0, 2, 0, 1);
        along(Due.town("n3;011;121;121;011;s0"), 2, 0, 1, 0);
    }

    private static void noWays() {
        WalkingBus x = Due.town("n7;0130c99;1230c99;451;s0");
        Due.sentence(4, "NONE, if there is none");
        for (int what = 0; what < 3; what++) {
            Due.is("from 0 to 3", x.way(0, 3, what), NONE);
            Due.is("from 5 to 2", x.way(5, 2, what), NONE);
        }
        Due.sentence(4, "nothing, if it is the same CORNER");
        for (int what = 0; what < 3; what++) {
            Due.is("from 0 to 0", x.way(0, 0, what), 0);
            Due.is("from 6 to 6, where no road is", x.way(6, 6, what), 0);
        }
        Due.sentence(4, "way: UNKNOWN: CORNERS");
        for (int corner : Due.beyond(0, 4)) {
            Due.refused("from " + corner, y -> y.way(corner, 0, 0), UNKNOWN);
            Due.refused("to " + corner, y -> y.way(0, corner, 0), UNKNOWN);
            Due.refused("from it to itself", y -> y.way(corner, corner, 0), UNKNOWN);
        }
        Due.sentence(4, "way: OUTSIDE");
        for (int what : Due.beyond(0, 2)) {
            Due.refused("part " + what, y -> y.way(0, 1, what), OUTSIDE);
            Due.refused("part " + what + " of the same corner", y -> y.way(1, 1, what), OUTSIDE);
            Due.is("part " + what + " of no way", x.way(0, 3, what), OUTSIDE);
        }
        Due.sentence(4, "way: UNKNOWN is told ahead of OUTSIDE");
        Due.refused("from", y -> y.way(5, 0, 3), UNKNOWN);
        Due.refused("to", y -> y.way(0, 5, -1), UNKNOWN);
        Due.sentence(5, "The k-th ROAD of THE WAY (0 on); NONE");
        along(x, 0, 2, 0, 1);
        along(x, 4, 5, 2);
        along(x, 0, 0);
        Due.is("far on", x.along(0, 2, Due.MOST), NONE);
        for (int k = 0; k < 9; k++) {
            Due.is("of no way", x.along(0, 3, k), NONE);
            Due.is("of the same corner", x.along(1, 1, k), NONE);
        }
        Due.sentence(5, "along: UNKNOWN: CORNERS");
        for (int corner : Due.beyond(0, 4)) {
            Due.refused("from " + corner, y -> y.along(corner, 0, 0), UNKNOWN);
            Due.refused("to " + corner, y -> y.along(0, corner, 0), UNKNOWN);
            Due.refused("from it to itself", y -> y.along(corner, corner, 0), UNKNOWN);
        }
        Due.sentence(5, "along: OUTSIDE: k below 0");
        Due.refused("-1", y -> y.along(0, 1, -1), OUTSIDE);
        Due.refused("the least", y -> y.along(0, 1, Due.LEAST), OUTSIDE);
        Due.refused("of the same corner", y -> y.along(1, 1, -1), OUTSIDE);
        Due.is("of no way", x.along(0, 3, -1), OUTSIDE);
        Due.sentence(5, "along: UNKNOWN is told ahead of OUTSIDE");
        Due.refused("from", y -> y.along(5, 0, -1), UNKNOWN);
        Due.refused("to", y -> y.along(0, 5, -1), UNKNOWN);
    }

    public static void main(String[] args) {
        newObject();
        cornersOfText();
        roadsOfText();
        numberOfText();
        crossingOfText();
        schoolOfText();
        firstFault();
        takenText();
        rowOfText();
        refusedTexts();
        cellsThatAreNotThere();
        roads();
        ways();
        noWays();
        Due.finish();
    }
}
