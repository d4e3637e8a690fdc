import java.nio.charset.StandardCharsets;

/** The part of "## Terms" on the text, sentence by sentence, on both sides of each bound; CLAIMS likewise. */
public final class BodyCornersText {
    private static final int NONE = BodyCorners.NONE;
    private static final int UNKNOWN = BodyCorners.UNKNOWN;
    private static final int FULL = BodyCorners.FULL;

    private static final String NINE = "claim0faces0<9;";

    private static int passed = 0;
    private static int failed = 0;

    private static void due(String what, long got, long want) {
        if (got == want) {
            passed++;
        } else {
            failed++;
            System.out.println(what + " answered " + got + ", due is " + want);
        }
    }

    private static void feedAll(BodyCorners x, String text) {
        byte[] bytes = text.getBytes(StandardCharsets.ISO_8859_1);
        for (int at = 0; at < bytes.length; at += 8) {
            int n = Math.min(8, bytes.length - at);
            long packed = 0;
            for (int k = 0; k < n; k++) {
                packed = packed << 8 | bytes[at + k] & 255;
            }
            due("fed '" + text + "'", x.feed(n, packed), at + n);
        }
    }

    private static int readAll(BodyCorners x, String text) {
        feedAll(x, text);
        return x.read();
    }

    private static BodyCorners with(String... texts) {
        BodyCorners x = new BodyCorners();
        for (String text : texts) {
            due("read of '" + text + "' goes well", readAll(x, text) >= 0 ? 1 : 0, 1);
        }
        return x;
    }

    /** All of it is done, whatever it is. */
    private static BodyCorners done(String text, int clauses) {
        BodyCorners x = new BodyCorners();
        due("read of '" + text + "'", readAll(x, text), clauses);
        due("fault of '" + text + "'", x.fault(), NONE);
        due("done of '" + text + "'", x.count(0) + x.count(2), clauses);
        due("empty behind '" + text + "'", x.count(5), 0);
        return x;
    }

    private static void fault(String text, int kind, int at) {
        fault(new BodyCorners(), text, kind, at);
    }

    /** Nothing of it is done, and the text is empty then. */
    private static void fault(BodyCorners x, String text, int kind, int at) {
        int bodies = x.count(0);
        int claims = x.count(2);
        due("read of '" + text + "'", readAll(x, text), -10 - kind);
        due("fault of '" + text + "'", x.fault(), at);
        due("empty behind '" + text + "'", x.count(5), 0);
        due("no body of '" + text + "'", x.count(0), bodies);
        due("no claim of '" + text + "'", x.count(2), claims);
    }

    private static void shapes() {
        String[] words = {"cube", "cross", "corner"};
        int[][] corners = {{4, 8, 16}, {4, 6, 8}, {3, 4, 5}};
        for (int w = 0; w < 3; w++) {
            int at = words[w].length() + 1;
            for (int n = 2; n <= 4; n++) {
                BodyCorners x = done(words[w] + " " + n + ";", 1);
                due("its D", x.about(0, 0), n);
                due("its CORNERS", x.about(0, 1), corners[w][n - 2]);
                done(words[w] + " 0" + n + ";", 1);
                done(words[w] + " 00" + n + ";", 1);
                fault(words[w] + " 000" + n + ";", 2, at);
            }
            for (String n : new String[] {"0", "1", "5", "9", "10", "20", "30", "99", "100", "999", "1000", "0000"}) {
                fault(words[w] + " " + n + ";", 2, at);
            }
            for (String n : new String[] {"258", "65538", "4294967298", "4294967299", "18446744073709551619"}) {
                fault(words[w] + " " + n + ";", 2, at);
            }
        }
    }

    private static void places(BodyCorners x, int... numbers) {
        int d = x.about(0, 0);
        due("how many numbers", x.about(0, 1) * d, numbers.length);
        for (int at = 0; at < numbers.length; at++) {
            due("corner " + at / d + " axis " + at % d, x.corner(0, at / d, at % d), numbers[at]);
        }
    }

    private static void shapesPlaces() {
        places(with("cube 2;"), 0, 0, 1, 0, 0, 1, 1, 1);
        places(with("cube 3;"), 0, 0, 0, 1, 0, 0, 0, 1, 0, 1, 1, 0, 0, 0, 1, 1, 0, 1, 0, 1, 1, 1, 1, 1);
        BodyCorners four = with("cube 4;");
        for (int c = 0; c < 16; c++) {
            for (int k = 0; k < 4; k++) {
                due("bit " + k + " of " + c, four.corner(0, c, k), c >> k & 1);
            }
        }
        places(with("cross 2;"), 1, 0, -1, 0, 0, 1, 0, -1);
        places(with("cross 3;"), 1, 0, 0, -1, 0, 0, 0, 1, 0, 0, -1, 0, 0, 0, 1, 0, 0, -1);
        places(with("cross 4;"), 1, 0, 0, 0, -1, 0, 0, 0, 0, 1, 0, 0, 0, -1, 0, 0, 0, 0, 1, 0, 0, 0, -1, 0,
                0, 0, 0, 1, 0, 0, 0, -1);
        places(with("corner 2;"), 0, 0, 1, 0, 0, 1);
        places(with("corner 3;"), 0, 0, 0, 1, 0, 0, 0, 1, 0, 0, 0, 1);
        places(with("corner 4;"), 0, 0, 0, 0, 1, 0, 0, 0, 0, 1, 0, 0, 0, 0, 1, 0, 0, 0, 0, 1);
        places(with("round 2 of 3;"), 0, 0, 1, 1, 2, 4);
        places(with("round 3 of 5;"), 0, 0, 0, 1, 1, 1, 2, 4, 8, 3, 9, 27, 4, 16, 64);
        places(with("round 4 of 6;"), 0, 0, 0, 0, 1, 1, 1, 1, 2, 4, 8, 16, 3, 9, 27, 81, 4, 16, 64, 256, 5, 25, 125, 625);
        due("the last of 16", with("round 2 of 16;").corner(0, 15, 1), 225);
        due("the last of 10", with("round 3 of 10;").corner(0, 9, 2), 729);
    }

    private static void rounds() {
        int[] most = {16, 10, 6};
        for (int n = 2; n <= 4; n++) {
            for (int m = 0; m <= 20; m++) {
                if (m > n && m <= most[n - 2]) {
                    due("CORNERS of round " + n + " of " + m, done("round " + n + " of " + m + ";", 1).about(0, 1), m);
                } else {
                    fault("round " + n + " of " + m + ";", 2, 11);
                }
            }
            done("round " + n + " of 00" + (n + 1) + ";", 1);
            fault("round " + n + " of 000" + (n + 1) + ";", 2, 11);
            fault("round " + n + " of 429496730" + n + ";", 2, 11);
        }
        for (int n : new int[] {0, 1, 5, 6, 10, 100, 1000}) {
            fault("round " + n + " of 5;", 2, 6);
            fault("round " + n + " of 99;", 2, 6);
            fault("round " + n + " off 5;", 2, 6);
        }
    }

    private static void claimNumbers() {
        for (String b : new String[] {"0", "1", "99", "099", "00", "000"}) {
            done("claim " + b + " faces 0 < 9;", 1);
        }
        for (String b : new String[] {"100", "999", "0099", "0000", "1000", "4294967296", "4294967295"}) {
            fault("claim " + b + " faces 0 < 9;", 2, 6);
        }
        for (String k : new String[] {"0", "1", "2", "3", "03", "003"}) {
            done("claim all faces " + k + " < 9;", 1);
        }
        for (String k : new String[] {"4", "5", "10", "99", "0003", "4294967296"}) {
            fault("claim all faces " + k + " < 9;", 2, 16);
        }
        for (String v : new String[] {"0", "1", "10", "998", "999", "000", "099"}) {
            done("claim all faces 0 < " + v + ";", 1);
        }
        for (String v : new String[] {"1000", "0000", "0999", "9999", "4294967296", "1".repeat(120)}) {
            fault("claim all faces 0 < " + v + ";", 2, 20);
        }
        done("claim all faces 0 < 9;", 1);
        done("claim all faces 0 > 9;", 1);
        done("claim all faces 0 = 9;", 1);
        for (char sign : new char[] {';', '?', '!', '-', '+', ':', (char) 59}) {
            fault("claim all faces 0 " + sign + " 9;", 1, 18);
        }
        fault("claim all faces 0 <= 9;", 1, 19);
        fault("claim all faces 0 9;", 1, 18);
    }

    /** Blanks may stand anywhere but within words and numbers; two words side by side need one. */
    private static void blanks() {
        done("cube3;cross2;corner4;round3of10;claim0faces3<999;claim all faces0=0;", 6);
        done("claim all faces 0>9;", 1);
        fault("claimall faces 0 > 9;", 1, 0);
        fault("claim allfaces 0 > 9;", 1, 6);
        done("   cube    3   ;     ", 1);
        done("round 3of9;", 1);
        done("round3of9;", 1);
        done("round3  of9  ;", 1);
        done("claim5faces0>9;", 1);
        done(" ".repeat(152) + "cross 3;", 1);
        done("cross 3;" + " ".repeat(152), 1);
        done("cross" + " ".repeat(153) + "3;", 1);
        fault("cu be 3;", 1, 0);
        fault("c ube 3;", 1, 0);
        fault("round 2 o f 9;", 1, 8);
        fault("claim al l faces 0 < 9;", 1, 6);
        fault("round 2 of 1 6;", 2, 11);
        fault("round 2 of 3 6;", 1, 13);
        fault("claim all faces 0 < 9 9;", 1, 22);
        fault("claim 9 9 faces 0 < 9;", 1, 8);
        int[] none = {0, 9, 10, 11, 12, 13, 31, 33, 95, 127, 128, 160, 255};
        for (int sign : none) {
            String s = String.valueOf((char) sign);
            fault(s + "cube 3;", 1, 0);
            fault("cube" + s + "3;", 1, 4);
            fault("cube " + s + "3;", 1, 5);
            fault("cube 3" + s + ";", 1, 6);
            fault("cube 3;" + s, 1, 7);
            fault("claim all" + s + "faces 0 < 9;", 1, 9);
        }
    }

    /** What stands beside a .. z and beside 0 .. 9 is no letter and no figure. */
    private static void signs() {
        for (char sign : new char[] {'`', '{', '@', '[', 'A', 'Z', 'B'}) {
            fault("cube" + sign + "3;", 1, 4);
            fault(sign + "cube 3;", 1, 0);
            fault("cube 3" + sign, 1, 6);
            fault("round 2 of" + sign + "3;", 1, 10);
        }
        for (char sign : new char[] {'/', ':', '.', '-', '+', ','}) {
            fault("cube 3" + sign + ";", 1, 6);
            fault("cube " + sign + ";", 1, 5);
            fault("cube " + sign + "3;", 1, 5);
        }
        fault("cubea 3;", 1, 0);
        fault("cubez 3;", 1, 0);
        fault("acube 3;", 1, 0);
        fault("zcube 3;", 1, 0);
        fault("cubE 3;", 1, 0);
        fault("CUBE 3;", 1, 0);
        fault("cube 2;crosS 3;", 1, 7);
        for (char figure = '0'; figure <= '9'; figure++) {
            done("claim all faces 0 < " + figure + ";", 1);
            done("claim all faces 0 < 1" + figure + "1;", 1);
        }
    }

    private static void words() {
        String[] unknown = {"cub", "cubes", "cros", "crosses", "corne", "corners", "roun", "rounds", "clai", "claims",
            "of", "all", "faces", "a", "z", "cubecross", "x".repeat(145)};
        for (String word : unknown) {
            fault(word + " 3;", 1, 0);
            fault("cube 3; " + word + " 3;", 1, 8);
            fault("cube " + word + ";", 1, 5);
            fault(word, 1, 0);
        }
        oneLetter();
        for (String word : new String[] {"o", "off", "all", "faces", "cube", "claim", "oof"}) {
            fault("round 2 " + word + " 5;", 1, 8);
            fault("round 2 " + word, 1, 8);
        }
        for (String word : new String[] {"al", "alll", "of", "faces", "cube", "claim"}) {
            fault("claim " + word + " faces 0 < 9;", 1, 6);
        }
        for (String word : new String[] {"face", "facess", "all", "of", "claim", "cube"}) {
            fault("claim all " + word + " 0 < 9;", 1, 10);
            fault("claim 0 " + word + " 0 < 9;", 1, 8);
        }
        fault("cube 3of;", 1, 6);
        fault("cube 3 cube 3;", 1, 7);
        fault("cube 3cube 3;", 1, 6);
        fault("3 cube;", 1, 0);
        fault("3;", 1, 0);
        fault(";", 1, 0);
        fault("cube 3;;", 1, 7);
        fault("cube;", 1, 4);
        fault("cube ;", 1, 5);
        fault("cube 3 3;", 1, 7);
        fault("round 2 5;", 1, 8);
        fault("round of 5;", 1, 6);
        fault("round 2 of;", 1, 10);
        fault("round 2 of of 5;", 1, 11);
        fault("round 2 of 5 of;", 1, 13);
        fault("claim all all faces 0 < 9;", 1, 10);
        fault("claim 0 all faces 0 < 9;", 1, 8);
        fault("claim all 0 faces 0 < 9;", 1, 10);
        fault("claim all faces < 9;", 1, 16);
        fault("claim all faces 0 < ;", 1, 20);
        fault("claim all faces all < 9;", 1, 16);
        fault("claim all faces 0 < all;", 1, 20);
    }

    /** Words with one letter that is another one, wherever it is. */
    private static void oneLetter() {
        String[] ahead = {"", "", "", "", "", "round 2 ", "claim ", "claim all "};
        String[] words = {"cube", "cross", "corner", "round", "claim", "of", "all", "faces"};
        String[] behind = {" 3;", " 3;", " 3;", " 2 of 5;", " all faces 0 < 9;", " 5;", " faces 0 < 9;", " 0 < 9;"};
        for (int w = 0; w < words.length; w++) {
            done(ahead[w] + words[w] + behind[w], 1);
            for (int k = 0; k < words[w].length(); k++) {
                for (int step = -1; step <= 1; step += 2) {
                    char letter = (char) (words[w].charAt(k) + step);
                    if (letter >= 'a' && letter <= 'z') {
                        String word = words[w].substring(0, k) + letter + words[w].substring(k + 1);
                        fault(ahead[w] + word + behind[w], 1, ahead[w].length());
                    }
                }
            }
        }
    }

    /** The most clauses that a text can have are all looked at, and what stands behind them, too. */
    private static void lastClauses() {
        String short1 = "cube2;";
        fault(short1.repeat(25) + "cube9;", 2, 154);
        fault(short1.repeat(25) + "cub 2;", 1, 150);
        fault(short1.repeat(26) + "x", 1, 156);
        fault(short1.repeat(26) + "cube", 1, 160);
        fault(short1.repeat(26) + "cub ", 1, 156);
        fault(short1.repeat(26) + "   ?", 1, 159);
        fault(short1.repeat(26) + ";", 1, 156);
        BodyCorners x = new BodyCorners();
        due("26 clauses and blanks", readAll(x, short1.repeat(26) + "    "), 24);
        due("no FAULT", x.fault(), NONE);
        BodyCorners y = with(NINE.repeat(8));
        fault(y, short1.repeat(24) + "claim0faces0<9;", 3, 144);
    }

    /** A text that ends too early has its fault at its length, but for a word or a number that is none then. */
    private static void ends() {
        String round = "round 2 of 16;";
        int[] roundAt = {0, 0, 0, 0, 0, 5, 6, 7, 8, 8, 10, 11, 11, 13};
        for (int n = 1; n < round.length(); n++) {
            fault(round.substring(0, n), n == 12 ? 2 : 1, roundAt[n]);
            fault("cube 2; " + round.substring(0, n), n == 12 ? 2 : 1, 8 + roundAt[n]);
        }
        String claim = "claim all faces 0 < 12;";
        int[] claimAt = {0, 0, 0, 0, 0, 5, 6, 6, 6, 9, 10, 10, 10, 10, 10, 15, 16, 17, 18, 19, 20, 21, 22};
        for (int n = 1; n < claim.length(); n++) {
            fault(claim.substring(0, n), 1, claimAt[n]);
        }
        String cross = "cross 4;";
        int[] crossAt = {0, 0, 0, 0, 0, 5, 6, 7};
        for (int n = 1; n < cross.length(); n++) {
            fault(cross.substring(0, n), 1, crossAt[n]);
        }
        done("", 0);
        done(" ", 0);
        done(" ".repeat(160), 0);
        fault("cube 3   ", 1, 9);
        fault("cube" + " ".repeat(156), 1, 160);
        fault("cube 2;".repeat(22) + "cube 2", 1, 160);
        fault("cube 2;".repeat(22) + "cube 5", 2, 159);
        fault(" ".repeat(159) + "c", 1, 159);
    }

    /** The first byte that has a fault counts, whatever its kind; at one byte the least kind. */
    private static void firstOnes() {
        fault("cube 9; cub 3;", 2, 5);
        fault("cub 9; cube 9;", 1, 0);
        fault("cube 9", 2, 5);
        fault("cube 9 9;", 2, 5);
        fault("cube 3; cube 9; ?", 2, 13);
        fault("round 9 of 9;", 2, 6);
        fault("round 2 of 99; cube 9;", 2, 11);
        fault("claim 100 faces 9 ? 9999;", 2, 6);
        fault("claim 10 faces 9 ? 9999;", 2, 15);
        fault("claim 10 faces 1 ? 9999;", 1, 17);
        fault("claim 10 faces 1 < 9999", 2, 19);
        fault("9999 cube;", 1, 0);
        fault("cube 3 9999;", 1, 7);
        fault("claim all 9999 faces 0 < 9;", 1, 10);
        fault("claim all faces 0 9999;", 1, 18);
    }

    /** A ninth claim, with those that there are. */
    private static void ninth() {
        due("eight in one text", done(NINE.repeat(8), 8).count(2), 8);
        fault(NINE.repeat(9), 3, 120);
        fault(NINE.repeat(8) + "  " + NINE, 3, 122);
        fault(NINE.repeat(10), 3, 120);
        BodyCorners seven = with(NINE.repeat(7));
        fault(seven, NINE.repeat(2), 3, 15);
        fault(seven, "cube 3; " + NINE + " " + NINE, 3, 24);
        due("one more goes", readAll(seven, NINE), 1);
        due("eight", seven.count(2), 8);
        fault(seven, NINE, 3, 0);
        fault(seven, "cube 2;  " + NINE, 3, 9);
        fault(seven, NINE + "cub", 3, 0);
        fault(seven, "cub " + NINE, 1, 0);
        fault(seven, "cube 9;" + NINE, 2, 5);
        fault(seven, "cube claim", 1, 5);
        fault(seven, "cube 3 claim 0 faces 0 < 9;", 1, 7);
        fault(seven, "claims 0 faces 0 < 9;", 1, 0);
        fault(seven, "claimall faces 0 < 9;", 1, 0);
        fault(seven, "clai", 1, 0);
        due("BODIES still go", readAll(seven, "cube 3; cube 2;"), 2);
        due("eight still", seven.count(2), 8);
        BodyCorners x = new BodyCorners();
        fault(x, NINE.repeat(7) + "claim", 1, 110);
        due("those of a text with a FAULT do not count", readAll(x, NINE.repeat(8)), 8);
        BodyCorners one = with(NINE);
        fault(one, NINE.repeat(8), 3, 105);
        due("seven more go", readAll(one, NINE.repeat(7)), 7);
    }

    private static void fullOnes() {
        BodyCorners x = with("cube2;".repeat(23));
        due("the 24th", readAll(x, "cube2;cube2;claim0faces0<9;"), 1);
        due("no FAULT", x.fault(), NONE);
        due("24", x.count(0), 24);
        due("what comes behind is not done", x.count(2), 0);
        due("empty then", x.count(5), 0);
        due("none", readAll(x, "cross 3; claim 0 faces 0 < 9;"), 0);
        due("claims ahead are done", readAll(x, NINE + NINE + "round 2 of 5;" + NINE), 2);
        due("two claims", x.count(2), 2);
        due("claims alone", readAll(x, NINE + NINE), 2);
        fault(x, "cube 9;", 2, 5);
        BodyCorners y = with("cube2;".repeat(24), NINE.repeat(8));
        fault(y, "cube2;" + NINE, 3, 6);
        BodyCorners z = new BodyCorners();
        due("26 clauses", readAll(z, "cube2;".repeat(26)), 24);
        due("24 of them", z.count(0), 24);
        BodyCorners w = with("cube 3;");
        w.point(1, 2, 3, 4);
        due("as many as there are", readAll(w, "cross2;corner3;round4of6;"), 3);
        due("by the order told", w.about(1, 0) * 100 + w.about(2, 0) * 10 + w.about(3, 0), 234);
        due("the DRAFT stays", w.count(1), 1);
    }

    private static void feeding() {
        for (int n = 1; n <= 8; n++) {
            BodyCorners x = new BodyCorners();
            String text = "round 2 of 16; claim0faces0>15; claim0faces1=16;";
            for (int at = 0; at < text.length(); at += n) {
                long packed = -1;
                for (int k = at; k < Math.min(text.length(), at + n); k++) {
                    packed = packed << 8 | text.charAt(k);
                }
                x.feed(Math.min(n, text.length() - at), packed);
            }
            due("by " + n, x.read(), 3);
            due("by " + n, x.claim(0) + x.claim(1), 0);
        }
        BodyCorners x = new BodyCorners();
        due("the highest bytes", x.feed(8, 0x8081fffefdfc7f00L), 8);
        due("none of them can stand", x.read(), -11);
        due("at 0", x.fault(), 0);
        x.feed(7, 0x63756265203b20L);
        x.feed(1, 0xffL);
        due("bytes 99 117 98 101 32 59 32 255", x.read(), -11);
        due("at the fifth", x.fault(), 5);
        for (int n = 1; n <= 160; n++) {
            due("a byte each", x.feed(1, ' '), n);
        }
        due("a byte more", x.feed(1, ' '), FULL);
        due("still 160", x.count(5), 160);
        due("all blanks", x.read(), 0);
        due("empty then: room for eight", x.feed(8, 0), 8);
    }

    private static void faults() {
        BodyCorners x = new BodyCorners();
        due("of no read", x.fault(), NONE);
        fault(x, "cube 3; cube 33;", 2, 13);
        feedAll(x, "cube 3;");
        due("feeding leaves it", x.fault(), 13);
        due("read", x.read(), 1);
        due("the latest had none", x.fault(), NONE);
        fault(x, "?", 1, 0);
        due("an empty text has none", x.read(), 0);
        due("none", x.fault(), NONE);
    }

    private static void claims() {
        BodyCorners x = with("claim all faces 0 < 9; claim all faces 2 > 5; claim 0 faces 1 = 12; claim 23 faces 0 = 4;");
        due("of all: never OPEN", x.claim(0), 0);
        due("of all, of none", x.claim(1), 0);
        due("of B that is not there", x.claim(2), NONE);
        due("of B that is far", x.claim(3), NONE);
        due("a fifth", x.claim(4), UNKNOWN);
        readAll(x, "cube 3;");
        due("8 is less than 9", x.claim(0), 0);
        due("6 is more than 5", x.claim(1), 0);
        due("12 is 12", x.claim(2), 0);
        readAll(x, "cross 3; cube 2; cube 4;");
        due("BROKEN by the first of two", x.claim(1), 102);
        due("BROKEN by the last", x.claim(0), 103);
        due("of its BODY alone", x.claim(2), 0);
        readAll(x, "cube2;".repeat(19));
        due("no BODY 23", x.claim(3), NONE);
        readAll(x, "corner 2;");
        due("BROKEN by BODY 23", x.claim(3), 123);
        signsOfClaims();
    }

    /** Less than, more than, just V: at V, below it and above it, by CELLS of each K. */
    private static void signsOfClaims() {
        int[][] cells = {{3, 3, 0, 0}, {8, 12, 6, 0}, {16, 32, 24, 8}};
        for (int body = 0; body < 3; body++) {
            for (int k = 0; k < 4; k++) {
                int has = cells[body][k];
                for (int v = Math.max(0, has - 1); v <= has + 1; v++) {
                    String rest = "claim " + body + " faces " + k;
                    BodyCorners x = with("corner 2; cube 3; cube 4;",
                            rest + " < " + v + ";" + rest + " > " + v + ";" + rest + " = " + v + ";");
                    due(rest + " < " + v, x.claim(0), has < v ? 0 : 100 + body);
                    due(rest + " > " + v, x.claim(1), has > v ? 0 : 100 + body);
                    due(rest + " = " + v, x.claim(2), has == v ? 0 : 100 + body);
                }
            }
        }
        BodyCorners x = with("corner 2; cube 3; cube 4; claim all faces 0 < 8; claim all faces 3 > 0; claim all faces 3 = 0;",
                "claim all faces 2 < 6; claim all faces 1 > 3; claim all faces 1 = 3;");
        int[] want = {101, 100, 102, 101, 100, 101};
        for (int k = 0; k < want.length; k++) {
            due("all, " + k, x.claim(k), want[k]);
        }
    }

    public static void main(String[] args) {
        shapes();
        shapesPlaces();
        rounds();
        claimNumbers();
        blanks();
        signs();
        words();
        ends();
        lastClauses();
        firstOnes();
        ninth();
        fullOnes();
        feeding();
        faults();
        claims();
        System.out.println(passed + " passed, " + failed + " failed");
        if (failed != 0) {
            System.exit(1);
        }
    }
}
