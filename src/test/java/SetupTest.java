/** Promises 2 to 4: append, load and errorOffset, with the grammar of the setup text. */
public final class SetupTest {
    private static final int SYNTAX = RhymeRoofs.SYNTAX_ERROR;
    private static final int RANGE = RhymeRoofs.OUT_OF_RANGE;
    private static final int REPEATED = RhymeRoofs.REPEATED;
    private static final int MANY = RhymeRoofs.TOO_MANY;
    private static final int DEEP = RhymeRoofs.TOO_DEEP;

    public static void main(String[] args) {
        appendFillsTheBuffer();
        bytesAreMostSignificantFirst();
        lengthOfLoad();
        loadEmptiesTheBuffer();
        loadReplacesAllData();
        eachLoadStartsAnew();
        errorKeepsTheData();
        errorOffsetIsOfTheLatestLoad();
        textsThatAreRight();
        errorsOfRoof();
        errorsOfNumbers();
        errorsOfWords();
        errorsOfAlike();
        errorsOfHands();
        errorsOfRank();
        errorsOfOrder();
        errorsOfBytes();
        firstErrorCounts();
        Check.end();
    }

    private static void appendFillsTheBuffer() {
        RhymeRoofs x = new RhymeRoofs();
        for (int i = 1; i <= 30; i++) {
            Check.due("append " + i, x.append(0x20202020, 0x20202020, 0x20202020, 0x20202020, 0x20202020), 20 * i);
        }
        Check.due("append 31", x.append(1, 2, 3, 4, 5), -1);
        Check.due("append 32", x.append(1, 2, 3, 4, 5), -1);
        Check.due("load(600) of spaces", x.load(600), SYNTAX);
        Check.due("errorOffset behind 600 spaces", x.errorOffset(), 600);
        Check.due("append to the emptied buffer", x.append(1, 2, 3, 4, 5), 20);
    }

    private static void bytesAreMostSignificantFirst() {
        RhymeRoofs x = new RhymeRoofs();
        x.append(0x61626364, 0x65666768, 0x696a6b6c, 0x6d6e6f70, 0x71727374);
        x.give(0, 8);
        for (int k = 0; k < 8; k++) {
            Check.due("letter " + k + " of the appended bytes", x.letter(0, 0, k), k);
        }
        RhymeRoofs y = new RhymeRoofs();
        y.append(0x726f6f66, 0x20202020, 0x20202035, 0x20202020, 0x3bffffff);
        Check.due("load of appended bytes", y.load(17), 0);
        Check.due("row from appended bytes", y.row(0, 0), 5);
        y.append(0x726f6f66, 0x20202020, 0x20202035, 0x20202020, 0x3bffffff);
        Check.due("load with a byte 255", y.load(18), SYNTAX);
        Check.due("offset of a byte 255", y.errorOffset(), 17);
    }

    private static void lengthOfLoad() {
        RhymeRoofs x = new RhymeRoofs();
        Check.append(x, "roof 9;");
        Check.dueIllegalArgument("load(-1)", () -> x.load(-1));
        Check.dueIllegalArgument("load(21)", () -> x.load(21));
        Check.dueIllegalArgument("load(MIN)", () -> x.load(Integer.MIN_VALUE));
        Check.dueIllegalArgument("load(MAX)", () -> x.load(Integer.MAX_VALUE));
        Check.due("load of the whole buffer that stayed", x.load(20), 0);
        Check.due("row", x.row(0, 0), 9);
    }

    private static void loadEmptiesTheBuffer() {
        RhymeRoofs x = new RhymeRoofs();
        Check.append(x, "roof 9;hand 0 a b c d e f;");
        Check.due("load of a part", x.load(7), 0);
        Check.dueIllegalArgument("load behind a load", () -> x.load(1));
        Check.due("load of nothing", x.load(0), SYNTAX);
        Check.due("offset of nothing", x.errorOffset(), 0);
        Check.append(x, "roof 9;");
        Check.due("load with an error", x.load(3), SYNTAX);
        Check.dueIllegalArgument("load behind an error", () -> x.load(1));
        Check.due("append behind an error", Check.append(x, "a"), 20);
    }

    private static void loadReplacesAllData() {
        RhymeRoofs x = Check.loaded("roof 4 7;players 3;need 4;bonus 9;crown 99;alike xyz;rank 7;hand 2 abcd xyz;");
        x.pass();
        x.pass();
        x.lay(0, 0);
        Check.due("points before", x.player(2, 2), 103);
        Check.due("load", Check.load(x, "roof 5;hand 1 cat;hand 0 at;hand 1 rat;"), 3);
        int[] state = {1, 2, 2, 1, 5, 0, 0, 0, 0, 0, 1, 3};
        for (int what = 0; what < state.length; what++) {
            Check.due("loaded anew: state(" + what + ")", x.state(what), state[what]);
        }
        Check.due("loaded anew: row words", x.row(0, 2), 0);
        Check.due("loaded anew: owner", x.row(0, 3), -1);
        Check.due("loaded anew: points", x.player(0, 2), 0);
        Check.due("loaded anew: alike", x.alike(23, 24), false);
        Check.due("loaded anew: rank is the points", x.play(0, 0, 1), 2);
        Check.due("words in the order told", x.letter(1, 1, 0), 'r' - 'a');
        Check.dueOutOfBounds("loaded anew: player 2", () -> x.player(2, 0));
    }

    private static void eachLoadStartsAnew() {
        RhymeRoofs x = Check.loaded("roof 9;alike ab;need 3;rank 5;hand 0 a b c d e f g h;");
        Check.due("the same statements again", Check.load(x, "roof 9;players 3;alike ab;need 3;rank 5;hand 0 a;"), 1);
        Check.due("an error", Check.load(x, "roof 9;hand 0 a;alike cd;players 2;"), SYNTAX);
        Check.due("right behind an error", Check.load(x, "roof 9;players 3;alike cd;hand 0 a;"), 1);
        Check.due("errorOffset", x.errorOffset(), -1);
        Check.due("right behind spaces of a longer text", Check.load(x, "roof 9;"), 0);
    }

    private static void errorKeepsTheData() {
        RhymeRoofs x = Check.loaded("roof 4 7;players 3;alike xyz;rank left;hand 2 abcd xyz;");
        x.pass();
        long before = x.checksum();
        Check.due("load", Check.load(x, "roof 9;players 4;need 1;alike ab;rank 1;hand 0 a;x"), SYNTAX);
        Check.due("checksum behind an error", x.checksum(), before);
        Check.due("alike behind an error", x.alike(0, 1), false);
        x.pass();
        Check.due("rank behind an error", x.play(0, 1, 1), 3);
        Check.due("undo of the second pass", x.undo(), 2);
        Check.due("undo of the first pass", x.undo(), 1);
        Check.due("undo of the load", x.undo(), 0);
        Check.due("an error is no change", x.undo(), -1);
    }

    private static void errorOffsetIsOfTheLatestLoad() {
        RhymeRoofs x = new RhymeRoofs();
        Check.load(x, "roof 0;");
        Check.due("errorOffset", x.errorOffset(), 5);
        Check.dueIllegalArgument("load(1)", () -> x.load(1));
        Check.due("errorOffset behind a load that threw", x.errorOffset(), 5);
        Check.load(x, "roof 1;");
        Check.due("errorOffset behind a right load", x.errorOffset(), -1);
        Check.load(x, "roof 1 ?");
        Check.due("errorOffset", x.errorOffset(), 7);
        x.undo();
        Check.due("errorOffset behind an undo", x.errorOffset(), 7);
    }

    private static void textsThatAreRight() {
        Check.dueLoaded("roof 1;", 0);
        Check.dueLoaded("roof1;", 0);
        Check.dueLoaded("   roof   1   ;   ", 0);
        Check.dueLoaded("roof 1 2 3 4 5 40;", 0);
        Check.dueLoaded("roof 000000000000000000000000000000000000040;", 0);
        Check.dueLoaded("roof 9;players2;need1;bonus0;crown0;", 0);
        Check.dueLoaded("roof 9;crown 99;bonus 9;need 4;players 4;hand 3 a;", 1);
        Check.dueLoaded("roof 9;hand0abcdefgh;", 1);
        Check.dueLoaded("roof 9;hand 1 a b c d e f g h;hand 0 a a a a a a a a;", 16);
        Check.dueLoaded("roof 9;hand 1 a b c;hand 1 d e f g h;", 8);
        Check.dueLoaded("roof 9;hand 0 roof players need bonus crown alike hand rank;", 8);
        Check.dueLoaded("roof 9;hand 0 a;rank hand;need 3;bonus 2;crown 1;alike z;", 1);
        Check.dueLoaded("roof 9;alike abcdefghijklmnopqrstuvwxyz;", 0);
        Check.dueLoaded("roof 9;alike ab;alike cd ; alike e;", 0);
        Check.dueLoaded("roof 9;rank((((1))));", 0);
        Check.dueLoaded("roof 9;rank((((1))))+((((2))))*((((left))));", 0);
        Check.dueLoaded("roof 9;rank 9999-points*letters/rhyme+left-full*hand;", 0);
        Check.dueLoaded("roof 9;rank 00000000000009999;", 0);
        Check.dueLoaded("roof 9;rank 1;players 3;", 0);
        StringBuilder longest = new StringBuilder("roof 9;rank 1");
        while (longest.length() < 597) {
            longest.append("+1");
        }
        Check.dueLoaded(longest.append(";").toString(), 0);
    }

    private static void errorsOfRoof() {
        Check.dueError("", SYNTAX, 0);
        Check.dueError("    ", SYNTAX, 4);
        Check.dueError("roo", SYNTAX, 0);
        Check.dueError("roo 1;", SYNTAX, 0);
        Check.dueError("xoof 1;", SYNTAX, 0);
        Check.dueError("roox 1;", SYNTAX, 0);
        Check.dueError("1 roof 1;", SYNTAX, 0);
        Check.dueError(";roof 1;", SYNTAX, 0);
        Check.dueError("  roofs 1;", SYNTAX, 2);
        Check.dueError("Roof 1;", SYNTAX, 0);
        Check.dueError("need 1;", SYNTAX, 0);
        Check.dueError("roof", SYNTAX, 4);
        Check.dueError("roof  ", SYNTAX, 6);
        Check.dueError("roof;", SYNTAX, 4);
        Check.dueError("roof a;", SYNTAX, 5);
        Check.dueError("roof 1", SYNTAX, 6);
        Check.dueError("roof 1 2 ", SYNTAX, 9);
        Check.dueError("roof 1 a;", SYNTAX, 7);
        Check.dueError("roof 1a;", SYNTAX, 6);
        Check.dueError("roof 1,2;", SYNTAX, 6);
        Check.dueError("roof -1;", SYNTAX, 5);
        Check.dueError("roof 1;;", SYNTAX, 7);
        Check.dueError("roof 1;roof 1;", SYNTAX, 7);
        Check.dueError("roof 1 2 3 4 5 6 7;", MANY, 17);
        Check.dueError("roof 1 2 3 4 5 6 41;", RANGE, 17);
        Check.dueError("roof 1 2 3 4 5 6 0;", RANGE, 17);
        Check.dueError("roof 1 2 3 4 5 6 x;", SYNTAX, 17);
    }

    private static void errorsOfNumbers() {
        Check.dueError("roof 0;", RANGE, 5);
        Check.dueError("roof 00;", RANGE, 5);
        Check.dueError("roof 41;", RANGE, 5);
        Check.dueError("roof 3 041;", RANGE, 7);
        Check.dueError("roof 4294967297;", RANGE, 5);
        Check.dueError("roof 18446744073709551617;", RANGE, 5);
        Check.dueError("roof 9;players 1;", RANGE, 15);
        Check.dueError("roof 9;players 5;", RANGE, 15);
        Check.dueError("roof 9;need 0;", RANGE, 12);
        Check.dueError("roof 9;need 5;", RANGE, 12);
        Check.dueError("roof 9;bonus 10;", RANGE, 13);
        Check.dueError("roof 9;crown 100;", RANGE, 13);
        Check.dueError("roof 9;hand 2 a;", RANGE, 12);
        Check.dueError("roof 9;players 3;hand 3 a;", RANGE, 22);
        Check.dueError("roof 9;rank 10000;", RANGE, 12);
        Check.dueError("roof 9;rank 1+ 4294967296;", RANGE, 15);
        Check.dueError("roof 9;need;", SYNTAX, 11);
        Check.dueError("roof 9;need a;", SYNTAX, 12);
        Check.dueError("roof 9;need 1 1;", SYNTAX, 14);
        Check.dueError("roof 9;need 1", SYNTAX, 13);
    }

    private static void errorsOfWords() {
        Check.dueError("roof 9;needs 1;", SYNTAX, 7);
        Check.dueError("roof 9;nee 1;", SYNTAX, 7);
        for (String word : new String[] {"xlayers", "xeed", "xonus", "xrown", "xlike", "xand", "xank"}) {
            Check.dueError("roof 9;" + word + " 1;", SYNTAX, 7);
        }
        Check.dueError("roof 9; x;", SYNTAX, 8);
        Check.dueError("roof 9;9;", SYNTAX, 7);
        Check.dueError("roof 9;left 1;", SYNTAX, 7);
        Check.dueError("roof 9;alikeab;", SYNTAX, 7);
        Check.dueError("roof 9;need 1;need 1;", SYNTAX, 14);
        Check.dueError("roof 9;need 1;need", SYNTAX, 14);
        Check.dueError("roof 9;bonus 1; bonus 1;", SYNTAX, 16);
        Check.dueError("roof 9;crown 1;bonus 1;crown 1;", SYNTAX, 23);
        Check.dueError("roof 9;players 2;players 2;", SYNTAX, 17);
        Check.dueError("roof 9;rank 1;rank 2;", SYNTAX, 14);
    }

    private static void errorsOfAlike() {
        Check.dueError("roof 9;alike;", SYNTAX, 12);
        Check.dueError("roof 9;alike 1;", SYNTAX, 13);
        Check.dueError("roof 9;alike ab cd;", SYNTAX, 16);
        Check.dueError("roof 9;alike aba;", REPEATED, 15);
        Check.dueError("roof 9;alike aa;", REPEATED, 14);
        Check.dueError("roof 9;alike abcddc;", REPEATED, 17);
        Check.dueError("roof 9;alike ab;alike cb;", REPEATED, 23);
        Check.dueError("roof 9;alike z;alike z;", REPEATED, 21);
        Check.dueError("roof 9;alike aba", REPEATED, 15);
        Check.dueError("roof 9;alike abA;", SYNTAX, 15);
    }

    private static void errorsOfHands() {
        Check.dueError("roof 9;hand;", SYNTAX, 11);
        Check.dueError("roof 9;hand a;", SYNTAX, 12);
        Check.dueError("roof 9;hand 0;", SYNTAX, 13);
        Check.dueError("roof 9;hand 0 1;", SYNTAX, 14);
        Check.dueError("roof 9;hand 0 a 1;", SYNTAX, 16);
        Check.dueError("roof 9;hand 0 a", SYNTAX, 15);
        Check.dueError("roof 9;hand 0 abcdefghi;", RANGE, 14);
        Check.dueError("roof 9;hand 0 a abcdefghijklmn?", RANGE, 16);
        Check.dueError("roof 9;hand 0 a b c d e f g h i;", MANY, 30);
        Check.dueError("roof 9;hand 0 a b c d e f g h abcdefghi;", RANGE, 30);
        Check.dueError("roof 9;hand 0 a b c d;hand 1 a;hand 0 e f g h;hand 0 i;", MANY, 53);
        Check.dueError("roof 9;hand 0 a;players 2;", SYNTAX, 16);
        Check.dueError("roof 9;hand 0 a;need 1;players", SYNTAX, 23);
        Check.dueError("roof 9;players 3;hand 0 a;players 3;", SYNTAX, 26);
    }

    private static void errorsOfRank() {
        Check.dueError("roof 9;rank;", SYNTAX, 11);
        Check.dueError("roof 9;rank x;", SYNTAX, 12);
        Check.dueError("roof 9;rank need;", SYNTAX, 12);
        Check.dueError("roof 9;rank ;", SYNTAX, 12);
        Check.dueError("roof 9;rank (1+x);", SYNTAX, 15);
        Check.dueError("roof 9;rank 1*(2 3);", SYNTAX, 17);
        Check.dueError("roof 9;rank 1*(10000);", RANGE, 15);
        for (String word : new String[] {"xoints", "xetters", "xhyme", "xeft", "xull", "xand", "point", "handa"}) {
            Check.dueError("roof 9;rank 1+" + word + ";", SYNTAX, 14);
        }
        Check.dueError("roof 9;rank -1;", SYNTAX, 12);
        Check.dueError("roof 9;rank 1+;", SYNTAX, 14);
        Check.dueError("roof 9;rank 1*;", SYNTAX, 14);
        Check.dueError("roof 9;rank 1 + -1;", SYNTAX, 16);
        Check.dueError("roof 9;rank 1 1;", SYNTAX, 14);
        Check.dueError("roof 9;rank left full;", SYNTAX, 17);
        Check.dueError("roof 9;rank leftfull;", SYNTAX, 12);
        Check.dueError("roof 9;rank ();", SYNTAX, 13);
        Check.dueError("roof 9;rank (1;", SYNTAX, 14);
        Check.dueError("roof 9;rank 1);", SYNTAX, 13);
        Check.dueError("roof 9;rank 1(", SYNTAX, 13);
        Check.dueError("roof 9;rank ((((1(", SYNTAX, 17);
        Check.dueError("roof 9;rank (((((1)))));", DEEP, 16);
        Check.dueError("roof 9;rank ((((1+ (", DEEP, 19);
        Check.dueError("roof 9;rank ((((1))))*(((( 2/( 3 )))));", DEEP, 29);
        Check.dueError("roof 9;rank hand", SYNTAX, 16);
        Check.dueError("roof 9;rank 1 ", SYNTAX, 14);
    }

    private static void errorsOfOrder() {
        Check.dueError("need 1;roof 9;", SYNTAX, 0);
        Check.dueError("roof 9;need 1;hand 0 a;need 1;", SYNTAX, 23);
        Check.dueError("roof 9 need 1;", SYNTAX, 7);
        Check.dueError("roof 9;need 1 hand 0 a;", SYNTAX, 14);
    }

    private static void errorsOfBytes() {
        Check.dueError("roof\t9;", SYNTAX, 4);
        Check.dueError("roof 9;\n", SYNTAX, 7);
        Check.dueError("roof 9;\0", SYNTAX, 7);
        Check.dueError("roof 9;hand 0 caAt;", SYNTAX, 16);
        Check.dueError("roof 9;hand 0 ca\u00e9;", SYNTAX, 16);
        Check.dueError("roof 9;hand 0 ca{;", SYNTAX, 16);
        Check.dueError("roof 9;hand 0 ca`;", SYNTAX, 16);
        Check.dueError("roof 9:", SYNTAX, 6);
        Check.dueError("roof 9/", SYNTAX, 6);
    }

    private static void firstErrorCounts() {
        Check.dueError("roof 0 1 2 3 4 5 6 7 8 x", RANGE, 5);
        Check.dueError("roof 9;alike aa;need 9;x", REPEATED, 14);
        Check.dueError("roof 9;rank (((((", DEEP, 16);
        Check.dueError("roof 9;need 9;need 1", RANGE, 12);
    }
}
