/** Each sentence of the document's part TEXTS that names an edge has a test of its own here. */
public final class EdgesOfTextsTest {
    private static final int BAD_VALUE = OvertakingLoads.BAD_VALUE;
    private static final int FULL = OvertakingLoads.FULL;
    private static final int NONE = OvertakingLoads.NONE;

    public static void main(String[] args) {
        sixtyCharacters();
        oneOrMoreActs();
        stores();
        delayOfTheAddress();
        delayOfTheData();
        loads();
        place();
        whatIsLeftOut();
        noZeroInFront();
        digitThatIsTooMuch();
        firstCharacterThatIsNotAllowed();
        endsTooEarly();
        Check.end("EdgesOfTextsTest");
    }

    private static OvertakingLoads typed(String text) {
        OvertakingLoads x = new OvertakingLoads();
        Check.typeText(x, text);
        return x;
    }

    /** The text is one of so many acts. */
    private static void right(String text, int acts) {
        OvertakingLoads x = typed(text);
        Check.due("fault of " + text, x.fault(), NONE);
        Check.due("addAll of " + text, x.addAll(), acts);
        Check.due("acts of " + text, x.count(1), acts);
    }

    private static void wrong(String text, int fault) {
        OvertakingLoads x = typed(text);
        Check.due("fault of " + text, x.fault(), fault);
        Check.due("addAll of " + text, x.addAll(), -100 - fault);
        Check.due("acts of " + text, x.count(1), 0);
    }

    /** The text is right, and what it makes of act 0 is told by act(0, what). */
    private static void tells(String text, int what, int due) {
        OvertakingLoads x = typed(text);
        Check.due("addAll of " + text, x.addAll(), 1);
        Check.due("act(0, " + what + ") of " + text, x.act(0, what), due);
    }

    private static void sixtyCharacters() {
        Check.says("There is a text of at most 60 characters, empty at first.");
        OvertakingLoads x = new OvertakingLoads();
        Check.due("empty", x.count(14), 0);
        String most = "l0:1;l1:1;l2:1;l3:1;l4:1;l5:1;l6:1;l7:1;l8:1;l9:1;l0:1;l12:1";
        Check.typeText(x, most);
        Check.due("sixty", x.count(14), 60);
        Check.due("no more", x.type('0'), FULL);
        Check.due("nor another", x.type(';'), FULL);
        Check.due("still sixty", x.count(14), 60);
        Check.due("no fault", x.fault(), NONE);
        Check.due("twelve acts", x.addAll(), 12);
        Check.due("the last one", x.act(11, 1), 12);
    }

    private static void oneOrMoreActs() {
        Check.says("A text of acts is one or more acts with \";\" between two");
        wrong("", 0);
        right("l0:1", 1);
        right("s0:1=1", 1);
        right("l0:1;s0:1=1", 2);
        right("s0:1=1;l0:1;l0:1", 3);
        wrong(";", 0);
        wrong(";l0:1", 0);
        wrong("l0:1;", 5);
        wrong("l0:1;;l0:1", 5);
        wrong("l0:1l0:1", 4);
        wrong("l0:1,l0:1", 4);
    }

    private static void stores() {
        Check.says("\"s\", an address (0 to 63), \":\", bytes (1 to 3), \"=\", a value (0 to 16777215)");
        tells("s0:1=1", 1, 0);
        tells("s63:1=1", 1, 63);
        wrong("s64:1=1", 2);
        wrong("s-1:1=1", 1);
        wrong("s0:0=1", 3);
        tells("s0:1=1", 2, 1);
        tells("s0:3=1", 2, 3);
        wrong("s0:4=1", 3);
        wrong("s0:10=1", 4);
        tells("s0:1=0", 3, 0);
        tells("s0:3=16777215", 3, 16777215);
        wrong("s0:3=16777216", 12);
        wrong("s0:3=-1", 5);
        wrong("s:1=1", 1);
        wrong("s0:=1", 3);
        wrong("s0:1=/1", 5);
        wrong("s0:1:1", 4);
        wrong("s0=1", 2);
        wrong("s0:1", 4);
        wrong("S0:1=1", 0);
        // What the bytes can't hold is no fault of the text.
        OvertakingLoads x = typed("s0:1=256");
        Check.due("no fault", x.fault(), NONE);
        Check.due("but an error", x.addAll(), BAD_VALUE);
    }

    private static void delayOfTheAddress() {
        Check.says("and perhaps \"/\" and the delay of the address (0 to 20)");
        int[] delays = {0, 1, 9, 10, 19, 20};
        for (int delay : delays) {
            OvertakingLoads x = typed("s0:1=1/" + delay);
            x.addAll();
            x.pass(1);
            Check.due("delay " + delay, x.act(0, 5), delay);
        }
        wrong("s0:1=1/21", 8);
        wrong("s0:1=1/-1", 7);
        wrong("s0:1=1/", 7);
        wrong("s0:1=1/;l0:1", 7);
        wrong("s0:1=1/1/1", 8);
    }

    private static void delayOfTheData() {
        Check.says("and behind that perhaps \",\" and that of the data (0 to 20)");
        int[] delays = {0, 1, 9, 10, 19, 20};
        for (int delay : delays) {
            OvertakingLoads x = typed("s0:1=1/0," + delay);
            x.addAll();
            x.pass(delay + 1);
            Check.due("delay " + delay, x.act(0, 4), 2);
            x.undo();
            Check.due("one beat less", x.pass(Math.max(1, delay)) + x.act(0, 4), delay == 0 ? 2 : 1);
        }
        wrong("s0:1=1,1", 6);
        wrong("s0:1=1/0,21", 10);
        wrong("s0:1=1/0,", 9);
        wrong("s0:1=1/,1", 7);
        wrong("s0:1=1/0,1,1", 10);
        wrong("s0:1=1/0,1@1", 10);
    }

    private static void loads() {
        Check.says("or \"l\", an address, \":\", bytes, and perhaps \"/\" and the delay");
        tells("l0:1", 1, 0);
        tells("l63:1", 1, 63);
        wrong("l64:1", 2);
        tells("l0:3", 2, 3);
        wrong("l0:0", 3);
        wrong("l0:4", 3);
        int[] delays = {0, 1, 9, 10, 19, 20};
        for (int delay : delays) {
            OvertakingLoads x = typed("l0:1/" + delay);
            x.addAll();
            x.pass(1);
            Check.due("delay " + delay, x.act(0, 5), delay);
        }
        wrong("l:1", 1);
        wrong("l0:/1", 3);
        wrong("l0:@1", 3);
        wrong("l0:1/21", 6);
        wrong("l0:1/", 5);
        wrong("l0:1/@1", 5);
        wrong("l0:1/1,1", 6);
        wrong("l0:1=1", 4);
        wrong("L0:1", 0);
    }

    private static void place() {
        Check.says("and perhaps \"@\" and the place (0 to 7).");
        for (int place = 0; place <= 7; place++) {
            tells("l0:1@" + place, 9, place);
            tells("l0:1/20@" + place, 9, place);
        }
        wrong("l0:1@8", 5);
        wrong("l0:1@9", 5);
        wrong("l0:1@-1", 5);
        wrong("l0:1@", 5);
        wrong("l0:1@1/1", 6);
        wrong("l0:1@1@1", 6);
        wrong("l0:1@17", 6);
        wrong("s0:1=1@1", 6);
    }

    private static void whatIsLeftOut() {
        Check.says("What is left out is 0.");
        // What an act ahead has told does not stay for those that leave it out.
        OvertakingLoads x = typed("s0:1=1/1,2;s1:1=1;s2:1=1/1;l5:1/3@7;l5:1;l5:1/3;l5:1@7");
        x.addAll();
        x.set(1, 4);
        x.set(2, 4);
        x.pass(1);
        Rows.hows(x, "1211000");
        x.pass(1);
        Check.due("no delay of the address", x.act(1, 5), 0);
        Check.due("a delay of the address, none of the data", x.act(2, 4), 2);
        Check.due("no delay of a load", x.act(4, 5), 1);
        Check.due("no delay, but a place", x.act(6, 5), 1);
        Check.due("no place", x.act(4, 9), 0);
        Check.due("no place, but a delay", x.act(5, 9), 0);
        Check.due("a place", x.act(6, 9), 7);
    }

    private static void noZeroInFront() {
        Check.says("Numbers have no zero in front, unless they are the single digit 0");
        right("s0:1=0/0,0", 1);
        right("l0:1/0@0", 1);
        right("s10:3=100/10,10", 1);
        wrong("s00:1=0", 2);
        wrong("s01:1=0", 2);
        wrong("l063:1", 2);
        wrong("l0:01", 3);
        wrong("s0:1=00", 6);
        wrong("s0:1=01", 6);
        wrong("s0:1=0/00", 8);
        wrong("s0:1=0/01", 8);
        wrong("s0:1=0/0,00", 10);
        wrong("s0:1=0/0,01", 10);
        wrong("l0:1/00", 6);
        wrong("l0:1/01", 6);
        wrong("l0:1@00", 6);
        wrong("l0:1@01", 6);
    }

    private static void digitThatIsTooMuch() {
        Check.says("a digit by which a number would be greater than told is not allowed.");
        wrong("s64:1=0", 2);
        wrong("s69:1=0", 2);
        wrong("s70:1=0", 2);
        wrong("s99:1=0", 2);
        wrong("s630:1=0", 3);
        wrong("s100:1=0", 3);
        wrong("l64:1", 2);
        wrong("l0:11", 4);
        wrong("l0:30", 4);
        wrong("s0:3=16777216", 12);
        wrong("s0:3=16777219", 12);
        wrong("s0:3=16777220", 12);
        wrong("s0:3=16777300", 12);
        wrong("s0:3=16778000", 12);
        wrong("s0:3=16780000", 12);
        wrong("s0:3=16800000", 12);
        wrong("s0:3=17000000", 12);
        wrong("s0:3=20000000", 12);
        wrong("s0:3=99999999", 12);
        wrong("s0:3=167772150", 13);
        wrong("s0:3=100000000", 13);
        wrong("s0:3=99999999999999999999", 12);
        right("s0:3=9999999", 1);
        right("s0:3=10000000", 1);
        right("s0:3=16777209", 1);
        wrong("s0:1=1/21", 8);
        wrong("s0:1=1/30", 8);
        wrong("s0:1=1/200", 9);
        wrong("s0:1=1/100", 9);
        wrong("s0:1=1/1,21", 10);
        wrong("s0:1=1/1,200", 11);
        wrong("l0:1/21", 6);
        wrong("l0:1/200", 7);
        wrong("l0:1@8", 5);
        wrong("l0:1@70", 6);
    }

    private static void firstCharacterThatIsNotAllowed() {
        Check.says("The fault of the text is the index, from 0, of the first character that is not allowed at its place");
        wrong("x", 0);
        wrong("0:1", 0);
        wrong(" l0:1", 0);
        wrong("l 0:1", 1);
        wrong("l0 :1", 2);
        wrong("l0:1 ", 4);
        wrong("l0:1; l0:1", 5);
        wrong("l0:1;x;y", 5);
        wrong("l64:4", 2);
        // The last character that there is room for, of a text that is full.
        wrong("l0:1;l1:1;l2:1;l3:1;l4:1;l5:1;l6:1;l7:1;l8:1;l9:1;l0:1;l12:x", 59);
        wrong("l0:1;l1:1;l2:1;l3:1;l4:1;l5:1;l6:1;l7:1;l8:1;l9:1;l0:1;l1:1x", 59);
        // An act behind it that store() refuses is no matter.
        wrong("s63:3=0;s0:1=256;x", 17);
    }

    private static void endsTooEarly() {
        Check.says("or the length of the text if it ends too early (the empty text does).");
        wrong("", 0);
        String store = "s63:1=1/2,";
        for (int length = 1; length <= store.length(); length++) {
            // Behind "s63:1=1" and "s63:1=1/2" a text may end.
            if (length != 7 && length != 9) {
                wrong(store.substring(0, length), length);
                wrong("l0:1;" + store.substring(0, length), 5 + length);
            }
        }
        String load = "l63:1/2@";
        for (int length = 1; length <= load.length(); length++) {
            if (length != 5 && length != 7) {
                wrong(load.substring(0, length), length);
                wrong("s0:1=1;" + load.substring(0, length), 7 + length);
            }
        }
        wrong("l0:1@", 5);
        wrong("l0:1;", 5);
        // A text that is full ends too early, too.
        wrong("l0:1;l1:1;l2:1;l3:1;l4:1;l5:1;l6:1;l7:1;l8:1;l9:1;l0:1;l12:1".substring(0, 59), 59);
        wrong("l0:1;l1:1;l2:1;l3:1;l4:1;l5:1;l6:1;l7:1;l8:1;l9:1;l0:1;l1:1;", 60);
        wrong("s0:1=1;s0:1=1;s0:1=1;s0:1=1;s0:1=1;s0:1=1;s0:1=1;s10:1=1/10,", 60);
        // After it has been cleared, nothing of the text that was is there.
        OvertakingLoads x = typed("l0:1;l1:1");
        x.clearText();
        Check.due("cleared", x.fault(), 0);
        x.type('l');
        Check.due("one character", x.fault(), 1);
    }
}
