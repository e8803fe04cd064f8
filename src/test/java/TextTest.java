/** Promises 9 to 11, and the faults that promise 4 answers. */
public final class TextTest {
    private static final int NONE = OvertakingLoads.NONE;

    public static void main(String[] args) {
        typeAndClear();
        rightTexts();
        shortTexts();
        wrongTexts();
        oddCharacters();
        textIsNoState();
        Check.end("TextTest");
    }

    private static void typeAndClear() {
        OvertakingLoads x = new OvertakingLoads();
        Check.due("clear the empty text", x.clearText(), 0);
        for (int i = 1; i <= 60; i++) {
            Check.due("type " + i, x.type('s'), i);
        }
        Check.due("type 61", x.type('s'), OvertakingLoads.FULL);
        Check.due("length", x.count(14), 60);
        Check.due("fault", x.fault(), 1);
        Check.due("clear", x.clearText(), 60);
        Check.due("length then", x.count(14), 0);
        Check.due("clear again", x.clearText(), 0);
        Check.due("fault of the empty text", x.fault(), 0);
        Check.due("type again", x.type('l'), 1);
        Check.due("nothing of the old text", x.fault(), 1);
        Check.due("no history", x.count(13), 0);
    }

    private static void faultOf(String text, int due) {
        OvertakingLoads x = new OvertakingLoads();
        Check.typeText(x, text);
        Check.due("fault of " + text, x.fault(), due);
        Check.due("length of " + text, x.count(14), text.length());
        if (due == NONE) {
            int acts = text.split(";").length;
            Check.due("addAll of " + text, x.addAll(), acts);
        } else {
            Check.due("addAll of " + text, x.addAll(), -100 - due);
        }
    }

    private static void rightTexts() {
        String[] texts = {"s0:1=0", "s63:1=255", "s9:2=65535/0", "s10:3=16777215/20,20", "s1:1=9/9,0",
            "l0:1", "l63:1", "l59:3/20", "l60:3@7", "l6:2/10@0", "l7:1/0@1", "s5:3=10000000", "s0:3=9999999", "s0:3=16778",
            "l0:1;l0:1;l0:1;l0:1;l0:1;l0:1;l0:1;l0:1;l0:1;l0:1;l0:1;l0:1", "s1:1=1;l1:1;s2:2=2/2;l2:2@2"};
        for (String text : texts) {
            faultOf(text, NONE);
        }
    }

    private static void shortTexts() {
        String[] texts = {"s", "s6", "s63", "s63:", "s63:1", "s63:1=", "s63:1=1/", "s63:1=1/2,", "l", "l0",
            "l0:", "l0:1/", "l0:1@", "l0:1/1@", "l0:1;", "l0:1;l", "s1:1=1;s1:1"};
        for (String text : texts) {
            faultOf(text, text.length());
        }
    }

    private static void wrongTexts() {
        faultOf("x", 0);
        faultOf(";", 0);
        faultOf("S0:1=0", 0);
        faultOf(" l0:1", 0);
        faultOf("s:", 1);
        faultOf("s-1:1=0", 1);
        faultOf("s64:1=0", 2);
        faultOf("s70:1=0", 2);
        faultOf("s100:1=0", 3);
        faultOf("s00:1=0", 2);
        faultOf("s5=", 2);
        faultOf("s0:0=0", 3);
        faultOf("s0:4=0", 3);
        faultOf("s0:11=0", 4);
        faultOf("s0:1:0", 4);
        faultOf("s0:1;", 4);
        faultOf("s0:1/1", 4);
        faultOf("s0:1=x", 5);
        faultOf("s0:1=/1", 5);
        faultOf("s0:1=00", 6);
        faultOf("s0:3=16777216", 12);
        faultOf("s0:3=16777220", 12);
        faultOf("s0:3=16778000", 12);
        faultOf("s0:3=17000000", 12);
        faultOf("s0:3=99999999", 12);
        faultOf("s0:3=100000000", 13);
        faultOf("s0:1=1,1", 6);
        faultOf("s0:1=1@1", 6);
        faultOf("s0:1=1/21", 8);
        faultOf("s0:1=1/30", 8);
        faultOf("s0:1=1/02", 8);
        faultOf("s0:1=1/,1", 7);
        faultOf("s0:1=1/1/1", 8);
        faultOf("s0:1=1/1,21", 10);
        faultOf("s0:1=1/1,200", 11);
        faultOf("s0:1=1/1,1,1", 10);
        faultOf("s0:1=1/1,1@1", 10);
        faultOf("l0:0", 3);
        faultOf("l0:4", 3);
        faultOf("l0:1=1", 4);
        faultOf("l0:1,1", 4);
        faultOf("l0:1/21", 6);
        faultOf("l0:1/00", 6);
        faultOf("l0:1/1,1", 6);
        faultOf("l0:1/1/1", 6);
        faultOf("l0:1@8", 5);
        faultOf("l0:1@10", 6);
        faultOf("l0:1@00", 6);
        faultOf("l0:1@1/1", 6);
        faultOf("l0:1@1@1", 6);
        faultOf("l0:1;;l0:1", 5);
        faultOf("l0:1l0:1", 4);
        faultOf("l0:1; l0:1", 5);
        faultOf("l0:1;s0:1=1;l64:1", 14);
    }

    private static void oddCharacters() {
        char[] odd = {(char) 0, (char) 255, (char) 256, (char) 65535, (char) 0x0661, (char) (256 + '0')};
        for (char character : odd) {
            OvertakingLoads x = new OvertakingLoads();
            Check.due("type", x.type(character), 1);
            Check.due("fault", x.fault(), 0);
            Check.typeText(x, "l0:1");
            x.type(character);
            Check.due("fault behind an act", x.fault(), 4);
            Check.typeText(x, "l");
            x.type(character);
            Check.due("fault for a number", x.fault(), 1);
        }
    }

    private static void textIsNoState() {
        OvertakingLoads x = new OvertakingLoads();
        x.pass(1);
        x.keep();
        Check.typeText(x, "l0:1");
        x.undo();
        Check.due("undo leaves the text", x.count(14), 4);
        Check.due("restore", x.restore(), 1);
        Check.due("restore leaves the text", x.fault(), NONE);
        Check.due("addAll", x.addAll(), 1);
    }
}
