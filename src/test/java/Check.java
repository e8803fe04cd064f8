/** Counts the answers that are not as due and tells them. */
final class Check {
    private static int wrong = 0;
    private static int asked = 0;

    private Check() {
    }

    static void due(String what, long got, long want) {
        asked++;
        if (got != want) {
            wrong++;
            System.out.println(what + " answered " + got + ", due is " + want);
        }
    }

    static void holds(String what, boolean holds) {
        due(what, holds ? 1 : 0, 1);
    }

    /** Types a text into the object, which must have room for it. */
    static void typeText(OvertakingLoads machine, String text) {
        machine.clearText();
        for (int i = 0; i < text.length(); i++) {
            due("type " + text.charAt(i) + " of " + text, machine.type(text.charAt(i)), i + 1);
        }
    }

    static void end(String name) {
        System.out.println(name + ": " + asked + " answers, " + wrong + " not as due");
        if (wrong != 0) {
            System.exit(1);
        }
    }
}
