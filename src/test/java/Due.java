/** What the tests share: counting answers that are not as due, telling a SET by its letters, filling a row. */
final class Due {
    private static int asDue = 0;
    private static int wrong = 0;
    private static String sentence = "";

    private Due() {
    }

    /** The sentence of the document that the answers from now on are due by. */
    static void by(String words) {
        sentence = words.isEmpty() ? "" : "\"" + words + "\": ";
    }

    static void due(String call, long got, long want) {
        if (got == want) {
            asDue++;
        } else {
            wrong++;
            System.out.println(sentence + call + " answered " + got + ", due is " + want);
        }
    }

    static void holds(String what, boolean holds) {
        due(what, holds ? 1 : 0, 1);
    }

    /** How many answers have been looked at. */
    static int looked() {
        return asDue + wrong;
    }

    /** Types the letters and answers what set() answers. */
    static int tell(RestRegisters x, String text) {
        for (int k = 0; k < text.length(); k++) {
            due("type of letter " + k + " of '" + text + "'", x.type(text.charAt(k)), k + 1);
        }
        return x.set();
    }

    static RestRegisters with(String text) {
        RestRegisters x = new RestRegisters();
        holds("'" + text + "' is a set", tell(x, text) > 0);
        return x;
    }

    static void rests(RestRegisters x, int register, int... want) {
        for (int wheel = 0; wheel < want.length; wheel++) {
            due("rest(" + register + ", " + wheel + ")", x.rest(register, wheel), want[wheel]);
        }
    }

    static void fill(RestRegisters x, int sheet, int lane, long... items) {
        due("sheet", x.sheet(sheet, lane, items.length), items.length);
        for (int i = 0; i < items.length; i++) {
            due("item " + i, x.item(sheet, lane, i, items[i]), 1);
        }
    }

    static void end(String test) {
        System.out.println(test + ": " + asDue + " answers as due, " + wrong + " not");
        if (wrong != 0) {
            System.exit(1);
        }
    }
}
