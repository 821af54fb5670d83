/** What the tests share: comparing an answer with the one that is due, and telling texts at once. */
final class Check {
    private final String test;
    private String sentence = "";
    private int asked = 0;
    private int wrong = 0;

    Check(String test) {
        this.test = test;
    }

    /** The sentence of the document that the answers from here on are about. */
    void about(String words) {
        sentence = " [" + words + "]";
    }

    void due(String call, long got, long want) {
        asked++;
        if (got != want) {
            wrong++;
            System.out.println(test + sentence + ": " + call + " answered " + got + ", due is " + want);
        }
    }

    void holds(String claim, boolean holds) {
        asked++;
        if (!holds) {
            wrong++;
            System.out.println(test + sentence + ": it does not hold that " + claim);
        }
    }

    void end() {
        if (wrong == 0) {
            System.out.println(test + ": all " + asked + " answers are as due");
            return;
        }
        System.out.println(test + ": " + wrong + " of " + asked + " answers are not as due");
        System.exit(1);
    }

    static void tell(RowingEight x, int text, String bytes) {
        x.wipe(text);
        for (int i = 0; i < bytes.length(); i++) {
            x.type(text, bytes.charAt(i));
        }
    }

    /** A new object with these rowers, rates and rudder. */
    static RowingEight eight(String crew, String rates, String rudder) {
        RowingEight x = new RowingEight();
        tell(x, 0, crew);
        tell(x, 1, rates);
        tell(x, 2, rudder);
        return x;
    }

    /** An object with no rowers on a stream that does not flow, so that nothing moves by itself. */
    static RowingEight still(String rudder) {
        RowingEight x = eight("", "", rudder);
        x.river(0, 0);
        return x;
    }

    static void items(RowingEight x, int s, int form, int... values) {
        x.sheet(s, form, values.length);
        for (int i = 0; i < values.length; i++) {
            x.put(s, form, i, values[i]);
        }
    }

    static void gusts(RowingEight x, int many, int minute, int number) {
        for (int i = 0; i < many; i++) {
            x.event(1, minute, number);
        }
    }
}
