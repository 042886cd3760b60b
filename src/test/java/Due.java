/** Counts the answers of one test that are not the ones that are due. */
final class Due {
    private int asked = 0;
    private int wrong = 0;

    void is(String call, long got, long want) {
        asked++;
        if (got != want) {
            wrong++;
            System.out.println(call + " answered " + got + ", due is " + want);
        }
    }

    /** Ends the test: with exit code 1 if there was a wrong answer, or none at all. */
    void end() {
        System.out.println(wrong == 0 ? asked + " answers are as due" : wrong + " of " + asked + " answers are wrong");
        if (wrong != 0 || asked == 0) {
            System.exit(1);
        }
    }

    /** A tower with strokes at these times alone. */
    static BellWords struck(int... times) {
        BellWords bells = new BellWords();
        for (int time : times) {
            bells.strike(time);
        }
        return bells;
    }

    /** Rings letters by their signs, a the first one; "/" sets the pause. */
    static void ring(BellWords bells, String letters) {
        for (int i = 0; i < letters.length(); i++) {
            if (letters.charAt(i) == '/') {
                bells.pause();
            } else {
                bells.ring(letters.charAt(i) - 'a');
            }
        }
    }

    static BellWords rung(String letters) {
        BellWords bells = new BellWords();
        ring(bells, letters);
        return bells;
    }

    static void type(BellWords bells, String text) {
        for (int i = 0; i < text.length(); i++) {
            bells.type(text.charAt(i));
        }
    }

    /** Empties the text and types another one. */
    static void write(BellWords bells, String text) {
        bells.clearText();
        type(bells, text);
    }
}
