/** What the tests share: comparing an answer with the one that is due, and putting texts on the pad. */
final class Due {
    private static int wrong = 0;
    private static int compared = 0;

    private Due() {
    }

    static void due(String call, long got, long want) {
        compared++;
        if (got != want) {
            wrong++;
            System.out.println(call + " answered " + got + ", due is " + want);
        }
    }

    /** Ends the test: with exit code 1 if an answer was wrong, or if nothing was compared. */
    static void end(String test) {
        System.out.println(test + ": " + compared + " answers, " + wrong + " wrong");
        if (wrong != 0 || compared == 0) {
            System.exit(1);
        }
    }

    /** The number by which put() takes a text of at most 8 characters. */
    static long packed(String text) {
        long number = 0;
        for (int k = 0; k < text.length(); k++) {
            number = (number << 8) | text.charAt(k);
        }
        return number;
    }

    static void putText(BeamTurnstiles x, String text) {
        for (int k = 0; k < text.length(); k += 8) {
            int end = Math.min(k + 8, text.length());
            due("put " + text.substring(k, end), x.put(packed(text.substring(k, end))), end);
        }
    }

    /** Reads a text on an empty pad and returns what read() answers. */
    static int readText(BeamTurnstiles x, String text) {
        putText(x, text);
        return x.read();
    }

    static BeamTurnstiles after(String text) {
        BeamTurnstiles x = new BeamTurnstiles();
        readText(x, text);
        return x;
    }
}
