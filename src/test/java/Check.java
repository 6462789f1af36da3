/** Counts the answers that are not as due, for all tests of the project. */
final class Check {
    private static int asked = 0;
    private static int wrong = 0;

    private Check() {
    }

    static void due(String call, long got, long want) {
        asked++;
        if (got != want) {
            wrong++;
            System.out.println(call + " answered " + got + ", due is " + want);
        }
    }

    static void holds(String what, boolean is) {
        due(what, is ? 1 : 0, 1);
    }

    /** Writes a text on the page, eight letters a call: what the last call answered. */
    static int write(ThievesPaid x, String text) {
        int answer = x.letters(0);
        for (int i = 0; i < text.length(); i += 8) {
            answer = x.letters(codes(text.substring(i, Math.min(text.length(), i + 8))));
        }
        return answer;
    }

    /** Up to eight letters as the bytes of a long, the first in the lowest byte. */
    static long codes(String text) {
        long w = 0;
        for (int i = text.length() - 1; i >= 0; i--) {
            w = w << 8 | text.charAt(i);
        }
        return w;
    }

    /** A new object that has read these contracts. */
    static ThievesPaid city(String contracts) {
        ThievesPaid x = new ThievesPaid();
        write(x, contracts);
        x.contracts();
        return x;
    }

    static void finish() {
        System.out.println(asked + " answers, " + wrong + " not as due");
        if (wrong != 0 || asked == 0) {
            System.exit(1);
        }
    }
}
