/** Compares answers with those that are due, and counts: each test with a main uses it by itself. */
final class Due {
    private static int promise;
    private static int asked = 0;
    private static int wrong = 0;

    private Due() { }

    static void promise(int number) {
        promise = number;
    }

    static void is(String what, long got, long want) {
        asked++;
        if (got != want) {
            wrong++;
            System.out.println("promise " + promise + ": " + what + " answered " + got + ", due is " + want);
        }
    }

    static void same(String what, String got, String want) {
        int at = 0;
        while (at < got.length() && at < want.length() && got.charAt(at) == want.charAt(at)) at++;
        asked++;
        if (!got.equals(want)) {
            wrong++;
            System.out.println("promise " + promise + ": " + what + " is otherwise: .." + part(got, at) + ", due is .." + part(want, at));
        }
    }

    private static String part(String text, int at) {
        return text.substring(Math.max(0, at - 20), Math.min(text.length(), at + 20));
    }

    static void end() {
        System.out.println(asked + " asked, " + wrong + " wrong");
        if (wrong != 0) {
            System.exit(1);
        }
    }
}
