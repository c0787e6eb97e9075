/** Counts and prints answers that are not the ones that are due. */
final class Expect {
    private static int wrong = 0;
    private static String part = "";

    private Expect() {
    }

    static void part(String name) {
        part = name;
    }

    static void due(String call, long got, long want) {
        if (got != want) {
            wrong++;
            System.out.println(part + ": " + call + " answered " + got + ", due is " + want);
        }
    }

    static void fault(String text) {
        wrong++;
        System.out.println(part + ": " + text);
    }

    static void end() {
        System.out.println(wrong == 0 ? "all answers are as due" : wrong + " answers are not as due");
        if (wrong != 0) {
            System.exit(1);
        }
    }
}
