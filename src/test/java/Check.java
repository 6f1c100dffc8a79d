/** Counts and prints the answers that are not as due. */
final class Check {
    private static int wrong = 0;

    private Check() {
    }

    static void same(String what, Object got, Object want) {
        if (!String.valueOf(got).equals(String.valueOf(want))) {
            wrong++;
            System.out.println(brief(what) + " answered " + brief(got) + ", due is " + brief(want));
        }
    }

    private static String brief(Object what) {
        String text = String.valueOf(what);
        return text.length() <= 200 ? text : text.substring(0, 200) + " .. (" + text.length() + ")";
    }

    /** The last call of each test's main method. */
    static void end() {
        if (wrong > 0) {
            System.exit(1);
        }
    }
}
