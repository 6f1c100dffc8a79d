/** Counts and prints the answers that are not as due. */
final class Check {
    private static int wrong = 0;
    private static String sentence = "";

    private Check() {
    }

    /** The words of the document that the checks from here on are about. */
    static void sentence(String words) {
        sentence = "\"" + words + "\": ";
    }

    static void same(String what, Object got, Object want) {
        if (!String.valueOf(got).equals(String.valueOf(want))) {
            wrong++;
            System.out.println(sentence + brief(what) + " answered " + brief(got) + ", due is " + brief(want));
        }
    }

    private static String brief(Object what) {
        String text = String.valueOf(what);
        return text.length() <= 200 ? text : text.substring(0, 200) + " .. (" + text.length() + ")";
    }

    /** The last call of each test's main method. */
    static void end() {
        if (wrong > 0) {
            System.exit(1);
        }
    }
}
