/** Promise 2. */
public final class TypeTest {
    public static void main(String[] args) {
        lowestFirst();
        wrongCounts();
        limit();
        emptied();
        Check.end();
    }

    private static void lowestFirst() {
        MergeDesk desk = new MergeDesk();
        Check.same("type 3", desk.type(0xFFFFFFFFFF636261L, 3), true);
        Check.same("type 8", desk.type(0x8070605040302010L, 8), true);
        Check.same("compile", desk.compile(), 0);
        Check.same("merge", desk.merge(), 11);
        int[] want = {0x61, 0x62, 0x63, 0x10, 0x20, 0x30, 0x40, 0x50, 0x60, 0x70, 0x80};
        for (int i = 0; i < want.length; i++) {
            Check.same("out " + i, desk.out(i), want[i]);
        }
    }

    private static void wrongCounts() {
        Desk desk = new Desk();
        int[] counts = {0, -1, 9, Integer.MAX_VALUE, Integer.MIN_VALUE};
        for (int n : counts) {
            Check.same("type " + n, desk.type(0x61, n), false);
        }
        Check.same("nothing was typed", desk.merged(""), "");
    }

    private static void limit() {
        Desk desk = new Desk();
        desk.write("x".repeat(595));
        Check.same("six more than 594", desk.type(0, 6), false);
        Check.same("600 in all", desk.type(0, 5), true);
        Check.same("601", desk.type(0, 1), false);
        Check.same("too long a template", desk.compile(""), 501);
        Check.same("then there is room", desk.type(0, 8), true);
    }

    private static void emptied() {
        Desk desk = new Desk();
        desk.write("q r");
        desk.drop(0, 0);
        desk.merge();
        desk.number(0, 0, 0);
        desk.out(3);
        desk.about(9);
        desk.size();
        Check.same("calls that don't take the text leave it", desk.table(""), 0);
        Check.same("table took it", desk.merged(""), "");
        desk.table("?");
        Check.same("table that throws took it", desk.merged(""), "");
        desk.record(7, "1");
        Check.same("record that throws took it", desk.merged(""), "");
        desk.cell(7, 0, 0, "1");
        Check.same("cell that throws took it", desk.merged(""), "");
        desk.variable("zz");
        Check.same("variable that throws took it", desk.merged(""), "");
        desk.compile("{");
        Check.same("compile that fails took it", desk.merged(""), "");
    }
}
