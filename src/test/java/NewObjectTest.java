/** Promise 1. */
public final class NewObjectTest {
    public static void main(String[] args) {
        Desk desk = new Desk();
        for (int what = 0; what <= 4; what++) {
            Check.same("about " + what, desk.about(what), 0);
        }
        Check.same("size", desk.size(), 0);
        Check.same("out 0", desk.out(0), Desk.INDEX);
        Check.same("merge", desk.merge(), Desk.STATE);
        Check.same("number", desk.number(0, 0, 0), Desk.INDEX);
        Check.same("drop", desk.drop(0, 0), Desk.INDEX);
        Check.same("variable without a name", desk.variable(""), Desk.NONE);
        Check.same("an empty text is no table", desk.table(""), Desk.ARGUMENT);
        Check.same("an empty text is a template", desk.compile(""), 0);
        Check.same("merge of nothing", desk.merge(), 0);
        Desk other = new Desk();
        desk.table("a b");
        Check.same("objects share nothing", other.about(0), 0);
        Check.end();
    }
}
