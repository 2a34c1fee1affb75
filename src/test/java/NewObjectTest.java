/** Promises 1 to 4: a new object, status, top, bottom. */
final class NewObjectTest {
    private static final Check CHECK = new Check();

    public static void main(String[] args) {
        nothingIsThere();
        statusIsOfTheLatestCallThatHasOne();
        fractionsStayAndAreReduced();
        CHECK.end("NewObjectTest");
    }

    private static void nothingIsThere() {
        TalkChutes x = new TalkChutes();
        CHECK.due("NONE", TalkChutes.NONE, -1);
        CHECK.due("status()", x.status(), 0);
        CHECK.due("top()", x.top(), 0);
        CHECK.due("bottom()", x.bottom(), 1);
        CHECK.due("fault(0)", x.fault(0), -1);
        CHECK.due("fault(1)", x.fault(1), -1);
        for (int tray = 0; tray < 4; tray++) {
            CHECK.refused("read", x, x.read(tray, 0), 3);
        }
        int[] due = {0, 0, 0, 0, 4, 0, 0, 0, 0, 0};
        for (int what = 0; what < due.length; what++) {
            CHECK.given("many(" + what + ")", x, x.many(what), due[what]);
        }
        CHECK.refused("live", x, x.live(0), 8);
        CHECK.refused("back", x, x.back(), 8);
        CHECK.refused("table(1)", x, x.table(1), 5);
        CHECK.given("table(0)", x, x.table(0), 0);
    }

    private static void statusIsOfTheLatestCallThatHasOne() {
        TalkChutes x = new TalkChutes();
        x.many(10);
        CHECK.due("status", x.status(), 5);
        x.fault(0);
        x.fault(7);
        x.feed(0, 0, 0, 0, 0);
        x.top();
        x.bottom();
        CHECK.due("status stays", x.status(), 5);
        CHECK.due("status stays again", x.status(), 5);
        x.many(0);
        CHECK.due("status 0", x.status(), 0);
    }

    private static void fractionsStayAndAreReduced() {
        TalkChutes x = Check.withTable(Check.TABLE);
        CHECK.fraction("chutes(2)", x, x.chutes(2), 3, 4);
        CHECK.refused("chutes(7)", x, x.chutes(7), 5);
        CHECK.due("top() stays", x.top(), 3);
        CHECK.due("bottom() stays", x.bottom(), 4);
        x.prop(1);
        CHECK.due("top() stays", x.top(), 3);
        CHECK.fraction("chutes(3)", x, x.chutes(3), 0, 1);
        CHECK.fraction("chutes(0)", x, x.chutes(0), 1, 1);
    }
}
