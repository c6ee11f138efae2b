/** Promises 33 and 34: keep, back. */
public final class ImagesTest {
    private static final String THREE = "plain 9;proud 6;wise 17;game 0 1;game 1 2;game 2 0;";

    private static String told(LoseLeague x) {
        return Check.state(x).replaceAll("count[0123]=\\S+", "").replaceAll(",as seen \\S+", "");
    }

    private static void keepAndBack() {
        LoseLeague x = Check.told(THREE);
        x.weeks(4);
        x.alter(0, 2, 7);
        String first = told(x);
        Check.due("keep(0)", x.keep(0), 0);
        Check.due("keep(0) again", x.keep(0), 1);
        x.alter(0, 0, 3);
        x.alter(1, 3, 50);
        x.strike(1);
        x.book(2, 1);
        x.weeks(7);
        Check.due("keep(1)", x.keep(1), 0);
        String second = told(x);
        Check.due("back(0)", x.back(0), 4);
        Check.same("as it was", told(x), first);
        Check.due("back(1)", x.back(1), 11);
        Check.same("as it was", told(x), second);
        x.weeks(3);
        x.strike(0);
        x.alter(2, 1, 0);
        Check.due("an image stays as it is: back(1)", x.back(1), 11);
        Check.same("as it was", told(x), second);
        Check.due("back(0)", x.back(0), 4);
        Check.same("all fixtures", told(x), first);
        Check.due("two images", x.count(1), 2);
        x.weeks(1);
        Check.due("keep(1) in place of what it was", x.keep(1), 1);
        x.weeks(1);
        Check.due("back(1)", x.back(1), 5);
    }

    private static void whatStays() {
        LoseLeague x = Check.told(THREE);
        x.keep(0);
        x.see(0, 9);
        x.sheet(0, 0, 3);
        Check.feed(x, "ab");
        Check.due("back(0)", x.back(0), 0);
        Check.due("seen stays", x.count(0), 1);
        Check.due("the tape stays", x.count(2), 2);
        Check.due("sheets stay", x.count(3), 3);
        Check.due("images stay", x.count(1), 1);
    }

    private static void refused() {
        LoseLeague x = Check.told(THREE);
        Check.due("back(0)", x.back(0), -2);
        for (int k : new int[] {-1, 2, Integer.MIN_VALUE, Integer.MAX_VALUE}) {
            Check.due("keep(" + k + ")", x.keep(k), -1);
            Check.due("back(" + k + ")", x.back(k), -1);
        }
        Check.due("none", x.count(1), 0);
        x.keep(1);
        Check.due("back(0)", x.back(0), -2);
        Check.tell(x, "dog");
        Check.due("behind a text that is refused", x.back(1), 0);
        Check.tell(x, "plain 3;");
        Check.due("behind one that is taken", x.back(1), -2);
        Check.due("keep(1)", x.keep(1), 0);
        LoseLeague none = new LoseLeague();
        Check.due("keep(0) of nothing", none.keep(0), 0);
        none.weeks(6);
        Check.due("back(0) to nothing", none.back(0), 0);
        Check.due("the week", none.rule(2), 0);
    }

    public static void main(String[] args) {
        keepAndBack();
        whatStays();
        refused();
        Check.finish("ImagesTest");
    }
}
