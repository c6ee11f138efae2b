/** Promises 27 to 31: see, forget, kinds, strengths, ask. */
public final class SeenTest {
    private static final int ALL = (1 << 21) - 1;

    private static void seeAndForget() {
        LoseLeague x = Check.told("plain 5;plain 3;game 0 1;");
        Check.due("see(-1, 0)", x.see(-1, 0), -1);
        Check.due("see(21, 0)", x.see(21, 0), -1);
        for (int t : new int[] {-4, -1, 2, 4, 5, 8, 10}) {
            Check.due("see(0, " + t + ")", x.see(0, t), -1);
        }
        Check.due("refused", x.count(0), 0);
        Check.due("forget(0)", x.forget(0), 0);
        Check.due("forget(1)", x.forget(1), -1);
        Check.due("see(0, 0)", x.see(0, 0), 1);
        Check.due("see(20, 1)", x.see(20, 1), 2);
        Check.due("see(20, 9)", x.see(20, 9), 3);
        for (int n = 4; n <= 6; n++) {
            Check.due("see, the " + n + ".", x.see(3, 9), n);
        }
        Check.due("see, the 7th", x.see(3, 9), -3);
        Check.due("BAD ahead of FULL", x.see(3, 2), -1);
        Check.due("forget(7)", x.forget(7), -1);
        Check.due("forget(-1)", x.forget(-1), -1);
        Check.due("forget(6)", x.forget(6), 6);
        Check.due("forget(2)", x.forget(2), 6);
        Check.due("they are", x.count(0), 2);
        Check.due("see, the 3rd", x.see(3, 9), 3);
        LoseLeague none = new LoseLeague();
        Check.due("nobody, without towns", none.see(0, 9), 1);
        Check.due("a town, without towns", none.see(0, 0), -1);
    }

    private static void kinds() {
        LoseLeague x = Check.told("plain 5;plain 3;game 0 1;");
        Check.due("nothing is seen", x.kinds(1), 15);
        x.see(0, 1);
        Check.due("3, 6, 1, 0 by 5", x.kinds(1), 13);
        Check.due("5, 8, 2, 0 by 3", x.kinds(0), 3);
        x.see(0, 9);
        Check.due("both can not be", x.kinds(1), 0);
        x.forget(0);
        x.see(0, 9);
        x.alter(1, 1, 2);
        Check.due("2, 5, 1, 0 by 5", x.kinds(1), 2);
        Check.due("kinds(2)", x.kinds(2), -1);
        Check.due("kinds(-1)", x.kinds(-1), -1);
        Check.due("nothing is changed", x.town(1, 0) + x.rule(2), 0);
    }

    private static void strengths() {
        LoseLeague x = Check.told("plain 5;plain 3;game 0 1;");
        Check.due("nothing is seen", x.strengths(0), ALL);
        x.see(0, 1);
        Check.due("below 5", x.strengths(1), 31);
        Check.due("above 3", x.strengths(0), ALL - 15);
        x.forget(0);
        x.see(1, 9);
        Check.due("as much, or 2 apart a week ahead", x.strengths(1), 1 << 3 | 1 << 5 | 1 << 7);
        x.weeks(1);
        Check.due("counted from the week that it is", x.strengths(1), 1 << 2 | 1 << 4 | 1 << 6);
        x.see(0, 1);
        Check.due("all of them", x.strengths(1), 1 << 2);
        x.see(0, 0);
        Check.due("both can not be", x.strengths(1), 0);
        Check.due("strengths(2)", x.strengths(2), -1);
        Check.due("strengths(-1)", x.strengths(-1), -1);
        Check.due("nothing is changed", x.town(1, 1) * 10 + x.rule(2), 41);
    }

    /** By then even differences are a draw; of the odd ones every second is 1 ahead, the others 1 behind. */
    private static void theLastWeek() {
        LoseLeague x = Check.told("plain 5;plain 3;game 0 1;");
        x.see(20, 9);
        int odd = 0;
        for (int s = 1; s <= 19; s += 2) {
            odd |= 1 << s;
        }
        Check.due("week 20", x.strengths(1), odd);
        Check.due("kinds: 3 by 5 alone ends even", x.kinds(1) & 1, 1);
    }

    private static void withoutFixtures() {
        LoseLeague x = Check.told("plain 5;plain 3;");
        x.see(4, 9);
        Check.due("nobody ever loses", x.strengths(0), ALL);
        Check.due("nobody ever loses", x.kinds(0), 15);
        Check.due("nothing to be told apart", x.ask(0, 0), -4);
        x.see(4, 1);
        Check.due("nobody ever loses", x.strengths(0), 0);
        Check.due("nobody ever loses", x.kinds(0), 0);
        Check.due("none are left", x.ask(0, 1), -4);
    }

    private static void ask() {
        LoseLeague x = Check.told("plain 5;plain 3;game 0 1;");
        x.see(0, 1);
        // 0 to 4 are left: week 0 tells nothing; week 1: 1 loses by 0, 1, 2; week 2: by 0, 4, a draw by 1, 3
        Check.due("ask(1, 0)", x.ask(1, 0), 2);
        Check.due("ask(1, 1)", x.ask(1, 1), 2);
        x.see(2, 9);
        // 1 and 3 are left: week 1 tells them apart
        Check.due("ask(1, 0)", x.ask(1, 0), 1);
        Check.due("ask(1, 1)", x.ask(1, 1), 1);
        x.see(1, 9);
        Check.due("one is left", x.strengths(1), 8);
        Check.due("ask(1, 0)", x.ask(1, 0), -4);
        Check.due("ask(1, 1)", x.ask(1, 1), -4);
        Check.due("ask(2, 0)", x.ask(2, 0), -1);
        Check.due("ask(-1, 0)", x.ask(-1, 0), -1);
        Check.due("ask(0, 2)", x.ask(0, 2), -1);
        Check.due("ask(0, -1)", x.ask(0, -1), -1);
        Check.due("nothing is changed", x.count(0) * 10 + x.rule(2), 30);
        x.see(0, 1);
        x.see(0, 1);
        x.forget(1);
        x.see(0, 1);
        x.see(0, 1);
        x.see(0, 1);
        x.see(0, 1);
        x.see(0, 1);
        Check.due("no more may be seen, it is asked all the same", x.ask(1, 0), 2);
    }

    private static void askThisWeek() {
        LoseLeague x = Check.told("plain 5;plain 3;game 0 1;");
        x.see(1, 9);
        // 3, 5, 7 are left: 1 loses, nobody does, 0 loses
        Check.due("ask(1, 0)", x.ask(1, 0), 0);
        Check.due("ask(1, 1)", x.ask(1, 1), 1);
        x = Check.told("plain 5;plain 1;plain 1;plain 1;plain 3;game 4 0;");
        x.see(1, 9);
        Check.due("strengths(4)", x.strengths(4), 1 << 3 | 1 << 5 | 1 << 7);
        Check.due("the fifth is not nobody: ask(4, 0)", x.ask(4, 0), 0);
        Check.due("ask(4, 1)", x.ask(4, 1), 1);
    }

    /** A game every tenth week: the last week that may be looked at is 20. */
    private static void askTheLast() {
        LoseLeague x = Check.told("plain 1;plain 1;plain 9;plain 9;game0 1;game2 3;game2 3;game2 3;game2 3;game2 3;game2 3;game2 3;game2 3;game2 3;");
        x.see(0, 2);
        Check.due("2 and 3 do not play yet", x.strengths(0), 0);
        x.forget(0);
        x.see(0, 0);
        x.see(10, 0);
        Check.due("none is below 1 by so much", x.strengths(0), 0);
        x.alter(1, 1, 20);
        // below 20, then below 20 by more than 2: 0 to 17 are left; week 20: 16 draws, 17 wins
        Check.due("0 to 17", x.strengths(0), (1 << 18) - 1);
        Check.due("ask(0, 0)", x.ask(0, 0), 20);
        Check.due("ask(0, 1)", x.ask(0, 1), 16);
    }

    public static void main(String[] args) {
        seeAndForget();
        kinds();
        strengths();
        theLastWeek();
        withoutFixtures();
        ask();
        askThisWeek();
        askTheLast();
        Check.finish("SeenTest");
    }
}
