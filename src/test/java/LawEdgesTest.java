/** The boundary cases of THE LAW's text (promise 7, section 1): a test for each sentence, told by hand. */
public final class LawEdgesTest {
    public static void main(String[] args) {
        Checks.edge("THE LAW is a TEXT by THE TAPE (at most 120 bytes)", LawEdgesTest::longestText);
        Checks.edge("THE TAPE becomes THE LAW (no FAULT)", LawEdgesTest::lawStays);
        Checks.edge("THE TAPE becomes THE LAW, whatever was on it before", LawEdgesTest::readAnew);
        Checks.edge("LINES, one or more, parted by ;", LawEdgesTest::lines);
        Checks.edge("LINE: E, or E ? E", LawEdgesTest::askedOnce);
        Checks.edge("E = A { | A }. A = B { & B }.", LawEdgesTest::oneOrMore);
        Checks.edge("B = S, or S < S, S = S, S > S.", LawEdgesTest::comparedOnce);
        Checks.edge("a number (1 to 4 digits)", LawEdgesTest::digits);
        Checks.edge("O = ... a NAME, ! O, - O, ( E )", LawEdgesTest::firstByte);
        Checks.edge("S = P { + P, - P }. P = O { * O, / O, % O }.", LawEdgesTest::secondByte);
        Checks.edge("No blanks.", LawEdgesTest::noBlanks);
        Checks.edge("At most 6 of ( ! - ahead of an O are open at once.", LawEdgesTest::openAtOnce);
        Checks.edge("(are open) at once", LawEdgesTest::closedAgain);
        Checks.edge("FAULT: the place (from 0) of the first byte with which no TEXT goes on", LawEdgesTest::firstFault);
        Checks.edge("FAULT: the length, if it ends too early", LawEdgesTest::endsTooEarly);
        Checks.edge("law: 1; -100 less its FAULT", LawEdgesTest::answers);
        Checks.edge("NAMES: a HEIGHT of one ahead, b the own HEIGHT", LawEdgesTest::heightsAtTheEdges);
        Checks.edge("g how many PLACES the one is ahead (1 on)", LawEdgesTest::placesAhead);
        Checks.edge("p, q the numbers of these two", LawEdgesTest::numbersOfTheTwo);
        Checks.edge("Ints that wrap", LawEdgesTest::wraps);
        Checks.edge("/ and % toward 0", LawEdgesTest::towardNought);
        Checks.edge("/ and % ... by 0 they give 0", LawEdgesTest::byNought);
        Checks.edge("| & < = > ! give 1, 0", LawEdgesTest::givesOneOrNought);
        Checks.edge("which of a row of signs is worked out first", LawEdgesTest::binding);
        Checks.edge("The first LINE without a first E, or whose first E is not 0, counts", LawEdgesTest::firstLine);
        Checks.edge("none: 0", LawEdgesTest::noLine);
        Checks.edge("Not 0: that one counts.", LawEdgesTest::notNought);
        Checks.end("sentences on the law's text hold at their edges");
    }

    private static void due(String call, long got, long want) {
        Checks.due(call, got, want);
    }

    /** The text is a law. */
    private static void right(String text) {
        due("law " + text, Checks.tell(new TallerAhead(), text), 1);
    }

    private static void fault(String text, int place) {
        due("law " + text, Checks.tell(new TallerAhead(), text), -100 - place);
    }

    /** Whether the one at PLACE 0 (the person 0, 40 tall) counts for the next one (1, 20 tall). */
    private static void counts(String text, boolean does) {
        TallerAhead x = Checks.street(40, 20);
        due("law " + text, Checks.tell(x, text), 1);
        due("worth of " + text, x.disquiet(0), does ? 1 : 0);
    }

    /** What the text is worth, whole. */
    private static void worth(String text, int value) {
        String told = value < 0 ? "-" + -(long) value : String.valueOf(value);
        counts("(" + text + ")=" + told, true);
        counts("!((" + text + ")=" + told + ")", false);
    }

    private static String times(String part, int n) {
        StringBuilder all = new StringBuilder();
        for (int k = 0; k < n; k++) {
            all.append(part);
        }
        return all.toString();
    }

    private static void longestText() {
        right(times("1+", 59) + "1");
        right(times("1+", 59) + "10");
        right("1" + times(";1", 59) + "0");
        right("a>b" + times("|a", 57) + "|99");
        fault("1" + times("+1", 59) + "+", 120);
        fault("1" + times("+1", 59) + "a", 119);
        counts("-1" + times("+1", 59), true);
        counts("-1" + times("+0", 58) + "+1", false);
        counts("-1" + times("&1", 59), true);
        counts("!1" + times("|0", 59), false);
        counts("!0" + times("*1", 59), true);
        TallerAhead x = Checks.street(40, 20);
        Checks.feedAll(x, times("0+", 59) + "00");
        due("one byte more", x.feed('1'), -3);
        due("without it", x.law(), 1);
        due("worth", x.disquiet(0), 0);
        TallerAhead y = Checks.street(40, 20);
        Checks.feedAll(y, times("0?1;", 29) + "0000");
        due("thirty lines", y.law(), 1);
        due("the last one's worth", y.disquiet(0), 0);
        TallerAhead z = Checks.street(40, 20);
        Checks.feedAll(z, times("0?1;", 29) + "0001");
        due("thirty lines", z.law(), 1);
        due("the last one's worth", z.disquiet(0), 1);
    }

    private static void lawStays() {
        TallerAhead x = Checks.street(40, 20, 30);
        Checks.tell(x, "a<b");
        for (String text : new String[] {"", "x", ";", "1x", "1;", "1>", "(1", "1?", "12345", "1?1?", "1;1;x"}) {
            due("law " + text, Checks.tell(x, text) <= -100 ? 1 : 0, 1);
            due("the law stays behind " + text, x.disquiet(0), 1);
        }
        Checks.tell(x, "1");
        due("a new law", x.disquiet(0), 3);
        TallerAhead y = Checks.street(40, 20, 30);
        Checks.tell(y, "x");
        Checks.tell(y, "0>");
        due("none stays none", y.disquiet(0), 2);
    }

    /** What a text left open is closed with it. */
    private static void readAnew() {
        String[] left = {"((((((", "!!!!!!", "------", "5*(", "0&(", "5*", "0&", "1?", "1?1?", "0?0;0?", "(a)", "1;", "0*(a+(b", "1*1*x", ""};
        String[][] behind = {
            {"((((((1))))))", "1"}, {"!!!!!!1", "1"}, {"1?1", "1"}, {"1", "1"}, {"2-1", "1"}, {"0?1;1", "1"}, {"0", "0"}, {"1)", "-101"},
            {"(1)", "1"}, {"1?1?1", "-103"}, {"?1", "-100"}, {"1=1", "1"}, {"1=1=1", "-103"}, {"+1", "-100"}, {")", "-100"},
        };
        for (String one : left) {
            for (String[] other : behind) {
                TallerAhead x = Checks.street(20, 40);
                Checks.tell(x, one);
                int answer = Checks.tell(x, other[0]);
                int worth = Integer.parseInt(other[1]);
                due(other[0] + " behind " + one, answer, worth < 0 ? worth : 1);
                if (worth >= 0) {
                    due("worth of " + other[0] + " behind " + one, x.disquiet(0), worth);
                }
            }
        }
    }

    private static void lines() {
        fault("", 0);
        fault(";", 0);
        fault(";a", 0);
        fault("a;", 2);
        fault("a;;b", 2);
        fault("a?b;", 4);
        right("a");
        right("a;b");
        right("a?b;g?p;q");
        fault("(a;b)", 2);
        fault("!;", 1);
    }

    private static void askedOnce() {
        right("a?b");
        fault("a?b?g", 3);
        fault("a??b", 2);
        fault("?b", 0);
        fault("a?", 2);
        fault("a?;b", 2);
        right("a?b;g?p");
        right("a;g?p");
        fault("a;g?p?q", 5);
        fault("(a?b)", 2);
        right("(a)?(b)");
        fault("a?(b?g)", 4);
    }

    private static void oneOrMore() {
        right("a|b|g|p|q");
        right("a&b&g&p&q");
        right("a|b&g|p&q");
        right("a>b&a=g|g<p");
        fault("a||b", 2);
        fault("a&&b", 2);
        fault("|a", 0);
        fault("&a", 0);
        fault("a|", 2);
        fault("a&", 2);
        fault("a|&b", 2);
    }

    private static void comparedOnce() {
        for (char one : "<=>".toCharArray()) {
            right("a" + one + "b");
            fault("a" + one, 2);
            fault(one + "a", 0);
            for (char other : "<=>".toCharArray()) {
                fault("a" + one + "b" + other + "g", 3);
                fault("a" + one + other + "b", 2);
                fault("a+b*2" + one + "g%3-1" + other + "p", 11);
                fault("(a" + one + "b" + other + "g)", 4);
                right("a" + one + "b&p" + other + "q");
                right("a" + one + "b|p" + other + "q");
                right("a" + one + "b?p" + other + "q");
                right("a" + one + "b;p" + other + "q");
                right("(a" + one + "b)" + other + "g");
                right("a" + one + "(b" + other + "g)");
                fault("(a" + one + "b)" + other + "g" + one + "p", 7);
            }
        }
    }

    private static void digits() {
        right("0");
        right("12");
        right("123");
        right("9999");
        right("0000");
        fault("12345", 4);
        fault("00000", 4);
        fault("a+10000", 6);
        right("1234+1234");
        fault("1a", 1);
        fault("a1", 1);
        fault("12 34", 2);
        fault("1(2)", 1);
        worth("9999", 9999);
        worth("0009", 9);
        worth("0010", 10);
    }

    /** Each byte on a TAPE of its own. */
    private static void firstByte() {
        for (int letter = 0; letter < 256; letter++) {
            TallerAhead x = new TallerAhead();
            x.feed(letter);
            int want = -100;
            if ("abgpq0123456789".indexOf(letter) >= 0) {
                want = 1;
            } else if ("(!-".indexOf(letter) >= 0) {
                want = -101;
            }
            due("law of the byte " + letter, x.law(), want);
        }
    }

    /** Each byte behind an O, and behind a ( . */
    private static void secondByte() {
        for (int letter = 0; letter < 256; letter++) {
            TallerAhead x = new TallerAhead();
            x.feed('a');
            x.feed(letter);
            due("law of a and the byte " + letter, x.law(), "|&<=>+-*/%?;".indexOf(letter) >= 0 ? -102 : -101);
            x.feed('(');
            x.feed(letter);
            boolean goesOn = "abgpq0123456789(!-".indexOf(letter) >= 0;
            due("law of ( and the byte " + letter, x.law(), goesOn ? -102 : -101);
        }
    }

    private static void noBlanks() {
        fault(" a", 0);
        fault("a ", 1);
        fault("a >b", 1);
        fault("a> b", 2);
        fault("a;\nb", 2);
        fault("a\t", 1);
    }

    private static void openAtOnce() {
        for (char one : "!-".toCharArray()) {
            right(times("" + one, 6) + "a");
            fault(times("" + one, 7) + "a", 6);
            fault(times("" + one, 7), 6);
            right(times("" + one, 5) + "(a)");
            fault(times("" + one, 6) + "(a)", 6);
        }
        right("((((((a))))))");
        fault("(((((((a)))))))", 6);
        right("(((((!a)))))");
        fault("((((((-a))))))", 6);
        right("!-(!-(a))");
        fault("!-(!-((a)))", 6);
        right("(!-(!-a))");
        fault("(!-(!-!a))", 6);
        right("a-b-g-p-q-a-b-g-p-q");
        right("a--b");
        right("a-!-b");
        right("((((((a-b-g))))))");
        fault("((((((a-b--g))))))", 10);
    }

    private static void closedAgain() {
        right("!!!!!!a&!!!!!!b");
        right("((((((a))))))+((((((b))))))");
        right("(!!!!!a)&(!!!!!b)");
        right("!!!!!(a&b)&!!!!!!g");
        fault("!!!!!(a&!b)", 8);
        right("!!!!(a&!b)");
        fault("!!!!(a&!!b)", 8);
        right("!!!!!(a)+(b)");
        right("(!-(!-a)&!(!a))");
        right("(((((!a-!b)))))");
        fault("(((((!a-!-b)))))", 9);
        right("((((((a)&(b))))))");
        right("------a;------b");
        right("------a?------b");
        fault("(!!!!!a&-----b&------g)", 20);
    }

    private static void firstFault() {
        fault("x", 0);
        fault("xy", 0);
        fault("A", 0);
        fault("aa", 1);
        fault("ab>", 1);
        fault("a)", 1);
        fault("()", 1);
        fault("(a))", 3);
        fault("a!b", 1);
        fault("a~b", 1);
        fault("~a", 0);
        fault("a+*b", 2);
        fault("a(b)", 1);
        fault("(a)b", 3);
        fault("(a)(b)", 3);
        fault("!)", 1);
        fault("a>b;c", 4);
        fault("a\u00ff", 1);
        fault("\u00ffa", 0);
        fault("\u0000", 0);
    }

    private static void endsTooEarly() {
        for (String text : new String[] {"(", "!", "-", "(a", "((a)", "a+", "a-", "a*", "a/", "a%", "a<", "a=", "a>", "a|", "a&", "a?", "a;",
            "a?b;", "a+(", "a+!", "(a+b", "!(a", "a;b;", "1234+", "a>b&"}) {
            fault(text, text.length());
        }
    }

    private static void answers() {
        due("no text", new TallerAhead().law(), -100);
        due("the last byte of the longest", Checks.tell(new TallerAhead(), times("1+", 59) + "1x"), -219);
        due("the longest ends too early", Checks.tell(new TallerAhead(), times("1+", 60)), -220);
        due("a text", Checks.tell(new TallerAhead(), "a"), 1);
    }

    private static void heightsAtTheEdges() {
        TallerAhead x = Checks.street(99, 1);
        Checks.tell(x, "a=99&b=1");
        due("tallest and smallest", x.disquiet(0), 1);
        x.swap(0);
        due("the other way", x.disquiet(0), 0);
        Checks.tell(x, "a=1&b=99");
        due("told so", x.disquiet(0), 1);
        x.mend(0, 98);
        due("mended", x.disquiet(0), 0);
        x.grow(0, 1);
        due("grown", x.disquiet(0), 1);
    }

    private static void placesAhead() {
        TallerAhead x = Checks.nine();
        int[] pairs = {0, 8, 7, 6, 5, 4, 3, 2, 1, 0};
        for (int g = 0; g < pairs.length; g++) {
            Checks.tell(x, "g=" + g);
            due("pairs " + g + " places from one another", x.disquiet(0), pairs[g]);
        }
        Checks.tell(x, "g<1|g>8");
        due("no others", x.disquiet(0), 0);
    }

    private static void numbersOfTheTwo() {
        TallerAhead x = Checks.nine();
        Checks.tell(x, "p=0&q=8");
        due("the first and the last one", x.disquiet(0), 1);
        due("who is ahead counts", x.of(8, 2), 1);
        Checks.tell(x, "p=8|q=0");
        due("the last one ahead, the first one behind", x.disquiet(0), 0);
        Checks.tell(x, "p=q|p<0|q<0|p>8|q>8");
        due("none else", x.disquiet(0), 0);
        x.leave(0);
        Checks.tell(x, "p=1&q=2");
        due("numbers are no PLACES", x.of(0, 11) + 10 * x.of(1, 11), 10);
    }

    private static void wraps() {
        // 2 to the 31st is the least int.
        counts("8192*8192*32<0", true);
        counts("8192*8192*32-1>0", true);
        counts("8192*8192*32-1+1<0", true);
        counts("-(8192*8192*32)<0", true);
        counts("-(8192*8192*32)=8192*8192*32", true);
        counts("8192*8192*32/-1=8192*8192*32", true);
        counts("8192*8192*32%-1", false);
        counts("8192*8192*64", false);
        counts("8192*8192*64+1", true);
        counts("8192*8192*32<8192*8192*32-1", true);
        worth("9999*9999*9999%9973", 9999 * 9999 * 9999 % 9973);
        worth("9999*9999*9999/9999/100", 9999 * 9999 * 9999 / 9999 / 100);
    }

    private static void towardNought() {
        worth("7/2", 3);
        worth("-7/2", -3);
        worth("7/-2", -3);
        worth("-7/-2", 3);
        worth("7%2", 1);
        worth("-7%2", -1);
        worth("7%-2", 1);
        worth("-7%-2", -1);
        worth("1/2", 0);
        worth("-1/2", 0);
        worth("(0-7)/2", -3);
        worth("-(7/2)", -3);
    }

    private static void byNought() {
        worth("5/0", 0);
        worth("5%0", 0);
        worth("0/0", 0);
        worth("0%0", 0);
        worth("-5/0", 0);
        worth("8192*8192*32/0", 0);
        worth("8192*8192*32%0", 0);
        worth("5/0*3+1", 1);
        worth("a/(b-20)", 0);
        worth("a%(b-20)", 0);
        counts("1|5/0", true);
        counts("0&5/0", false);
    }

    private static void givesOneOrNought() {
        worth("5|7", 1);
        worth("0|7", 1);
        worth("7|0", 1);
        worth("0|0", 0);
        worth("-1|0", 1);
        worth("5&2", 1);
        worth("5&0", 0);
        worth("0&5", 0);
        worth("0&0", 0);
        worth("!5", 0);
        worth("!-1", 0);
        worth("!0", 1);
        worth("!!5", 1);
        worth("1<2", 1);
        worth("2<2", 0);
        worth("2<1", 0);
        worth("-1<0", 1);
        worth("2=2", 1);
        worth("2=3", 0);
        worth("2>1", 1);
        worth("2>2", 0);
        worth("1>2", 0);
    }

    private static void binding() {
        worth("10-4-3", 3);
        worth("10-4+3", 9);
        worth("100/5/2", 10);
        worth("100/5*2", 40);
        worth("100%7%2", 0);
        worth("1+2*3", 7);
        worth("(1+2)*3", 9);
        worth("1+4/2", 3);
        worth("7-5%3", 5);
        worth("-2+3", 1);
        worth("-2*3", -6);
        worth("--2", 2);
        worth("3--2", 5);
        worth("!0+5", 6);
        worth("!(0+5)", 0);
        worth("!0*5", 5);
        worth("-!0", -1);
        worth("!-0", 1);
        worth("1|0&0", 1);
        worth("(1|0)&0", 0);
        worth("0&0|1", 1);
        worth("1+1=2&3", 1);
        worth("1&2=2", 1);
        worth("2=1|1", 1);
        worth("2=(1|1)", 0);
        worth("1<1+1", 1);
        worth("0<1&2", 1);
        worth("(2>1)=1", 1);
    }

    private static void firstLine() {
        counts("1;0", true);
        counts("0;1", false);
        counts("0?1;0;1", false);
        counts("1?0;1", false);
        counts("0?0;1?1;0", true);
        counts("0?1;1?0;1", false);
        counts("-1?1;0", true);
        counts("8192*8192*32?1;0", true);
        counts("a>b?1", true);
        counts("a<b?0;1", true);
        counts("0|0?1;0|0", false);
        counts("0|1?1;0", true);
        counts("0|0?0;0|1", true);
        counts("0|0;1", false);
        counts("1?0|0;1", false);
        counts("1?a-b-20;1", false);
        counts("a-b-20?1;0", false);
    }

    private static void noLine() {
        counts("0?1", false);
        counts("0?1;0?1", false);
        counts("a<b?1;a-b-20?1", false);
        counts("5/0?1", false);
    }

    private static void notNought() {
        counts("1", true);
        counts("2", true);
        counts("9999", true);
        counts("-1", true);
        counts("8192*8192*32", true);
        counts("0", false);
        counts("0000", false);
        counts("-0", false);
        counts("a-b-20", false);
        counts("a-b-21", true);
        counts("1?-1", true);
    }
}
