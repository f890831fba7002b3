/** Boundary cases of the texts of promise 31, each with the words of the document that name it. */
public final class TextsEdgesTest {
    private static final Checks c = new Checks("TextsEdgesTest");

    public static void main(String[] args) {
        linesOneOrMore();
        theFirstThatCounts();
        digits();
        noBlanks();
        firstBytes();
        bytesBehindAnOperand();
        comparedOnce();
        askedOnce();
        sixOpen();
        sixOpenAtOnce();
        endsTooEarly();
        intsThatWrap();
        towardNought();
        closestSignsFirst();
        oneOrNought();
        c.end();
    }

    private static void text(String text, int weight) {
        OlderSkin x = new OlderSkin();
        c.due("story '" + text + "'", Checks.story(x, text, 0, 1), 0);
        c.due("weight of '" + text + "'", x.odds(0, 0), weight);
    }

    private static void fault(String text, int place) {
        c.due("story '" + text + "'", Checks.story(new OlderSkin(), text, 0, 1), -100 - place);
    }

    private static void linesOneOrMore() {
        c.says("31: LINES, one or more, parted by ;");
        fault("", 0);
        fault(";", 0);
        fault("1;", 2);
        fault(";1", 0);
        fault("1;;2", 2);
        fault("1?2;", 4);
        text("1", 1);
        text("1;2", 1);
        text("0?1;2;3", 2);
        StringBuilder many = new StringBuilder("0?1");
        for (int k = 0; k < 200; k++) {
            many.append(";0?1");
        }
        text(many.toString(), 0);
        text(many.append(";7").toString(), 7);
    }

    private static void theFirstThatCounts() {
        c.says("31: The first LINE without a first E, or whose first E is not 0, counts; none: 0.");
        text("0?5", 0);
        text("0?5;0?6", 0);
        text("1?5;2?6", 5);
        text("-1?5;6", 5);
        text("0?5;0-1?6;7", 6);
        text("0;7", 0);
        text("1?0;7", 0);
        text("0?9;8;7", 8);
        c.says("31: all is worked out");
        text("0?1/0;4", 4);
        text("1|1/0", 1);
        text("0&1/0", 0);
    }

    private static void digits() {
        c.says("31: a number (1 to 4 digits)");
        text("0", 0);
        text("9", 9);
        text("0000", 0);
        text("0009", 9);
        text("9999", 9999);
        fault("00000", 4);
        fault("99999", 4);
        fault("1+12345", 6);
        fault("(00010)", 5);
        fault("1234567", 4);
        text("1+1234", 1235);
    }

    private static void noBlanks() {
        c.says("31: No blanks.");
        String whole = "(1+o)*!r?s/2;-l<9&y|f=a%3";
        c.due("the text itself", Checks.story(new OlderSkin(), whole, 0, 1), 0);
        for (int at = 0; at <= whole.length(); at++) {
            fault(whole.substring(0, at) + " " + whole.substring(at), at);
            fault(whole.substring(0, at) + "\n" + whole.substring(at), at);
            fault(whole.substring(0, at) + "\0" + whole.substring(at), at);
        }
    }

    private static void firstBytes() {
        c.says("31: FAULT: the place (from 0) of the first byte with which no TEXT goes on; the length, if it ends too early");
        for (int b = 0; b < 256; b++) {
            boolean operand = "0123456789orsblyfa".indexOf(b) >= 0;
            boolean opens = "(!-".indexOf(b) >= 0;
            OlderSkin x = new OlderSkin();
            x.feed(1, b);
            c.due("byte " + b + " alone", x.story(0, 1), operand ? 0 : opens ? -101 : -100);
            String[] ahead = {"(", "!", "-", "1+", "o|", "2&", "1<", "s*", "1;", "1?"};
            for (String text : ahead) {
                boolean closes = operand && !text.equals("(");
                int due = closes ? 0 : -100 - text.length() - (operand || opens ? 1 : 0);
                c.due("byte " + b + " behind " + text, Checks.story(new OlderSkin(), text + (char) b, 0, 1), due);
            }
        }
    }

    private static void bytesBehindAnOperand() {
        for (int b = 0; b < 256; b++) {
            boolean joins = "|&<=>+-*/%".indexOf(b) >= 0;
            boolean parts = ";?".indexOf(b) >= 0;
            boolean digit = b >= '0' && b <= '9';
            int due = joins || parts ? -102 : -101;
            c.due("byte " + b + " behind o", Checks.story(new OlderSkin(), "o" + (char) b, 0, 1), due);
            c.due("byte " + b + " behind 1", Checks.story(new OlderSkin(), "1" + (char) b, 0, 1), digit ? 0 : due);
            int within = b == ')' ? 0 : joins ? -103 : -102;
            c.due("byte " + b + " behind (o", Checks.story(new OlderSkin(), "(o" + (char) b, 0, 1), within);
            int behind = joins || parts ? -104 : -103;
            c.due("byte " + b + " behind (o)", Checks.story(new OlderSkin(), "(o)" + (char) b, 0, 1), behind);
            int again = joins || b == ';' ? -104 : -103;
            c.due("byte " + b + " behind o?o", Checks.story(new OlderSkin(), "o?o" + (char) b, 0, 1), again);
            boolean compares = "<=>".indexOf(b) >= 0;
            int compared = compares ? -103 : joins || parts ? -104 : -103;
            c.due("byte " + b + " behind o<o", Checks.story(new OlderSkin(), "o<o" + (char) b, 0, 1), compared);
        }
    }

    private static void comparedOnce() {
        c.says("31: B = S, or S < S, S = S, S > S");
        String signs = "<=>";
        for (char one : signs.toCharArray()) {
            for (char other : signs.toCharArray()) {
                fault("1" + one + "2" + other + "3", 3);
                fault("(1" + one + "2" + other + "3)", 4);
                fault("1" + one + other + "3", 2);
                c.due("apart", Checks.story(new OlderSkin(), "1" + one + "2&1" + other + "3", 0, 1), 0);
                c.due("within", Checks.story(new OlderSkin(), "1" + one + "(1" + other + "3)", 0, 1), 0);
                c.due("of lines", Checks.story(new OlderSkin(), "1" + one + "2;1" + other + "3", 0, 1), 0);
                c.due("on both sides of ?", Checks.story(new OlderSkin(), "1" + one + "2?1" + other + "3", 0, 1), 0);
            }
        }
    }

    private static void askedOnce() {
        c.says("31: LINE: E, or E ? E");
        fault("1?2?3", 3);
        fault("?", 0);
        fault("1?", 2);
        fault("1??2", 2);
        fault("1?;2", 2);
        fault("(1?2)", 2);
        fault("1?2;3?4?5", 7);
        text("1?2;3?4", 2);
    }

    /** Openings drawn from a number, three sorts of them. */
    private static String openings(int number, int many) {
        StringBuilder all = new StringBuilder();
        int left = number;
        for (int k = 0; k < many; k++) {
            all.append("(!-".charAt(left % 3));
            left /= 3;
        }
        return all.toString();
    }

    private static String closings(String openings) {
        StringBuilder all = new StringBuilder();
        for (char ch : openings.toCharArray()) {
            all.append(ch == '(' ? ")" : "");
        }
        return all.toString();
    }

    private static void sixOpen() {
        c.says("31: At most 6 of ( ! - ahead of an O are open at once");
        for (int number = 0; number < 729; number++) {
            String six = openings(number, 6);
            String text = six + "9" + closings(six);
            c.due("story '" + text + "'", Checks.story(new OlderSkin(), text, 0, 1), 0);
            fault(six + "(9", 6);
            fault(six + "!9", 6);
            fault(six + "-9", 6);
        }
    }

    private static void sixOpenAtOnce() {
        text("((((((1))))))+((((((2))))))", 3);
        text("------1-------1", 0);
        text("!!!!!!1+!!!!!!1", 2);
        text("(((((!1+!1+-1+-1)))))+5", 3);
        fault("(((((!1+!!1)))))", 9);
        fault("(((((1+(2+(3))))))", 10);
        text("(((((1+(2+3))))))", 6);
        text("(((((1+(2)+(3)+(4))))))", 10);
        fault("1?-------2", 8);
        text("------1?------2", 2);
        fault("1;-------2", 8);
        text("!(!(!(1)))", 0);
        fault("!(!(!(-1)))", 6);
        fault("!(!(!((1))))", 6);
    }

    private static void endsTooEarly() {
        c.says("31: the length, if it ends too early");
        String whole = "((1+o)*!r?";
        fault(whole, 9);
        String open = "(1+((2*-o)<!(r%3)|4&";
        for (int k = 1; k <= open.length(); k++) {
            fault(open.substring(0, k), k);
        }
        c.due("a fault ahead of the end is told instead", Checks.story(new OlderSkin(), "(1+)(", 0, 1), -103);
    }

    private static void intsThatWrap() {
        c.says("31: Ints that wrap");
        String least = "(0-4096*4096*128)";
        text("(4096*4096*128-1)/9999/100", 2147);
        text("4096*4096*128<0", 1);
        text("(4096*4096*128-1)+1<0", 1);
        text(least + "-1>0", 1);
        text(least + "-1=4096*4096*128-1", 1);
        text("-" + least + "=" + least, 1);
        text("4096*4096*256", 0);
        text("4096*4096*256+7", 7);
        text("9999*9999*9999%1000+1000", 9999 * 9999 * 9999 % 1000 + 1000);
        c.says("31: / and % wrap with the least int by -1");
        text(least + "/-1=" + least, 1);
        text(least + "%-1+6", 6);
    }

    private static void towardNought() {
        c.says("31: / and % toward 0, by 0 they give 0");
        text("7/2", 3);
        text("-7/2+9", 6);
        text("7/-2+9", 6);
        text("-7/-2", 3);
        text("7%3", 1);
        text("-7%3+9", 8);
        text("7%-3", 1);
        text("-7%-3+9", 8);
        text("7/0+4", 4);
        text("7%0+4", 4);
        text("0/0+4", 4);
        text("0%0+4", 4);
        text("-7/(1-1)+4", 4);
        text("7/s+4", 4);
        text("7%b+4", 4);
    }

    private static void closestSignsFirst() {
        c.says("31: E = A { | A }. A = B { & B }. B = S .. S = P { + P, - P }. P = O { * O, / O, % O }.");
        text("1|1&0", 1);
        text("0&1|1", 1);
        text("(1|1)&0", 0);
        text("0&(1|1)", 0);
        text("1<2&2<1", 0);
        text("2&1<2", 1);
        text("1<1+1", 1);
        text("2+1<2", 0);
        text("1+2*3", 7);
        text("2*3+1", 7);
        text("9-2-3", 4);
        text("9-2+3", 10);
        text("99/9/3", 3);
        text("99/9*3", 33);
        text("99%10*3", 27);
        text("-2*3+9", 3);
        text("-2+9", 7);
        text("!0+1", 2);
        text("!0*5", 5);
        text("!2-1+3", 2);
        text("2--1", 3);
        text("1|0|0", 1);
        text("1&1&0", 0);
    }

    private static void oneOrNought() {
        c.says("31: | & < = > ! give 1, 0");
        text("7|0", 1);
        text("0|7", 1);
        text("7|7", 1);
        text("0|0", 0);
        text("-7|0", 1);
        text("7&8", 1);
        text("7&0", 0);
        text("0&7", 0);
        text("-7&-7", 1);
        text("!0", 1);
        text("!1", 0);
        text("!-1", 0);
        text("!9999", 0);
        text("6<7", 1);
        text("7<7", 0);
        text("8<7", 0);
        text("6=7", 0);
        text("7=7", 1);
        text("6>7", 0);
        text("7>7", 0);
        text("8>7", 1);
        text("-1<0", 1);
        text("0>-1", 1);
    }
}
