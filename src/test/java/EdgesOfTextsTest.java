/** Terms 1 (THE TAPE, TOKENS, TEXT, FAULT, TEXTS, takes, goes, worth) and promises 6 to 8: a test for each bound. */
public final class EdgesOfTextsTest {
  private static final int FAULT = -100;

  public static void main(String[] args) {
    tapeSize();
    tokensAsLongAsCanBe();
    wordsOfLetters();
    fourDigits();
    signs();
    blanks();
    threeParts();
    orAnd();
    denied();
    oneComparison();
    sums();
    terms();
    ones();
    keysAndNames();
    wrapping();
    deepest();
    truths();
    faultAtFirstToken();
    faultAtEnd();
    faultByByte();
    faultByWord();
    faultByNumber();
    fiveOpen();
    bracketTillItsEnd();
    minusTillItsOne();
    notTillItsNot();
    sixTexts();
    feed();
    text();
    textFull();
    force();
    hereAndThere();
    same();
    numberFileDay();
    takesNotZero();
    goesBounds();
    goesNames();
    worthBounds();
    worthNames();
    firstRule();
    Due.end();
  }

  private static final String WHOLE = "takes 1;goes 1;worth 1;";

  private static String many(String s, int n) {
    return s.repeat(n);
  }

  private static void text(String text, int due) {
    InTheOldOne x = new InTheOldOne();
    Due.due("text() of <" + text.replace('\n', '|') + ">", Due.text(x, text), due);
    Due.due("count(3) behind it", x.count(3), due > 0 ? 2 : 1);
    Due.due("count(4) behind it", x.count(4), 0);
  }

  /** An E that can stand where takes begins. */
  private static void fine(String e) {
    text("takes " + e + ";goes 1;worth 1;", 1);
  }

  /** An E that can't: the place of the FAULT in it. */
  private static void fault(String e, int at) {
    text("takes " + e + ";goes 1;worth 1;", FAULT - 6 - at);
  }

  private static void goes(String e, int due) {
    Due.due("told(0, 8) by goes " + e, Due.goes(e), due);
  }

  private static void tapeSize() {
    Due.of("A TEXT is read from THE TAPE (160 bytes at most)");
    int rest = 160 - WHOLE.length();
    text(WHOLE + many(" ", rest), 1);
    text(many(" ", rest) + WHOLE, 1);
    text(many("\n", rest) + WHOLE + "!", 1);
    text(many(" ", rest + 1) + WHOLE, FAULT - 160);
    text(many("(", 160), FAULT);
    text(many(" ", 159) + "!", FAULT - 159);
    text(many(" ", 160) + "!", FAULT - 160);
    // As many steps as can be: 1 and 68 times more 1.
    InTheOldOne x = new InTheOldOne();
    x.disk(0, 0);
    String most = "takes 1;goes 1" + many("+1", 68) + ";worth 1; ";
    Due.due("a text of 160 bytes", most.length(), 160);
    Due.due("text()", Due.text(x, most), 1);
    x.force(1);
    Due.due("told(0, 8): 69 ones", x.told(0, 8), 69);
    Due.due("text() of 161 bytes", Due.text(x, "takes 1;goes 1" + many("+1", 69) + ";worth 1;"), FAULT - 160);
  }

  private static void tokensAsLongAsCanBe() {
    Due.of("TOKENS, each as long as can be");
    text("takes1;goes1;worth1;", 1);
    text("takesnot 1;", FAULT);
    text("takesgoes 1;", FAULT);
    fault("notnot 1", 0);
    fault("orhere", 0);
    fault("heres", 0);
    fault("herethere", 0);
    fault("1 orhere", 2);
    fine("1or 1");
    fine("1and not1or-1");
    fine("not1");
    fault("1here", 1);
    fault("here1", 4);
    fault("1 1", 2);
    fault("12345", 0);
    fault("1234 5", 5);
  }

  private static void wordsOfLetters() {
    Due.of("WORDS (a .. z)");
    fault("Here", 0);
    fault("HERE", 0);
    fault("hereX", 4);
    fault("here_", 4);
    fault("here`", 4);
    fault("here{", 4);
    fault("`", 0);
    fault("{", 0);
    fault("a", 0);
    fault("z", 0);
    fault("zhere", 0);
    fault("azhere", 0);
    for (int b = 0; b < 256; b++) {
      char c = (char) b;
      if (c == ' ' || c == '\n') continue;
      // A letter goes on with the WORD, which then is none; all else ends it, and can stand there or not.
      boolean letter = c >= 'a' && c <= 'z';
      boolean joins = "+-*<=".indexOf(c) >= 0;
      text("takes here" + c + "day;goes 1;worth 1;", letter ? FAULT - 6 : joins ? 1 : c == ';' ? FAULT - 11 : FAULT - 10);
      if (letter && c != 't') fault("" + c + "here", 0);
    }
  }

  private static void fourDigits() {
    Due.of("NUMBERS (as many digits as stand there, 4 at most)");
    fine("0");
    fine("9");
    fine("0000");
    fine("9999");
    fault("00000", 0);
    fault("10000", 0);
    fault("99999", 0);
    fault("123456789012", 0);
    fault("1+12345", 2);
    fine("1234-5678");
    goes("0009", 9);
    goes("0100", 100);
    goes("9999-9901", 98);
    goes("0000", 0);
    fault("/", 0);
    fault(":", 0);
    fault("1/1", 1);
    fault("1:1", 1);
  }

  private static void signs() {
    Due.of("SIGNS ( ) ; + - * < =");
    String signs = "();+-*<=";
    for (int b = 0; b < 256; b++) {
      char c = (char) b;
      boolean joins = "+-*<=".indexOf(c) >= 0 || c >= '0' && c <= '9';
      boolean blank = c == ' ' || c == '\n';
      // Behind a 1: what joins may stand there, a ; with a 1 behind it not, at the 1.
      text("takes 1" + c + "1;goes 1;worth 1;", joins ? 1 : blank || c == ';' ? FAULT - 8 : FAULT - 7);
      boolean begins = blank || signs.indexOf(c) >= 0 || c >= '0' && c <= '9' || c >= 'a' && c <= 'z';
      // All alone it is a FAULT at 0, as nothing but takes can stand there; a blank is at the end.
      text("" + c, blank ? FAULT - 1 : FAULT);
      if (!begins) text(WHOLE + c, FAULT - WHOLE.length());
    }
  }

  private static void blanks() {
    Due.of("blanks (32, 10) may stand between");
    text(" takes\n1 ;\n\ngoes  1\n; worth\n \n1\n;\n", 1);
    text("\n" + WHOLE, 1);
    text(WHOLE + "\n ", 1);
    text("takes(1)*(2);goes-1;worth(1<2)=0;", 1);
    fault("1 or not - ( 1 )\n< 2 2", 21);
    text("ta kes 1;", FAULT);
    text("takes 1 2;", FAULT - 8);
    fault("he re", 0);
    int[] no = {0, 8, 9, 11, 12, 13, 31, 33, 127, 160, 255};
    for (int b : no) {
      fault("1" + (char) b + "+1", 1);
      text((char) b + WHOLE, FAULT);
    }
  }

  private static void threeParts() {
    Due.of("TEXT: takes E ; goes E ; worth E ;");
    text(WHOLE, 1);
    text("goes 1;takes 1;worth 1;", FAULT);
    text("worth 1;", FAULT);
    text("takes 1;worth 1;goes 1;", FAULT - 8);
    text("takes 1;takes 1;worth 1;", FAULT - 8);
    text("takes 1;goes 1;goes 1;", FAULT - 15);
    text("takes 1;goes 1;takes 1;", FAULT - 15);
    text("takes 1 goes 1;worth 1;", FAULT - 8);
    text("takes 1;goes 1 worth 1;", FAULT - 15);
    text("takes 1;goes 1;worth 1 takes", FAULT - 23);
    text("takes;goes 1;worth 1;", FAULT - 5);
    text("takes 1;goes;worth 1;", FAULT - 12);
    text("takes 1;goes 1;worth;", FAULT - 20);
    text("takes 1;;goes 1;worth 1;", FAULT - 8);
    text(";" + WHOLE, FAULT);
    text("1;", FAULT);
    text(WHOLE + ";", FAULT - 23);
    text(WHOLE + "takes 1;", FAULT - 23);
    text(WHOLE + "goes 1;", FAULT - 23);
    text(WHOLE + "1", FAULT - 23);
  }

  private static void orAnd() {
    Due.of("E: AND { or AND }. AND: NOT { and NOT }");
    fine("1 or 1 or 1 or 1");
    fine("1 and 1 and 1 and 1");
    fine("1 or 1 and 1 or not 1 and not 1");
    fault("or 1", 0);
    fault("and 1", 0);
    fault("1 or", 4);
    fault("1 and", 5);
    fault("1 or or 1", 5);
    fault("1 and or 1", 6);
    fault("1 not 1", 2);
    goes("0 or 0 or 1", 1);
    goes("1 or 0 or 0", 1);
    goes("0 or 0 or 0", 0);
    goes("1 and 1 and 0", 0);
    goes("0 and 1 and 1", 0);
    goes("1 and 1 and 1", 1);
    goes("1 or 1 and 0", 1);
    goes("(1 or 1) and 0", 0);
    goes("0 and 0 or 1", 1);
    goes("0 and (0 or 1)", 0);
  }

  private static void denied() {
    Due.of("NOT: not NOT, or SUM");
    fine("not 1");
    fine("not not 1");
    fine("not 1 < 2");
    fault("not", 3);
    fault("not and 1", 4);
    fault("1 + not 1", 4);
    fault("1 * not 1", 4);
    fault("1 < not 1", 4);
    fault("1 = not 1", 4);
    fault("- not 1", 2);
    fine("- (not 1)");
    fine("1 < (not 1)");
    goes("not 1 < 1", 1);
    goes("(not 1) < 1", 1);
    goes("not 2 = 2", 0);
    goes("not 0 = 5", 1);
    goes("(not 0) = 5", 0);
    goes("not 1 + 5", 0);
    goes("(not 1) + 5", 5);
    goes("not 0 and 0", 0);
    goes("not (0 and 0)", 1);
    goes("not 1 or 1", 1);
    goes("not (1 or 1)", 0);
  }

  private static void oneComparison() {
    Due.of("SUM, perhaps < or = and a SUM");
    fine("1");
    fine("1<2");
    fine("1=2");
    fault("1<2<3", 3);
    fault("1<2=3", 3);
    fault("1=2<3", 3);
    fault("1=2=3", 3);
    fault("1<", 2);
    fault("<1", 0);
    fault("=1", 0);
    fault("1<=2", 2);
    fault("1==2", 2);
    fine("(1<2)<3");
    fine("1<(2<3)");
    fine("1<2 and 2<3 or 3=4");
    fine("not 1<2 and not 2=3");
    goes("2<3", 1);
    goes("3<3", 0);
    goes("3<2", 0);
    goes("2=3", 0);
    goes("3=3", 1);
    goes("1+1<1+2", 1);
    goes("2*2=2+2", 1);
    goes("-1<0", 1);
    goes("0<-1", 0);
    goes("(3<2)<1", 1);
  }

  private static void sums() {
    Due.of("SUM: TERM { + or - TERM }");
    goes("9-3-2", 4);
    goes("9-(3-2)", 8);
    goes("9-3+2", 8);
    goes("9+3-2+5-1", 14);
    goes("9+2*3", 15);
    goes("30-2*3*4", 6);
    fault("+1", 0);
    fault("1+", 2);
    fault("1-", 2);
    fault("1++1", 2);
    fault("1-+1", 2);
    fine("1--1");
    goes("1--1", 2);
    goes("9---1", 8);
  }

  private static void terms() {
    Due.of("TERM: ONE { * ONE }");
    goes("2*3*4", 24);
    goes("2*-3*-4", 24);
    goes("-2*-3", 6);
    goes("2*(3+4)", 14);
    goes("(2+3)*(4+5)", 45);
    goes("0*9999", 0);
    fault("*1", 0);
    fault("1*", 2);
    fault("1**1", 2);
    fault("1*+1", 2);
  }

  private static void ones() {
    Due.of("ONE: a NUMBER, a NAME, - ONE, ( E )");
    goes("--7", 7);
    goes("----7", 7);
    goes("-7+10", 3);
    goes("-(7-10)", 3);
    goes("-number+5", 2);
    goes("(number)", 3);
    goes("((((7))))", 7);
    goes("(1 or 0)", 1);
    goes("(not 1<2 or 1) + 5", 6);
    fault("-", 1);
    fault("--", 2);
    fault("()", 1);
    fault("(1", 2);
    fault("(1;", 2);
    fault("(1))", 3);
    fault("1)", 1);
    fault(")", 0);
    fault("(1)(2)", 3);
    fault("1(2)", 1);
    fault("(1)2", 3);
    fault("(1)here", 3);
  }

  private static void keysAndNames() {
    Due.of("NAMES are here there same number file day; takes, goes, worth, or, and, not are KEYS");
    String[] names = {"here", "there", "same", "number", "file", "day"};
    for (String name : names) {
      fine(name);
      text(name, FAULT);
      text(name + " 1;", FAULT);
      text("takes 1;" + name + " 1;", FAULT - 8);
    }
    String[] keys = {"takes", "goes", "worth", "or", "and"};
    for (String key : keys) {
      fault(key, 0);
      fault("1+" + key, 2);
      fault("-" + key, 1);
      fault("(" + key, 1);
    }
    fault("1+not 1", 2);
    for (String key : new String[] {"or", "and", "not"}) text(key + " 1;", FAULT);
    for (String key : new String[] {"takes", "goes", "worth"}) fault("1 " + key, 2);
  }

  private static void wrapping() {
    Due.of("An E is an int (32 bits, wrapping)");
    String least = "256*256*256*128";
    goes(least + "<0", 1);
    goes(least + "-1<0", 0);
    goes("0<" + least + "-1", 1);
    goes(least + "=-(" + least + ")", 1);
    goes(least + "*2=0", 1);
    goes(least + "*2+7", 7);
    goes("256*256*256*256", 0);
    goes("256*256*256*256+1", 1);
    goes("9999*9999*9999<0", 1);
    // 46341 * 46341 is the least square beyond an int; 46340 * 46340 is in it.
    goes("(9268*5)*(9268*5)<0", 0);
    goes("(9268*5+1)*(9268*5+1)<0", 1);
    goes(least + "-1+" + least + "=-1", 1);
    goes(least + "+" + least, 0);
    goes("0<0-(" + least + "+1)", 1);
  }

  /** Five levels of brackets, on each of them as much as can wait for what is in the next one. */
  private static void deepest() {
    Due.of("E, AND, NOT, SUM, TERM, ONE: ( E ), five of them open");
    String ahead = many("0 or 1 and 0<0+1*(", 5) + "0 or 1 and 0<0+1*";
    String behind = many(")", 5);
    goes(ahead + "number" + behind, 1);
    goes(ahead + "here" + behind, 0);
    worth(ahead + "day" + behind, 1, 1);
    worth(ahead + "here" + behind, 1, 0);
    comes(ahead + "there" + behind, 5, -1, 30, 20, 1);
    comes(ahead + "same" + behind, 5, -1, 30, 20, 0);
    goes("0 or 0 or 1 and 2 and 3<9-1-3*2*(" + many("(", 4) + "number-2" + many(")", 5), 0);
    goes("0 or 0 or 1 and 2 and 3<9-1-2*2*(" + many("(", 4) + "number-2" + many(")", 5), 1);
  }

  private static void truths() {
    Due.of("of or, and, not, <, = 1 or 0 (what is not 0 is true)");
    goes("7 or 0", 1);
    goes("0 or 7", 1);
    goes("7 or 9", 1);
    goes("0 or 0", 0);
    goes("-1 or 0", 1);
    goes("7 and 9", 1);
    goes("-1 and -2", 1);
    goes("7 and 0", 0);
    goes("0 and 7", 0);
    goes("2 and 1", 1);
    goes("not 7", 0);
    goes("not -1", 0);
    goes("not 1", 0);
    goes("not 0", 1);
    goes("not not 7", 1);
    goes("256*256*256*128 and 1", 1);
    goes("256*256*256*256 or 0", 0);
    goes("not 256*256*256*256", 1);
  }

  private static void faultAtFirstToken() {
    Due.of("FAULT: the place of the first byte of the first TOKEN that can't stand there");
    text("goes", FAULT);
    text("   goes", FAULT - 3);
    text("takes  ;", FAULT - 7);
    text("takes 1   takes", FAULT - 10);
    fault("1 + + !", 4);
    fault("1 1 12345", 2);
    fault("(1 or) 2 2", 5);
    fault("1 < 2 < 3 < 4", 6);
    text("takes 1;goes 1;worth 1;\n\ntakes", FAULT - 25);
  }

  private static void faultAtEnd() {
    Due.of("(the text's size, if it ends too early)");
    String[] begun = {"takes", "takes 1", "takes 1;", "takes 1;goes", "takes 1;goes 1", "takes 1;goes 1;",
        "takes 1;goes 1;worth", "takes 1;goes 1;worth 1", "takes (", "takes (1", "takes (1)", "takes -", "takes not",
        "takes 1 or", "takes 1 and", "takes 1 <", "takes 1 =", "takes 1 +", "takes 1 -", "takes 1 *", "takes 1 < 1"};
    text("", FAULT);
    text(" ", FAULT - 1);
    text("\n\n", FAULT - 2);
    for (String s : begun) {
      text(s, FAULT - s.length());
      text(s + " ", FAULT - s.length() - 1);
      text(s + "\n \n", FAULT - s.length() - 3);
      text(" " + s, FAULT - s.length() - 1);
    }
  }

  private static void faultByByte() {
    Due.of("also of a byte that begins none");
    int[] none = {0, 1, 9, 13, 33, 44, 46, 47, 58, 62, 63, 64, 65, 90, 91, 95, 96, 123, 126, 127, 128, 195, 254, 255};
    for (int b : none) {
      char c = (char) b;
      text("" + c, FAULT);
      fault("1 " + c, 2);
      fault("" + c + "1", 0);
      fault("here" + c, 4);
      text(WHOLE + " " + c, FAULT - 24);
    }
  }

  private static void faultByWord() {
    Due.of("a WORD that is neither KEY nor NAME");
    String[] words = {"x", "her", "heres", "ther", "theres", "sam", "sames", "numbe", "numbers", "fil", "files", "da",
        "days", "take", "takess", "an", "ands", "o", "ors", "no", "nots", "erehe", "aday", "theree", "wort", "goe"};
    for (String w : words) {
      text(w, FAULT);
      fault(w, 0);
      fault("1 " + w + " 1", 2);
      text("takes 1;" + w + " 1;", FAULT - 8);
      text(WHOLE + w, FAULT - 23);
    }
  }

  private static void faultByNumber() {
    Due.of("a NUMBER that is too long");
    fault("12345", 0);
    fault("  12345", 2);
    fault("1<12345", 2);
    fault("(12345)", 1);
    fault("1 12345", 2);
    text("12345", FAULT);
    text(WHOLE + "12345", FAULT - 23);
    text("takes 1;goes 12345;worth 1;", FAULT - 13);
    text("takes 1;goes 1;worth 12345;", FAULT - 21);
  }

  /** Each row of ( not - that can stand one in the other: 5 of them may be open, a sixth is a FAULT. */
  private static void fiveOpen() {
    Due.of("a ( , a not, a - ahead of a ONE while 5 of these are open");
    opened("", "", 0, false);
  }

  private static void opened(String ahead, String behind, int open, boolean minus) {
    if (open == 5) {
      fine(ahead + "1" + behind);
      fault(ahead + "(1)" + behind, ahead.length());
      fault(ahead + "-1" + behind, ahead.length());
      fault(ahead + "not 1" + behind, ahead.length());
      return;
    }
    opened(ahead + "(", ")" + behind, open + 1, false);
    opened(ahead + "-", behind, open + 1, true);
    // A not can't stand behind a - at all.
    if (!minus) opened(ahead + "not ", behind, open + 1, false);
    else fault(ahead + "not 1" + behind, ahead.length());
  }

  private static void bracketTillItsEnd() {
    Due.of("(a ( till its ) )");
    fine("(((((1)))))+(((((2)))))");
    fine("(((((1)+(2)+(3)))))");
    fine("(((((1))+((2)))+(((3)))))+----(4)");
    fine("((((1)+((2)))))");
    fault("((((1)+(((2)))))", 9);
    fine("((((1)+(-2))))");
    fault("((((1)+(--2))))", 9);
    fine("((((1)+(not 2))))");
    fault("((((1)+(not not 2))))", 12);
    fine("((((1)))) and not not not not not 1");
    // A ( in a part that is done counts no more.
    text("takes (((((1)))));goes (((((1)))));worth (((((1)))));", 1);
    text("takes (((((1)))));goes (((((1)))));worth ((((((1))))));", FAULT - 46);
    text("takes (((((1)))));goes ((((((1))))));worth 1;", FAULT - 28);
  }

  private static void minusTillItsOne() {
    Due.of("(- till what it belongs to ends)");
    fine("-----1");
    fine("-----1------1");
    fine("-----1+-----1*-----1<-----1");
    fine("(((-1-2-3-4-5-6-7)))");
    fine("((((-1*-1*-1+-1))))");
    fine("1-2-3-4-5-6-7-8");
    fine("1------1");
    fault("1-------1", 7);
    fine("-(1)*(((((2)))))");
    fine("-(-(1))+(((((2)))))");
    fault("-(((((1)))))", 5);
    fault("-(1*((((2)))))", 7);
    fine("-(1*(((2))))");
    text("takes -----1;goes -----1;worth -----1;", 1);
    text("takes -----1;goes ------1;worth 1;", FAULT - 23);
  }

  private static void notTillItsNot() {
    Due.of("(not till what it belongs to ends)");
    fine("not not not not not 1");
    fault("not not not not not not 1", 20);
    fine("not not not not not 1 and not not not not not 1 or not not not not not 1");
    fine("((((not 1 and not 2 or not 3))))");
    fine("((((not 1 < 2 and -1))))");
    fault("((((not 1 < -2))))", 12);
    fault("((((not 1 + -2))))", 12);
    fault("((((not 1 * -2))))", 12);
    fault("((((not 1 = (2)))))", 12);
    fine("(((not 1 = (2))))");
    fine("not 1 < ----1");
    fault("not 1 < -----1", 12);
    fine("not 1 < ----1 and -----1");
    fine("not 1 or -----1");
    fine("(not not not 1)*-----1");
    text("takes not not not not not 1;goes not not not not not 1;worth not not not not not 1;", 1);
    text("takes not not not not not 1;goes not not not not not not 1;worth 1;", FAULT - 53);
  }

  private static void sixTexts() {
    Due.of("There are 6 TEXTS at most, TEXT 0 with them");
    InTheOldOne x = new InTheOldOne();
    x.disk(0, 0);
    Due.due("count(3)", x.count(3), 1);
    for (int n = 1; n <= 5; n++) {
      Due.due("force(" + n + "), not yet", x.force(n), -2);
      Due.due("text() " + n, Due.text(x, "takes 1;goes " + 10 * n + ";worth 1;"), n);
      Due.due("count(3)", x.count(3), n + 1);
    }
    Due.due("text(), a seventh", Due.text(x, WHOLE), -4);
    Due.due("count(3)", x.count(3), 6);
    Due.due("force(6)", x.force(6), -2);
    int[] likely = {5, 10, 20, 30, 40, 50};
    for (int n = 0; n <= 5; n++) {
      x.force(n);
      Due.due("told(0, 8) by TEXT " + n, x.told(0, 8), likely[n]);
    }
    longOnes("");
    longOnes("takes " + many("1+", 70) + "!");
  }

  /** Three TEXTS of 160 bytes, each with an E of its own; or two of them behind a FAULT. */
  private static void longOnes(String ahead) {
    InTheOldOne x = new InTheOldOne();
    x.disk(0, 0);
    x.disk(0, 0);
    x.write(0, 7, 1);
    int texts = 3;
    if (!ahead.isEmpty()) {
      texts = 2;
      Due.due("text() of a FAULT", Due.text(x, ahead), FAULT - ahead.length() + 1);
    }
    String[] sums = {many("+1", 68), many("-1", 34) + many("+2", 34), many("*1", 68)};
    int[] likely = {69, 35, 1};
    for (int n = 0; n < texts; n++) {
      Due.due("text() of 160 bytes", Due.text(x, "takes 0;goes 1" + sums[n] + ";worth 5; "), n + 1);
      x.force(n + 1);
      Due.due("told(0, 8) by it", x.told(0, 8), likely[n]);
      Due.due("all(8) by it", x.all(8), 5);
      Due.due("copies(0, 1) by it", x.copies(0, 1), 0);
    }
  }

  private static void feed() {
    Due.of("feed. A byte (0 .. 255) comes behind THE TAPE: how many it has. BAD");
    InTheOldOne x = new InTheOldOne();
    int[] no = {-1, 256, Integer.MIN_VALUE, Integer.MAX_VALUE, 256 + 't'};
    for (int b : no) Due.due("feed(" + b + ")", x.feed(b), -2);
    Due.due("count(4)", x.count(4), 0);
    Due.due("feed(0)", x.feed(0), 1);
    Due.due("feed(255)", x.feed(255), 2);
    for (int b : no) Due.due("feed(" + b + ")", x.feed(b), -2);
    Due.due("count(4)", x.count(4), 2);
    Due.of("feed. FULL");
    for (int n = 3; n <= 160; n++) Due.due("feed(1)", x.feed(1), n);
    Due.due("feed(1), full", x.feed(1), -4);
    Due.due("feed(1), still full", x.feed(1), -4);
    Due.due("count(4)", x.count(4), 160);
    Due.of("feed. BAD; FULL: BAD is named first");
    for (int b : no) Due.due("feed(" + b + "), full", x.feed(b), -2);
  }

  private static void text() {
    Due.of("text. THE TAPE, which is empty then (by a FAULT, too)");
    InTheOldOne x = new InTheOldOne();
    Due.due("text() of nothing", x.text(), FAULT);
    Due.due("text() of a whole one", Due.text(x, WHOLE), 1);
    Due.due("count(4)", x.count(4), 0);
    Due.due("text() again: nothing stands there", x.text(), FAULT);
    Due.due("text() of a FAULT", Due.text(x, "takes 1"), -107);
    Due.due("count(4)", x.count(4), 0);
    Due.due("text(): what came ahead of it is gone", Due.text(x, ";goes 1;worth 1;"), FAULT);
    Due.due("feed(32): the first byte again", x.feed(32), 1);
    Due.of("text. -100 less the place of its FAULT");
    text("!", -100);
    text("takes !", -106);
    text(many(" ", 159) + "1", -259);
    text(many(" ", 160), -260);
  }

  private static void textFull() {
    Due.of("text. FULL (ahead of all): no TEXT more has room (THE TAPE stays)");
    InTheOldOne x = new InTheOldOne();
    for (int n = 1; n <= 5; n++) Due.text(x, WHOLE);
    Due.due("text() of nothing: FULL, no FAULT", x.text(), -4);
    Due.feed(x, "nonsense");
    Due.due("text() of nonsense: FULL, no FAULT", x.text(), -4);
    Due.due("count(4)", x.count(4), 8);
    Due.due("feed(32): behind what stayed", x.feed(32), 9);
    Due.due("text(), still", x.text(), -4);
    Due.due("count(4)", x.count(4), 9);
  }

  private static void force() {
    Due.of("force. A TEXT is THE RULE: which was. BAD");
    InTheOldOne x = new InTheOldOne();
    int[] no = {-1, 1, 6, Integer.MIN_VALUE, Integer.MAX_VALUE};
    for (int n : no) Due.due("force(" + n + ")", x.force(n), -2);
    Due.due("force(0)", x.force(0), 0);
    Due.text(x, WHOLE);
    Due.text(x, WHOLE);
    Due.due("force(3)", x.force(3), -2);
    Due.due("force(2)", x.force(2), 0);
    Due.due("force(2), the same", x.force(2), 2);
    Due.due("force(3)", x.force(3), -2);
    Due.due("force(-1)", x.force(-1), -2);
    Due.due("force(1)", x.force(1), 2);
    Due.due("count(5)", x.count(5), 1);
  }

  /** FILE 0 goes from a CLOUD with NUMBER 3, STAMP there, onto one with NUMBER 7, by takes: whether it comes. */
  private static void comes(String takes, int content, int before, int there, int here, int due) {
    InTheOldOne x = new InTheOldOne();
    x.disk(2, 3);
    x.disk(2, 7);
    if (before >= 0) {
      x.set(0, 0, here);
      x.write(1, 6, before);
    }
    x.set(0, 0, there);
    x.write(0, 6, content);
    x.set(0, 0, 40);
    Due.text(x, "takes " + takes + ";goes 0;worth 0;");
    Due.due("force(1)", x.force(1), 0);
    Due.due("copies(0, 1) by takes " + takes, x.copies(0, 1), due);
  }

  private static void hereAndThere() {
    Due.of("here: STAMP of what is there (-100: nothing); there: STAMP of what comes");
    comes("here=-100", 5, -1, 30, 0, 1);
    comes("here=-99", 5, -1, 30, 0, 0);
    comes("here<-99", 5, -1, 30, 0, 1);
    comes("here=20", 5, 5, 30, 20, 1);
    comes("here=0", 5, 5, 30, 0, 1);
    comes("there=30", 5, 5, 30, 20, 1);
    comes("there=30", 5, -1, 30, 0, 1);
    comes("there=0", 5, 5, 0, 20, 1);
    comes("there=40", 5, 5, 30, 20, 0);
    comes("here=30", 5, 5, 30, 20, 0);
  }

  private static void same() {
    Due.of("same: 1, if their CONTENTS are like, else 0");
    comes("same=1", 5, 5, 30, 20, 1);
    comes("same=0", 5, 5, 30, 20, 0);
    comes("same=1", 5, 6, 30, 20, 0);
    comes("same=0", 5, 6, 30, 20, 1);
    comes("same=0", 5, -1, 30, 20, 1);
    comes("same=1", 0, 0, 30, 20, 1);
    comes("same=0", 0, -1, 30, 20, 1);
    comes("same=1", 0, -1, 30, 20, 0);
    comes("same=1", 999, 999, 30, 20, 1);
    comes("same=1", 999, 998, 30, 20, 0);
  }

  private static void numberFileDay() {
    Due.of("number: NUMBER of the DISK; file: the FILE; day: THE DAY");
    comes("number=7", 5, 5, 30, 20, 1);
    comes("number=3", 5, 5, 30, 20, 0);
    comes("file=6", 5, 5, 30, 20, 1);
    comes("file=0", 5, 5, 30, 20, 0);
    comes("day=40", 5, 5, 30, 20, 1);
    comes("day=30", 5, 5, 30, 20, 0);
    comes("number=7 and file=6 and day=40", 5, -1, 30, 20, 1);
  }

  private static void takesNotZero() {
    Due.of("takes (not 0: it takes the place)");
    comes("0", 5, -1, 30, 20, 0);
    comes("1", 5, -1, 30, 20, 1);
    comes("2", 5, -1, 30, 20, 1);
    comes("-1", 5, -1, 30, 20, 1);
    comes("-9999", 5, 5, 30, 20, 1);
    comes("256*256*256*128", 5, 5, 30, 20, 1);
    comes("256*256*256*256", 5, 5, 30, 20, 0);
  }

  private static void goesBounds() {
    Due.of("goes: how likely a DISK goes (of 100; 0 .. 100, else the bound)");
    goes("0", 0);
    goes("1", 1);
    goes("99", 99);
    goes("100", 100);
    goes("101", 100);
    goes("-1", 0);
    goes("-9999", 0);
    goes("9999", 100);
    goes("256*256*256*128", 0);
    goes("256*256*256*128-1", 100);
  }

  private static void goesNames() {
    Due.of("goes: here, there, same, file 0");
    String[] zero = {"here", "there", "same", "file"};
    for (String name : zero) {
      goes("50+" + name, 50);
      goes("50-" + name, 50);
      goes(name + "=0", 1);
    }
    Due.of("goes: number: NUMBER of the DISK; day: THE DAY");
    goes("number", 3);
    goes("day", 17);
    // They are 0 behind calls that looked at other parts, too.
    InTheOldOne x = new InTheOldOne();
    x.disk(2, 8);
    x.disk(2, 9);
    x.set(0, 0, 5);
    x.write(0, 7, 1);
    x.write(1, 7, 1);
    Due.text(x, "takes 1;goes number*2+here+there+same+file;worth 5+here+there+same+number;");
    x.force(1);
    x.copies(0, 1);
    Due.due("told(0, 8) behind copies(0, 1)", x.told(0, 8), 16);
    x.all(8);
    Due.due("told(1, 8) behind all(8)", x.told(1, 8), 18);
    Due.of("worth: here, there, same, number 0");
    Due.due("all(8) behind told(1, 8)", x.all(8), 5);
    x.copies(0, 1);
    Due.due("all(8) behind copies(0, 1)", x.all(8), 5);
  }

  /** What WORTH is with FILES (bits) on a CLOUD 8, on DAY 17. */
  private static void worth(String e, int files, int due) {
    InTheOldOne x = new InTheOldOne();
    x.disk(2, 8);
    x.set(0, 0, 17);
    for (int f = 0; f < 8; f++) if ((files >> f & 1) == 1) x.write(0, f, 900);
    Due.text(x, "takes 1;goes 1;worth " + e + ";");
    Due.due("force(1)", x.force(1), 0);
    Due.due("all(8) by worth " + e, x.all(8), due);
  }

  private static void worthBounds() {
    Due.of("worth: of a FILE (0 .. 99, else the bound)");
    worth("0", 1, 0);
    worth("1", 1, 1);
    worth("98", 1, 98);
    worth("99", 1, 99);
    worth("100", 1, 99);
    worth("9999", 1, 99);
    worth("-1", 1, 0);
    worth("256*256*256*128", 1, 0);
    worth("256*256*256*128-1", 1, 99);
    // Each FILE is bound for itself.
    worth("100", 255, 792);
    worth("file*50", 0b111, 149);
    worth("file*10-10", 0b111, 10);
  }

  private static void worthNames() {
    Due.of("worth: here, there, same, number 0");
    String[] zero = {"here", "there", "same", "number"};
    for (String name : zero) {
      worth("50+" + name, 1, 50);
      worth("50-" + name, 0b10000000, 50);
      worth(name + "=0", 1, 1);
    }
    Due.of("worth: file: the FILE; day: THE DAY");
    worth("file", 1, 0);
    worth("file", 0b10000000, 7);
    worth("day", 1, 17);
  }

  private static void firstRule() {
    Due.of("TEXT 0, at first THE RULE, is: takes here < there ; goes 5 ; worth 1 + file ;");
    InTheOldOne x = new InTheOldOne();
    Due.due("count(5)", x.count(5), 0);
    Due.due("force(0)", x.force(0), 0);
    x.disk(2, 9);
    x.disk(2, 1);
    Due.due("told(0, 8)", x.told(0, 8), 5);
    Due.due("told(1, 8)", x.told(1, 8), 5);
    x.set(0, 0, 6);
    for (int f = 0; f < 8; f++) x.write(0, f, 100);
    Due.due("all(8)", x.all(8), 36);
    int[] stamps = {5, 6, 7};
    for (int i = 0; i < 3; i++) {
      x.set(0, 0, stamps[i]);
      x.write(1, i, 200);
    }
    Due.due("copies(0, 1): FILES 1 and 2 are as new", x.copies(0, 1), 6);
    Due.due("file(1, 0, 0)", x.file(1, 0, 0), 100);
    Due.due("file(1, 1, 0)", x.file(1, 1, 0), 200);
    Due.due("file(1, 2, 0)", x.file(1, 2, 0), 200);
    Due.due("copies(1, 0)", x.copies(1, 0), 1);
    Due.due("file(0, 2, 0)", x.file(0, 2, 0), 200);
  }
}
