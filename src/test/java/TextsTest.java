/** Promises 6 to 8: feed, text, force; how a TEXT is read and what an E is worth. */
public final class TextsTest {
  public static void main(String[] args) {
    feed();
    faults();
    faultsByOpen();
    everyByte();
    values();
    names();
    first();
    full();
    force();
    Due.end();
  }

  private static void feed() {
    InTheOldOne x = new InTheOldOne();
    Due.due("feed(-1)", x.feed(-1), -2);
    Due.due("feed(256)", x.feed(256), -2);
    Due.due("feed(0)", x.feed(0), 1);
    Due.due("feed(255)", x.feed(255), 2);
    for (int n = 3; n <= 160; n++) Due.due("feed(32) as byte " + n, x.feed(32), n);
    Due.due("feed(32), full", x.feed(32), -4);
    Due.due("feed(256), full", x.feed(256), -2);
    Due.due("count(4)", x.count(4), 160);
    Due.due("text()", x.text(), -100);
    Due.due("count(4) behind text()", x.count(4), 0);
    Due.due("feed(32) behind text()", x.feed(32), 1);
  }

  private static void text(String text, int due) {
    InTheOldOne x = new InTheOldOne();
    Due.due("text() of " + text, Due.text(x, text), due);
    Due.due("count(3) behind " + text, x.count(3), due > 0 ? 2 : 1);
    Due.due("count(4) behind " + text, x.count(4), 0);
  }

  private static void faults() {
    text("", -100);
    text("  \n", -103);
    text("takes 1;goes 1;worth 1;", 1);
    text("takes1;goes1;worth1;", 1);
    text("\n takes\n1\n;goes 1 ;worth 1 ; \n", 1);
    text("goes 1;", -100);
    text("takes 1;takes 1;", -108);
    text("takes 1;goes 1;worth 1;takes 1;", -123);
    text("takes 1;goes 1;worth 1; ;", -124);
    text("takes 1;goes 1;worth 1", -122);
    text("takes 1;goes 1;worth 1  ", -124);
    text("takes 1;goes 1;", -115);
    text("takes", -105);
    text("takes ;", -106);
    text("takes 1 2;", -108);
    text("takes 1 + ;", -110);
    text("takes 1 + + 1;", -110);
    text("takes 1 * not 1;", -110);
    text("takes 1 < not 1;", -110);
    text("takes 1 < 2 < 3;", -112);
    text("takes 1 = 2 < 3;", -112);
    text("takes (1 = 2) < 3;goes 0;worth 0;", 1);
    text("takes 1 = 2 and 3 = 4 or 5 < 6;goes 0;worth 0;", 1);
    text("takes 1 and;", -111);
    text("takes or 1;", -106);
    text("takes (1;", -108);
    text("takes 1);", -107);
    text("takes ();", -107);
    text("takes - not 1;", -108);
    text("takes not;", -109);
    text("takes 9999;goes 0000;worth 1;", 1);
    text("takes 10000;", -106);
    text("takes 00001;", -106);
    text("takes 1 12345;", -108);
    text("takes 12here;", -108);
    text("takes heres;", -106);
    text("takes her;", -106);
    text("takes taking;", -106);
    text("takes Here;", -106);
    text("takes filez;", -106);
    text("takes afile;", -106);
    text("takes 1;goes 1;worth 1;!", -123);
    text("takes 1;goes 1;worth 1; 12345", -124);
    text("takes 1 ! 2;", -108);
    text("takes 1 > 2;", -108);
    text("takes 1;\tgoes 1;", -108);
    text("takes 1 \u00e9;", -108);
    text("takes 1 or not not not not not 1;goes 0;worth 0;", 1);
    text("take 1;goes 1;worth 1;", -100);
    text("takesgoes 1;", -100);
  }

  private static void faultsByOpen() {
    text("takes (((((1)))));goes 0;worth 0;", 1);
    text("takes ((((((1))))));goes 0;worth 0;", -111);
    text("takes -----1;goes 0;worth 0;", 1);
    text("takes ------1;goes 0;worth 0;", -111);
    text("takes not not not not not not 1;", -126);
    text("takes not (-(not 1<2));goes 0;worth 0;", 1);
    text("takes not (-(not 1<-2));goes 0;worth 0;", -119);
    text("takes not (-(not (1)));goes 0;worth 0;", -117);
    text("takes not (-(not not 1));goes 0;worth 0;", -117);
    text("takes not (-((-1)));", -114);
    // A - belongs to its ONE alone, a not to its NOT alone, a ( ends with its ).
    text("takes (((((1-2-3-4-5-6)))));goes 0;worth 0;", 1);
    text("takes ((((-1*-2--3<-4))));goes 0;worth 0;", 1);
    text("takes ((((not 1 and not 2 or not 3))));goes 0;worth 0;", 1);
    text("takes ((((not -1))));", -114);
    text("takes ((((not 1 < -1))));", -118);
    text("takes ((((not 1 and -1))));goes 0;worth 0;", 1);
    text("takes ((((1)+(2)))+((((3)))));", -130);
    text("takes ((((1)+(2)))+(((((3))))));", -123);
    text("takes ((((1)+(2)))+(((3))));goes 0;worth 0;", 1);
    text("takes -(1)*(((((1)))));goes 0;worth 0;", 1);
    text("takes not 1 and not (((-1)));goes 0;worth 0;", 1);
    // What the first part left open counts no more in the next one.
    text("takes not not not not not 1;goes not not not not not 1;worth -----1;", 1);
  }

  /** Each byte where an E begins, where one can end, and at the end of all. */
  private static void everyByte() {
    for (int b = 0; b < 256; b++) {
      char c = (char) b;
      boolean blank = b == 32 || b == 10;
      boolean digit = b >= '0' && b <= '9';
      boolean join = "+-*<=".indexOf(c) >= 0;
      // "takes " and 1 behind it: a - and a digit go on with it, a ( till the ; that has none.
      int first = blank || digit || c == '-' ? 1 : c == '(' ? -108 : -106;
      text("takes " + c + "1;goes 1;worth 1;", first);
      int second = digit || join ? 1 : blank || c == ';' ? -108 : -107;
      text("takes 1" + c + "1;goes 1;worth 1;", second);
      text("takes 1;goes 1;worth 1;" + c, blank ? 1 : -123);
    }
  }

  private static void values() {
    goes("7", 7);
    goes("0042", 42);
    goes("100-1", 99);
    goes("101", 100);
    goes("0-1", 0);
    goes("2+3*4", 14);
    goes("(2+3)*4", 20);
    goes("50-2*3", 44);
    goes("2*3-5", 1);
    goes("20-5-3", 12);
    goes("20-(5-3)", 18);
    goes("-3+10", 7);
    goes("--3", 3);
    goes("-(3-10)*2", 14);
    goes("-2*-3", 6);
    goes("5--3", 8);
    goes("3<4", 1);
    goes("4<4", 0);
    goes("4=4", 1);
    goes("4=5", 0);
    goes("1+2<4", 1);
    goes("50+(1<2)", 51);
    goes("not 7", 0);
    goes("not 0", 1);
    goes("not not 7", 1);
    goes("not 3<2", 1);
    goes("7 and 9", 1);
    goes("7 and 0", 0);
    goes("0 or 9", 1);
    goes("0 or 0", 0);
    goes("1 or 0 and 0", 1);
    goes("(1 or 0) and 0", 0);
    goes("0 and 0 or 1", 1);
    goes("not 0 and 0", 0);
    goes("not 0 or 1", 1);
    goes("(0-1) and 1", 1);
    // An int wraps: 256 * 256 * 256 * 256 is 0, half of it the least int, less 1 the greatest.
    goes("50+(256*256*256*256)", 50);
    goes("256*256*256*128<0", 1);
    goes("256*256*256*128-1<0", 0);
    goes("-(256*256*256*128)<0", 1);
    goes("9999*9999*9999*9999=10*9999*9999+8964*9999+955", 1);
  }

  private static void goes(String e, int due) {
    Due.due("goes " + e, Due.goes(e), due);
  }

  private static void names() {
    // goes: here, there, same, file are 0, NUMBER is 3, THE DAY is 17.
    goes("number", 3);
    goes("day", 17);
    goes("50+here", 50);
    goes("50+there", 50);
    goes("50+same", 50);
    goes("50+file", 50);
    // worth: here, there, same, number are 0; file and day are not.
    InTheOldOne x = new InTheOldOne();
    x.disk(0, 3);
    x.set(0, 0, 17);
    x.write(0, 4, 1);
    Due.text(x, "takes 1;goes 1;worth file*10+day+here+there*2+same*3+number*4;");
    x.force(1);
    Due.due("all(8)", x.all(8), 57);
    x.set(0, 0, 60);
    Due.due("all(8): 100 is bound to 99", x.all(8), 99);
    Due.text(x, "takes 1;goes 1;worth file-5;");
    x.force(2);
    Due.due("all(8): -1 is bound to 0", x.all(8), 0);
    // They are so behind a copy, too, by which they were told otherwise.
    x.disk(0, 0);
    x.write(1, 4, 1);
    Due.text(x, "takes same = 1 and here = there;goes 50+here+there*2+same*3+file;worth 9+here+there*2+same*3+number;");
    x.force(3);
    Due.due("copies(0, 1)", x.copies(0, 1), 0);
    x.write(0, 4, 1);
    Due.due("copies(0, 1)", x.copies(0, 1), 1);
    Due.due("told(0, 8)", x.told(0, 8), 50);
    x.copies(0, 1);
    Due.due("all(8)", x.all(8), 9);
  }

  /** TEXT 0 is: takes here < there ; goes 5 ; worth 1 + file ; */
  private static void first() {
    InTheOldOne x = new InTheOldOne();
    x.disk(0, 0);
    x.disk(0, 0);
    Due.due("told(0, 8)", x.told(0, 8), 5);
    x.write(0, 0, 10);
    x.write(0, 7, 20);
    Due.due("all(8)", x.all(8), 9);
    x.write(1, 0, 11);
    Due.due("copies(0, 1): a like STAMP does not take the place", x.copies(0, 1), 1);
    Due.due("file(1, 0, 0)", x.file(1, 0, 0), 11);
    Due.due("file(1, 7, 0)", x.file(1, 7, 0), 20);
    x.set(0, 0, 1);
    x.write(0, 0, 10);
    Due.due("copies(0, 1): a newer one does", x.copies(0, 1), 1);
    Due.due("file(1, 0, 0)", x.file(1, 0, 0), 10);
  }

  private static void full() {
    InTheOldOne x = new InTheOldOne();
    for (int n = 1; n <= 5; n++) Due.due("text() " + n, Due.text(x, "takes 1;goes 1;worth 1;"), n);
    Due.feed(x, "nonsense");
    Due.due("text(), full", x.text(), -4);
    Due.due("count(4): THE TAPE stays", x.count(4), 8);
    Due.due("count(3)", x.count(3), 6);
    x.image();
    x.back();
    Due.due("count(3) behind back()", x.count(3), 6);
  }

  private static void force() {
    InTheOldOne x = new InTheOldOne();
    x.disk(0, 0);
    Due.due("force(1)", x.force(1), -2);
    Due.due("force(-1)", x.force(-1), -2);
    Due.due("force(0)", x.force(0), 0);
    Due.due("a FAULT is no TEXT", Due.text(x, "takes 1;goes 9;worth 1"), -122);
    Due.due("force(1) behind a FAULT", x.force(1), -2);
    Due.due("text()", Due.text(x, "takes 1;goes 9;worth 1;"), 1);
    Due.due("told(0, 8): not yet THE RULE", x.told(0, 8), 5);
    Due.due("force(1)", x.force(1), 0);
    Due.due("told(0, 8)", x.told(0, 8), 9);
    Due.due("a second FAULT", Due.text(x, "takes 1;goes 77;"), -116);
    Due.due("told(0, 8) as before", x.told(0, 8), 9);
    Due.due("count(5)", x.count(5), 1);
    Due.due("force(2)", x.force(2), -2);
    Due.due("force(0)", x.force(0), 1);
    Due.due("told(0, 8)", x.told(0, 8), 5);
  }
}
