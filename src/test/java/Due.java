/** What the tests have in common: to compare answers, to feed texts, to lay out sheets. */
final class Due {
  private static int wrong = 0;
  private static int asked = 0;
  private static String sentence = "";

  static void due(String call, long got, long want) {
    asked++;
    if (got != want) {
      wrong++;
      System.out.println(sentence + call + " answered " + got + ", due is " + want);
    }
  }

  /** From here on it is this sentence of the document that is asked for. */
  static void of(String words) {
    sentence = "\"" + words + "\": ";
  }

  static void end() {
    System.out.println(wrong == 0 ? asked + " answers are as due" : wrong + " of " + asked + " answers are not as due");
    if (wrong != 0) System.exit(1);
  }

  static void feed(InTheOldOne x, String text) {
    for (int i = 0; i < text.length(); i++) x.feed(text.charAt(i));
  }

  static int text(InTheOldOne x, String text) {
    feed(x, text);
    return x.text();
  }

  static void sheet(InTheOldOne x, int sheet, int sort, int... row) {
    due("sheet(" + sheet + ", " + sort + ", " + row.length + ")", x.sheet(sheet, sort, row.length), 1);
    for (int i = 0; i < row.length; i++) due("cell(" + sheet + ", " + i + ", " + row[i] + ")", x.cell(sheet, i, row[i]), 1);
  }

  /** What an E is worth, as told by told(.., 8): only from 0 to 100 as it is. */
  static int goes(String e) {
    InTheOldOne x = new InTheOldOne();
    x.disk(0, 3);
    x.set(0, 0, 17);
    int text = text(x, "takes 1;goes " + e + ";worth 1;");
    if (text != 1) return -1000 + text;
    x.force(1);
    return x.told(0, 8);
  }

  private Due() { }
}
