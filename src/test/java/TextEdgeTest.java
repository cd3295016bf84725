import java.util.List;

/** The edges of the text (part 1 of the document, promises 1 to 4): bounds of numbers, faults and their letters, blanks, ends. */
public final class TextEdgeTest {
  private static final String FOUR_CHALKS = "c0 0 0 0;c0 0 0 0;c0 0 0 0;c0 0 0 0;";

  public static void main(String[] args) {
    newObjectHasNoDoors();
    lettersFrom0To255();
    lettersUpTo200();
    aTextOf200LettersIsReadWhole();
    emptyText();
    boundsOfEachNumber();
    figuresOfANumber();
    figuresOfEveryNumber();
    everyLetterFirst();
    everyLetterAsAWord();
    everyLetterAsANumber();
    everyLetterBehindANumber();
    theEndIsAtTheTextsLength();
    blanksStandAnywhereButWithinNumbers();
    twoNumbersNeedABlank();
    toldAgain();
    chalksUpToFour();
    doorsToldUpToFourteen();
    setsOfChalksToldAhead();
    ofFaultsAtOneLetterTheLeast();
    theFirstOfSeveralFaults();
    untold();
    faultOfTheLatestStreet();
    streetBeginsAnew();
    faultLeavesAllElse();
    Due.end();
  }

  private static void fault(String text, int number, int at) {
    ChalkedDoors x = Due.feed(new ChalkedDoors(), text);
    Due.is("street() of \"" + text + "\"", x.street(), -10 - number);
    Due.is("fault() of \"" + text + "\"", x.fault(), at);
    Due.is("told(5) behind \"" + text + "\"", x.told(5), 0);
  }

  private static ChalkedDoors good(String text, int doors) {
    ChalkedDoors x = Due.feed(new ChalkedDoors(), text);
    Due.is("street() of \"" + text + "\"", x.street(), doors);
    Due.is("fault() of \"" + text + "\"", x.fault(), Due.NONE);
    Due.is("told(5) behind \"" + text + "\"", x.told(5), 0);
    return x;
  }

  private static void newObjectHasNoDoors() {
    ChalkedDoors x = new ChalkedDoors();
    Due.is("new told(0)", x.told(0), 0);
    Due.is("new fault()", x.fault(), Due.NONE);
    Due.is("new night(1)", x.night(1), Due.NOT);
    Due.is("new like(0)", x.like(0), 0);
    Due.is("new fool(0, 2, 0)", x.fool(0, 2, 0), Due.NONE);
    Due.is("new fool(0, 2, 1)", x.fool(0, 2, 1), Due.NONE);
    Due.is("new code(2, -1)", x.code(2, -1), 0);
    Due.is("new leastWindow()", x.leastWindow(), Due.NONE);
    Due.is("new bestDoor(0, 9)", x.bestDoor(0, 9), Due.NONE);
    Due.is("new watchman(99999)", x.watchman(99999), Due.NONE);
    Due.is("new sight(99)", x.sight(99), Due.NONE);
    Due.is("new forged(15, 15)", x.forged(15, 15), 0);
    Due.is("new keys(0, 0)", x.keys(0, 0), 256);
    Due.is("new keys(0, 1)", x.keys(0, 1), 0);
    Due.is("new first(-1)", x.first(-1), 0);
    Due.is("new first(-2)", x.first(-2), 0);
    Due.is("new first(0)", x.first(0), Due.NONE);
    Due.is("new tear()", x.tear(), 0);
    Due.is("new judge()", x.judge(), Due.NONE);
    Due.is("new seed(0)", x.seed(0), 0);
    Due.is("new keep(1)", x.keep(1), 1);
    Due.is("new goBack(1)", x.goBack(1), 1);
    Due.is("new goBack(0)", x.goBack(0), Due.NOT);
  }

  private static void lettersFrom0To255() {
    ChalkedDoors x = new ChalkedDoors();
    Due.is("feed(-1)", x.feed(-1), Due.OUTSIDE);
    Due.is("feed(0)", x.feed(0), 1);
    Due.is("feed(255)", x.feed(255), 2);
    Due.is("feed(256)", x.feed(256), Due.OUTSIDE);
    // a letter is no byte: 's' and 256 is not 's'
    Due.is("feed(371)", x.feed('s' + 256), Due.OUTSIDE);
    Due.is("told(5)", x.told(5), 2);
  }

  private static void lettersUpTo200() {
    ChalkedDoors x = new ChalkedDoors();
    for (int k = 1; k <= 200; k++) {
      Due.is("feed(32), the letter " + k, x.feed(32), k);
    }
    Due.is("feed(32), the letter 201", x.feed(32), Due.FULL);
    Due.is("feed(-1), the letter 201", x.feed(-1), Due.OUTSIDE);
    Due.is("feed(256), the letter 201", x.feed(256), Due.OUTSIDE);
    Due.is("told(5)", x.told(5), 200);
    x.street();
    Due.is("told(5) behind street()", x.told(5), 0);
    Due.is("feed(32) behind street()", x.feed(32), 1);
  }

  private static void aTextOf200LettersIsReadWhole() {
    good(" ".repeat(197) + "s9;", 9);
    good("s7" + " ".repeat(197) + ";", 7);
    Due.is("told(2) by the last letters", good("s7;" + " ".repeat(194) + "r1;", 7).told(2), 1);
    fault("s7;" + " ".repeat(196) + "x", 1, 199);
    fault("s7;" + " ".repeat(195) + "r1", 1, 200);
    fault("s7;" + " ".repeat(195) + "r9", 2, 199);
    fault(" ".repeat(199) + "s", 1, 200);
  }

  private static void emptyText() {
    ChalkedDoors x = Due.street(Due.USUAL);
    Due.is("street() of an empty text", x.street(), 0);
    Due.is("fault() of an empty text", x.fault(), Due.NONE);
    for (int what = 0; what < 12; what++) {
      Due.is("told(" + what + ") of an empty text", x.told(what), what == 2 ? 4 : 0);
    }
    Due.is("door(0, 0) of an empty text", x.door(0, 0), Due.UNKNOWN);
    Due.is("chalk(0, 0) of an empty text", x.chalk(0, 0), Due.UNKNOWN);
    Due.is("watchman(0) of an empty text", x.watchman(0), Due.NONE);
    good(" ", 0);
  }

  /** Of a clause with one number left open, all numbers 0 .. 999: those within the bounds are taken and told again. */
  private static void bounds(String ahead, String behind, int least, int most, Asked asked) {
    for (int number = 0; number <= 999; number += number < 40 ? 1 : 137) {
      String text = ahead + number + behind;
      if (number < least || number > most) {
        fault(text, 2, ahead.length());
      } else {
        ChalkedDoors x = Due.street(text);
        Due.is("what is told by \"" + text + "\"", asked.of(x), number);
      }
    }
    fault(ahead + "999" + behind, 2, ahead.length());
    fault(ahead + "-1" + behind, 1, ahead.length());
  }

  private interface Asked {
    int of(ChalkedDoors x);
  }

  private static void boundsOfEachNumber() {
    bounds("s", ";", 1, 14, x -> x.told(0));
    bounds("s1;c", " 8 20 7;", 0, 2, x -> x.chalk(0, 0));
    bounds("s1;c2 ", " 20 7;", 0, 8, x -> x.chalk(0, 1));
    bounds("s1;c2 8 ", " 7;", 0, 20, x -> x.chalk(0, 2));
    bounds("s1;c2 8 20 ", ";", 0, 7, x -> x.chalk(0, 3));
    bounds("s14;" + FOUR_CHALKS + "m", " 15;", 0, 13, x -> Integer.numberOfTrailingZeros(x.like(15)));
    bounds("s14;" + FOUR_CHALKS + "m13 ", ";", 0, 15, x -> x.door(13, 0));
    bounds("s1;r", ";", 0, 8, x -> x.told(2));
    bounds("s1;w", " 13;", 1, 9, x -> x.told(3));
    bounds("s1;w9 ", ";", 0, 13, x -> x.told(4));
    for (int doors = 1; doors <= 14; doors++) {
      good("s" + doors + ";m" + (doors - 1) + " 0;", doors);
      String ahead = "s" + doors + ";m";
      fault(ahead + doors + " 0;", 2, ahead.length());
    }
  }

  private static void figuresOfANumber() {
    good("s7;", 7);
    good("s07;", 7);
    good("s007;", 7);
    fault("s0007;", 2, 1);
    fault("s00007;", 2, 1);
    fault("s" + "0".repeat(199), 2, 1);
    fault("s;", 1, 1);
    // numbers that wrap to a good one
    fault("s4294967303;", 2, 1);
    fault("s18446744073709551623;", 2, 1);
    fault("s65543;", 2, 1);
    fault("s1007;", 2, 1);
  }

  /** Each number of each clause: three figures are taken, four are a fault at the first of them, none is one at the letter behind. */
  private static void figuresOfEveryNumber() {
    String[] clauses = {"c# 1 1 1;", "c1 # 1 1;", "c1 1 # 1;", "c1 1 1 #;", "m# 1;", "m1 #;", "r#;", "w# 1;", "w1 #;"};
    for (String clause : clauses) {
      String text = "s2;c0 0 0 0;" + clause;
      int at = text.indexOf('#');
      good(text.replace("#", "1"), 2);
      good(text.replace("#", "01"), 2);
      good(text.replace("#", "001"), 2);
      fault(text.replace("#", "0001"), 2, at);
      fault(text.replace("#", "00000000000000000001"), 2, at);
      fault(text.replace("#", "x"), 1, at);
      fault(text.replace("#", ";"), 1, at);
      fault(text.replace("#", "1x"), 1, at + 1);
      fault(text.substring(0, at), 1, at);
    }
  }

  private static boolean isFigure(int letter) {
    return letter >= '0' && letter <= '9';
  }

  private static void everyLetterFirst() {
    for (int letter = 0; letter < 256; letter++) {
      String text = String.valueOf((char) letter);
      if (letter == ' ') {
        good(text, 0);
      } else {
        fault(text, 1, letter == 's' ? 1 : 0);
        fault(text + "1 1;", 1, letter == 's' ? 3 : 0);
      }
    }
  }

  private static void everyLetterAsAWord() {
    for (int letter = 0; letter < 256; letter++) {
      String text = "s2;" + (char) letter;
      if (letter == ' ') {
        good(text, 2);
      } else if (letter == 's') {
        fault(text, 3, 3);
      } else {
        boolean isWord = letter == 'c' || letter == 'm' || letter == 'r' || letter == 'w';
        fault(text, 1, isWord ? 4 : 3);
      }
    }
  }

  private static void everyLetterAsANumber() {
    for (int letter = 0; letter < 256; letter++) {
      String text = "s" + (char) letter + ";";
      if (letter == '0') {
        fault(text, 2, 1);
      } else if (isFigure(letter)) {
        good(text, letter - '0');
      } else {
        fault(text, 1, letter == ' ' ? 2 : 1);
      }
    }
  }

  private static void everyLetterBehindANumber() {
    for (int letter = 0; letter < 256; letter++) {
      String text = "s1" + (char) letter;
      if (letter == ';') {
        good(text, 1);
      } else if (letter >= '0' && letter <= '4' || letter == ' ') {
        fault(text, 1, 3);
      } else if (isFigure(letter)) {
        fault(text, 2, 1);
      } else {
        fault(text, 1, 2);
      }
    }
  }

  /** A text that breaks off anywhere but between clauses has its fault at its length, blanks behind it or not. */
  private static void theEndIsAtTheTextsLength() {
    String whole = "s2;c0 8 20 7;m1 1;r8;w9 13;";
    for (int length = 0; length <= whole.length(); length++) {
      String text = whole.substring(0, length);
      if (length == 0 || text.endsWith(";")) {
        good(text, length == 0 ? 0 : 2);
        good(text + "  ", length == 0 ? 0 : 2);
      } else {
        fault(text, 1, length);
        fault(text + "  ", 1, length + 2);
      }
    }
  }

  private static void blanksStandAnywhereButWithinNumbers() {
    String close = "s12;c1 8 20 7;m11 1;r8;w9 13;";
    String wide = "  s  012  ;  c  1  8  20  7  ;  m  11  1  ;  r  8  ;  w  9  13  ;  ";
    for (String text : new String[] {close, wide}) {
      ChalkedDoors x = good(text, 12);
      int[] told = {12, 1, 8, 9, 13, 0, 0, 0, 1};
      for (int what = 0; what < told.length; what++) {
        Due.is("told(" + what + ") of \"" + text + "\"", x.told(what), told[what]);
      }
      int[] chalk = {1, 8, 20, 7, 4};
      for (int what = 0; what < chalk.length; what++) {
        Due.is("chalk(0, " + what + ") of \"" + text + "\"", x.chalk(0, what), chalk[what]);
      }
      Due.is("door(11, 0) of \"" + text + "\"", x.door(11, 0), 1);
    }
    fault("s1 2;", 1, 3);
    fault("s12;m1 0 0;", 1, 9);
    fault("s12;r 0 8;", 1, 8);
    fault("s12;w 9 1 3;", 1, 10);
    fault("s12;c1 8 2 0 7;", 1, 13);
    for (int letter : new int[] {0, 9, 10, 13, 160, 31, 33}) {
      fault("s12" + (char) letter + ";", 1, 3);
      fault((char) letter + "s12;", 1, 0);
    }
  }

  private static void twoNumbersNeedABlank() {
    good("s2;m0 0;", 2);
    fault("s2;m00;", 1, 6);
    fault("s2;m0,0;", 1, 5);
    fault("s2;w113;", 2, 4);
    fault("s2;w01;", 1, 6);
    fault("s2;c0000;", 2, 4);
    fault("s2;c000;", 1, 7);
    fault("s2;c0 00;", 1, 8);
    // between a word and a number, and a number and the end, none is needed
    good("s2;c0 0 0 0;m0 1;r0;w1 0;", 2);
  }

  private static void toldAgain() {
    fault("s1;s1;", 3, 3);
    fault("s1;s", 3, 3);
    fault("s1;  s0;", 3, 5);
    fault("s1;c0 0 0 0;s1;", 3, 12);
    fault("s1;r0;r0;", 3, 6);
    fault("s1;r4;w1 0;r4;", 3, 11);
    fault("s1;r8;r", 3, 6);
    fault("s1;r8;r9;", 3, 6);
    fault("s1;w1 0;w1 0;", 3, 8);
    fault("s1;w9 13;r1;w", 3, 12);
    fault("s1;w1 0;w0 0;", 3, 8);
    // a text with a fault tells nothing: what it told is not told again by the next one
    ChalkedDoors x = new ChalkedDoors();
    Due.feed(x, "s1;c0 0 0 0;m0 1;r8;w1 1;x");
    Due.is("street() with a fault", x.street(), -11);
    Due.feed(x, "s1;" + FOUR_CHALKS + "m0 1;r8;w1 1;");
    Due.is("street() behind a fault", x.street(), 1);
    Due.feed(x, "s1;" + FOUR_CHALKS + "m0 1;r8;w1 1;");
    Due.is("street() behind a good one", x.street(), 1);
  }

  private static void chalksUpToFour() {
    for (int chalks = 0; chalks <= 4; chalks++) {
      ChalkedDoors x = good("s1;" + "c1 2 3 4;".repeat(chalks), 1);
      Due.is("told(1) of " + chalks, x.told(1), chalks);
      Due.is("chalk(" + (chalks - 1) + ", 2)", x.chalk(chalks - 1, 2), chalks == 0 ? Due.UNKNOWN : 3);
      Due.is("chalk(" + chalks + ", 2)", x.chalk(chalks, 2), Due.UNKNOWN);
    }
    fault("s1;" + FOUR_CHALKS + "c0 0 0 0;", 3, 39);
    fault("s1;" + FOUR_CHALKS + "c", 3, 39);
    fault("s1;" + FOUR_CHALKS + "c9 9 9 9;", 3, 39);
    fault("s1;" + FOUR_CHALKS + " r0; c0 0 0 0;", 3, 44);
  }

  private static void doorsToldUpToFourteen() {
    StringBuilder text = new StringBuilder("s14;c0 0 0 0;");
    for (int d = 13; d >= 0; d--) {
      text.append('m').append(d).append(" 1;");
    }
    ChalkedDoors x = good(text.toString(), 14);
    Due.is("like(1) of all fourteen", x.like(1), 16383);
    Due.is("told(7): marks at first cost nothing", x.told(7), 0);
    for (int d = 0; d <= 14; d++) {
      fault(text + "m" + d + " 1;", d == 14 ? 2 : 4, text.length() + 1);
    }
    fault("s14;m13 0;m13 0;", 4, 11);
    fault("s14;m13 0;m 013", 4, 12);
    fault("s14;m0 0;m1 0;m0 0;", 4, 15);
    good("s14;m1 0;m11 0;m13 0;m3 0;", 14);
  }

  private static void setsOfChalksToldAhead() {
    for (int chalks = 0; chalks <= 4; chalks++) {
      String ahead = "s2;" + "c0 0 0 0;".repeat(chalks) + "m1 ";
      int all = (1 << chalks) - 1;
      Due.is("door(1, 0) by \"" + ahead + all + ";\"", good(ahead + all + ";", 2).door(1, 0), all);
      fault(ahead + (all + 1) + ";", 2, ahead.length());
      fault(ahead + (all + 2) + ";", 2, ahead.length());
      // a chalk that is told behind does not help
      if (chalks < 4) {
        fault(ahead + (all + 1) + ";c0 0 0 0;", 2, ahead.length());
        good("s2;" + "c0 0 0 0;".repeat(chalks) + "m0 " + all + ";c0 0 0 0;m1 " + (all + 1) + ";", 2);
      }
    }
  }

  private static void ofFaultsAtOneLetterTheLeast() {
    // where it cannot stand, ahead of told again
    fault("ss", 1, 1);
    fault("s1s", 1, 2);
    fault("s1;rr", 1, 4);
    fault("s1;r1;m0 r", 1, 9);
    fault("s1;" + FOUR_CHALKS + "mc", 1, 40);
    // a number that cannot stand there, ahead of one that is out of its bounds
    fault("s1 9999;", 1, 3);
    fault("9999", 1, 0);
    // four figures or no such door, ahead of a door again
    fault("s2;m0 0;m0000 0;", 2, 9);
    fault("s2;m0 0;m1 0;m2 0;", 2, 14);
    fault("s2;m0 0;m0 9;", 4, 9);
  }

  private static void theFirstOfSeveralFaults() {
    fault("s15x", 2, 1);
    fault("s15;x", 2, 1);
    fault("s2;r9;s2;", 2, 4);
    fault("s2;s2;r9;", 3, 3);
    fault("s2;m0 0;m0 0;x", 4, 9);
    fault("s2;x;m0 0;m0 0;", 1, 3);
    fault("s2;c3 9 21 8;", 2, 4);
    fault("s2;c2 9 21 8;", 2, 6);
    fault("s2;c2 8 21 8;", 2, 8);
    fault("s2;c2 8 20 8;", 2, 11);
    fault("s2;w0 14;", 2, 4);
    fault("s2;m2 1;", 2, 4);
    // out of its bounds, though the text ends at once behind it
    fault("s2;r9", 2, 4);
    fault("s2;r1000", 2, 4);
  }

  private static void untold() {
    ChalkedDoors x = new ChalkedDoors();
    // more than once, so that nothing is left of any of them
    for (int k = 0; k < 3; k++) {
      Due.feed(x, "s3;c2 8 20 7;m0 1;m2 1;r0;w9 13;");
      Due.is("street(), told", x.street(), 3);
      Due.is("told(2), told", x.told(2), 0);
    }
    Due.feed(x, "s3;c0 0 0 0;m1 1;x");
    Due.is("street(), with a fault", x.street(), -11);
    Due.feed(x, "s3;");
    Due.is("street(), untold", x.street(), 3);
    Due.is("told(1), untold", x.told(1), 0);
    Due.is("told(2), untold", x.told(2), 4);
    Due.is("told(3), untold", x.told(3), 0);
    Due.is("told(4), untold", x.told(4), 0);
    Due.is("watchman(0), untold", x.watchman(0), Due.NONE);
    for (int d = 0; d < 3; d++) {
      Due.is("door(" + d + ", 0), untold", x.door(d, 0), 0);
    }
  }

  private static void faultOfTheLatestStreet() {
    ChalkedDoors x = new ChalkedDoors();
    Due.feed(x, "x");
    Due.is("fault() ahead of street()", x.fault(), Due.NONE);
    Due.is("street() of \"x\"", x.street(), -11);
    Due.is("fault() at the first letter", x.fault(), 0);
    Due.feed(x, "s1");
    Due.is("fault() of the latest street(), not of the letters fed since", x.fault(), 0);
    Due.is("street() of \"s1\"", x.street(), -11);
    Due.is("fault() at the end", x.fault(), 2);
    Due.feed(x, "s1;");
    Due.is("street() of \"s1;\"", x.street(), 1);
    Due.is("fault() of none", x.fault(), Due.NONE);
    Due.feed(x, "s0;");
    Due.is("street() of \"s0;\"", x.street(), -12);
    Due.is("fault() of \"s0;\"", x.fault(), 1);
    Due.is("street() of nothing", x.street(), 0);
    Due.is("fault() of nothing", x.fault(), Due.NONE);
  }

  /** An object in which all that street() sets back is in use. */
  private static ChalkedDoors used() {
    ChalkedDoors x = Due.street(Due.USUAL);
    x.mark(3, 2);
    x.hide(5, 2, true);
    x.note(0, 0, true);
    x.write(0, 1);
    x.keep(0);
    x.keep(1);
    x.night(3);
    x.seed(2147483647);
    return x;
  }

  private static void streetBeginsAnew() {
    ChalkedDoors x = used();
    Due.feed(x, "s14;c0 0 1 0;m13 1;");
    Due.is("street()", x.street(), 14);
    int[] told = {14, 1, 4, 0, 0, 0, 0, 0, 1, 0, 0, 0};
    for (int what = 0; what < told.length; what++) {
      Due.is("told(" + what + ") anew", x.told(what), told[what]);
    }
    for (int d = 0; d < 14; d++) {
      Due.is("door(" + d + ", 0) anew", x.door(d, 0), d == 13 ? 1 : 0);
      Due.is("door(" + d + ", 1) anew", x.door(d, 1), 0);
    }
    Due.is("judge() anew", x.judge(), Due.NONE);
    Due.is("first(-1) anew", x.first(-1), 434);
    Due.is("goBack(0) anew", x.goBack(0), Due.NOT);
    Due.is("goBack(1) anew", x.goBack(1), Due.NOT);
    Due.is("tear() anew", x.tear(), 0);
    Due.is("seed(0): it stays", x.seed(0), 2147483647);
  }

  private static void faultLeavesAllElse() {
    String[] faulty = {"x", "s0;", "s14;c2 8 20 7;m0 1;r0;w9 13;s1;", "s14;m13 0;m13 0;", "s14;c2 8 20 7;m0 1;m1 1;r0;w9 13"};
    for (String text : faulty) {
      ChalkedDoors x = Due.feed(used(), text);
      Due.is("street() of \"" + text + "\": is it a fault?", x.street() < 0 ? 1 : 0, 1);
      Due.is("fault() of \"" + text + "\": is it told?", x.fault() >= 0 ? 1 : 0, 1);
      List<Integer> seen = Sight.of(x);
      List<Integer> due = Sight.of(used());
      // the first one seen is fault(), which does change
      if (!seen.subList(1, seen.size()).equals(due.subList(1, due.size()))) {
        Due.fail("\"" + text + "\" has changed something");
      }
    }
  }
}
