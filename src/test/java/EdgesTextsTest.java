/** Each sentence of "Terms", part 4, and of promises 23 to 27 that names an edge: a test of its own. */
public final class EdgesTextsTest {
  private static final int BAD = CatDoors.BAD, FULL = CatDoors.FULL, NONE = CatDoors.NONE;
  private static final int LOW = Integer.MIN_VALUE, HIGH = Integer.MAX_VALUE;
  private static final Due due = new Due("EdgesTextsTest");

  private static void gives(String law, int want) {
    CatDoors x = new CatDoors();
    due.is(25, "text '" + law + "'", Due.text(x, law), 0);
    due.is(21, "'" + law + "'", x.fee(), want);
  }

  private static void fault(String law, int place) {
    CatDoors x = new CatDoors();
    due.is(25, "'" + law + "'", Due.text(x, law), -100 - place);
    due.is(25, "'" + law + "' is no TEXT", x.count(8), 0);
  }

  private static CatDoors withTape(int bytes) {
    CatDoors x = new CatDoors();
    for (int i = 0; i < bytes; i += 12) x.feed(0x66656520, 0x31202020, 0x20202020);
    x.trim(bytes);
    return x;
  }

  private static CatDoors withTexts(int many) {
    CatDoors x = new CatDoors();
    x.keep();
    x.tell(7);
    x.lay(0, 3, 5);
    for (int i = 0; i < many; i++) Due.text(x, "fee " + i);
    return x;
  }

  private static String times(String one, int many) { return one.repeat(many); }

  // ---- Terms, part 4: texts, the tape, keys

  // Terms 4: "TEXTS, 14 at most, numbered from 0".
  static void terms4FourteenTextsAtMost() {
    CatDoors x = new CatDoors();
    for (int i = 0; i < 14; i++) due.is(25, "text " + i, Due.text(x, "fee " + i), i);
    due.is(25, "the 15th", Due.text(x, "fee 99"), FULL);
    due.is(41, "count(8)", x.count(8), 14);
  }

  // Terms 4: "THE TAPE (96 bytes at most; ...)".
  static void terms4Tape96BytesAtMost() {
    CatDoors x = withTape(84);
    due.is(23, "up to 96", x.feed(1, 2, 3), 96);
    due.is(23, "above 96", x.feed(1, 2, 3), FULL);
    due.is(41, "count(10)", x.count(10), 96);
  }

  // Terms 4: "(96 bytes ...)": a TEXT of 96 bytes is read to its last one.
  static void terms4TextOf96Bytes() {
    gives("fee " + times("1+", 45) + "12", 57);
    gives("fee " + times(" ", 91) + "7", 7);
    fault("fee " + times("1+", 46), 96);
    fault("fee " + times(" ", 91) + "x", 95);
  }

  // Terms 4: "an act that reads it uses it up, whatever it answers": a TEXT.
  static void terms4TapeIsUsedUpByAText() {
    CatDoors x = new CatDoors();
    due.is(25, "text()", Due.text(x, "fee 1"), 0);
    due.is(41, "count(10)", x.count(10), 0);
    due.is(25, "text() of nothing", x.text(), -100);
  }

  // Terms 4: "an act that reads it uses it up, whatever it answers": a FAULT.
  static void terms4TapeIsUsedUpByAFault() {
    CatDoors x = new CatDoors();
    due.is(25, "text()", Due.text(x, "fee ?"), -104);
    due.is(41, "count(10)", x.count(10), 0);
    due.is(25, "text() of nothing", x.text(), -100);
  }

  // Terms 4: "an act that reads it uses it up, whatever it answers": FULL.
  static void terms4TapeIsUsedUpByFull() {
    CatDoors x = withTexts(14);
    due.is(25, "text()", Due.text(x, "fee 1"), FULL);
    due.is(41, "count(10)", x.count(10), 0);
  }

  // Terms 4: "uses it up": what comes to it then starts at its first byte.
  static void terms4TapeStartsAnew() {
    CatDoors x = withTape(96);
    x.text();
    due.is(23, "feed", x.feed(0x66656520, 0x38202020, 0x20202020), 12);
    due.holds(25, "text()", x.text() >= 0);
    due.is(21, "fee()", x.fee(), 8);
  }

  // Terms 4: "KEY: press | fee | fine.": these three words alone.
  static void terms4Keys() {
    CatDoors x = new CatDoors();
    due.is(25, "press", Due.text(x, "press 1"), 0);
    due.is(25, "fee", Due.text(x, "fee 1"), 1);
    due.is(25, "fine", Due.text(x, "fine 1"), 2);
    for (int t = 0; t < 3; t++) due.is(26, "textTold(" + t + ", 0)", x.textTold(t, 0), t);
    for (String word : new String[] {"pres", "presss", "fe", "feee", "fin", "fines", "Fee", "f", "fees", "gee", "bress", "dine", "feed", "h", "1", "("}) fault(word + " 1", 0);
  }

  // Terms 4: "KEY E.": a KEY alone ends too soon, two KEYS are one too many.
  static void terms4KeyThenE() {
    fault("press", 5);
    fault("fine ", 5);
    fault("fee fee 1", 4);
    fault("fee 1 fee 1", 6);
  }

  // ---- Terms, part 4: E

  // Terms 4: "E, the loosest first: OR: AND { | AND }": | is looser than &.
  static void terms4OrIsLoosest() {
    gives("fee 1|1&0", 1);
    gives("fee 0&0|1", 1);
    gives("fee (1|1)&0", 0);
    gives("fee 0|0|0|5", 1);
  }

  // Terms 4: "AND: TEST { & TEST }": & is looser than tests.
  static void terms4AndIsLooserThanTests() {
    gives("fee 2&1=1", 1);
    gives("fee (2&1)=2", 0);
    gives("fee 1&2&3&0", 0);
  }

  // Terms 4: "TEST: SUM [ (< | = | >) SUM ]": one sign at most.
  static void terms4OneTestAtMost() {
    for (String a : new String[] {"<", "=", ">"}) {
      for (String b : new String[] {"<", "=", ">"}) fault("fee 1" + a + "2" + b + "3", 7);
    }
    gives("fee (1<2)<3", 1);
    gives("fee 3>(2>1)", 1);
    gives("fee 1<2&2<3", 1);
  }

  // Terms 4: "<", "=", ">": at equal sides and one apart.
  static void terms4TestsAtTheirEdges() {
    gives("fee 4<5", 1);
    gives("fee 5<5", 0);
    gives("fee 6<5", 0);
    gives("fee 4=5", 0);
    gives("fee 5=5", 1);
    gives("fee 4>5", 0);
    gives("fee 5>5", 0);
    gives("fee 6>5", 1);
    gives("fee 0-1<0", 1);
  }

  // Terms 4: "SUM: TERM { (+ | -) TERM }": from left to right, tighter than tests.
  static void terms4Sums() {
    gives("fee 9-4-3", 2);
    gives("fee 9-(4-3)", 8);
    gives("fee 1+1=2", 1);
    gives("fee 1-2+3-4", -2);
  }

  // Terms 4: "TERM: PIECE { (* | /) PIECE }": from left to right, tighter than sums.
  static void terms4Terms() {
    gives("fee 2+3*4", 14);
    gives("fee 7/2*2", 6);
    gives("fee 100/7/2", 7);
    gives("fee 2*7/3", 4);
    gives("fee 10-6/4", 9);
  }

  // Terms 4: "NUMBER (1 to 4 digits)": from 0 to 9999, with 0s ahead.
  static void terms4NumbersOf1To4Digits() {
    gives("fee 0", 0);
    gives("fee 9999", 9999);
    gives("fee 0000", 0);
    gives("fee 0012", 12);
    gives("fee 123", 123);
  }

  // Terms 4, FAULT: "a NUMBER of more than 4 digits": its first byte.
  static void terms4NumberOf5Digits() {
    fault("fee 12345", 4);
    fault("fee 00000", 4);
    fault("fee 1+10000", 6);
    fault("fee " + times("0", 92), 4);
    fault("fee (12345", 5);
  }

  // Terms 4: "NAMES ...: of press h HABIT, m MEANS, w WORKED": these alone.
  static void terms4NamesOfPress() {
    CatDoors x = new CatDoors();
    x.asking(0, 0, 30, 40);
    x.opens(0);
    for (String[] pair : new String[][] {{"h", "38"}, {"m", "40"}, {"w", "1"}}) {
      Due.text(x, "press " + pair[0]);
      due.is(3, "press " + pair[0], x.told(0, 5), Integer.parseInt(pair[1]));
    }
    for (char c = 'a'; c <= 'z'; c++) if ("hmw".indexOf(c) < 0) fault("press " + c, 6);
  }

  // Terms 4: "NAMES ...: of fee r RISINGS, p PAINT": these alone.
  static void terms4NamesOfFee() {
    CatDoors x = new CatDoors();
    x.asking(3, 0, 99, 0);
    x.opens(0);
    x.rule(0, 99);
    x.rule(2, 0);
    x.seed(Dice.seed(-1, -1, 0));
    x.hours(1);
    Due.text(x, "fee r*100+p");
    due.is(21, "fee()", x.fee(), 107);
    for (char c = 'a'; c <= 'z'; c++) if ("rp".indexOf(c) < 0) fault("fee " + c, 4);
  }

  // Terms 4: "NAMES ...: of fine h HABIT, w WORKED": these alone.
  static void terms4NamesOfFine() {
    CatDoors x = new CatDoors();
    x.asking(0, 0, 30, 40);
    x.opens(0);
    Due.text(x, "fine h*100+w");
    due.is(22, "fine(0)", x.fine(0), 3801);
    for (char c = 'a'; c <= 'z'; c++) if ("hw".indexOf(c) < 0) fault("fine " + c, 5);
  }

  // Terms 4: "NAMES, each one letter": two are none.
  static void terms4NamesAreOneLetter() {
    fault("press hh", 6);
    fault("fee rp", 4);
    fault("fine hw", 5);
    fault("press h m", 8);
  }

  // Terms 4: "! PIECE": tighter than all, over a NUMBER, a NAME, another !, and ( E ).
  static void terms4NotOfAPiece() {
    gives("fee !0*7", 7);
    gives("fee !r+1", 2);
    gives("fee !!7", 1);
    gives("fee !(0|7)", 0);
    gives("fee 7*!0", 7);
    fault("fee !", 5);
    fault("fee !+1", 5);
    fault("fee !)", 5);
    fault("fee 1!", 5);
  }

  // Terms 4: "( E )": something must stand in it, and it must be closed.
  static void terms4Parentheses() {
    gives("fee ((1)+(2))*(3)", 9);
    fault("fee ()", 5);
    fault("fee (1", 6);
    fault("fee (1 ", 7);
    fault("fee 1)", 5);
    fault("fee (1))", 7);
    fault("fee )", 4);
    fault("fee (1+)", 7);
    fault("fee (1)(2)", 7);
    fault("fee (1) 2", 8);
  }

  // ---- Terms, part 4: words, signs, blanks

  // Terms 4: "A word is a row of letters a .. z, or of digits, as long as it goes": the bytes beside these ranges are signs.
  static void terms4LettersAndDigits() {
    fault("fee" + (char) ('a' - 1) + "1", 3);
    fault("fee" + (char) ('z' + 1) + "1", 3);
    fault("fee" + (char) ('0' - 1) + "1", 3);
    fault("fee" + (char) ('9' + 1) + "1", 3);
    gives("fee 09", 9);
    fault("fee az", 4);
    fault("feea 1", 0);
    fault("feez 1", 0);
    fault("FEE 1", 0);
    fault("fee R", 4);
  }

  // Terms 4: "any other byte is a sign by itself": two signs in a row are two.
  static void terms4SignsByThemselves() {
    fault("fee 1==1", 6);
    fault("fee 1<=1", 6);
    fault("fee 1&&1", 6);
    fault("fee 1||1", 6);
    fault("fee 1--1", 6);
    fault("fee 1!=1", 5);
    gives("fee 1&!!1", 1);
  }

  // Terms 4: "any other byte is a sign by itself": no byte but those of the grammar is ever one that goes on.
  static void terms4NoOtherSignGoesOn() {
    for (int b = 0; b < 256; b++) {
      char c = (char) b;
      if (c == ' ') continue;
      if ("|&<=>+-*/".indexOf(c) >= 0) fault("fee 1 " + c, 7);
      else fault("fee 1 " + c + "1", 6);
    }
  }

  // Terms 4: no byte but digits, names, ! and ( starts a PIECE.
  static void terms4NoOtherByteStartsAPiece() {
    for (int b = 0; b < 256; b++) {
      char c = (char) b;
      boolean starts = c >= '0' && c <= '9' || c == 'r' || c == 'p' || c == ' ' || c == '!' || c == '(';
      if (starts) continue;
      fault("fee 1+" + c, 6);
    }
  }

  // Terms 4: "Between words and signs, and at the ends, there may be blanks (byte 32)": any number, or none beside signs.
  static void terms4Blanks() {
    gives("fee(7)", 7);
    gives("fee!0", 1);
    gives("   fee   (   7   )   ", 7);
    gives(" fee 7", 7);
    gives("fee 7 ", 7);
    gives("fee 1+2", 3);
    gives("fee 1 + 2", 3);
  }

  // Terms 4: "blanks (byte 32)": no other byte is one.
  static void terms4OtherBytesAreNoBlanks() {
    for (char c : new char[] {9, 10, 13, 0, 160, 31, 33 + 128}) {
      fault("fee" + c + "1", 3);
      fault("fee 1" + c, 5);
      fault(c + "fee 1", 0);
    }
  }

  // Terms 4: "a word right behind another one needs one", FAULT: "a word that needs a blank ahead of it".
  static void terms4WordNeedsABlank() {
    fault("fee1", 3);
    fault("fee r1", 5);
    fault("fee 1r", 5);
    fault("fee 1+2p", 7);
    fault("press5", 5);
    fault("feer", 0);
    fault("fee1234567", 3);
  }

  // ---- Terms, part 4: faults

  // Terms 4, FAULT: "the end (the place behind the last byte), if it comes too soon": of an empty TAPE it is 0.
  static void terms4EndOfAnEmptyTape() {
    due.is(25, "text() of nothing", new CatDoors().text(), -100);
    CatDoors x = withTape(24);
    x.trim(0);
    due.is(25, "text() of nothing left", x.text(), -100);
  }

  // Terms 4, FAULT: "the end (the place behind the last byte)": behind blanks, if there are some.
  static void terms4EndBehindBlanks() {
    fault(" ", 1);
    fault(times(" ", 96), 96);
    fault("fee", 3);
    fault("fee   ", 6);
    fault("fee 1+  ", 8);
  }

  // Terms 4, FAULT: "if it comes too soon": behind each sign that wants something more.
  static void terms4EndBehindEachSign() {
    for (String sign : new String[] {"|", "&", "<", "=", ">", "+", "-", "*", "/"}) fault("fee 1" + sign, 6);
    fault("fee (", 5);
    fault("fee !", 5);
    fault("fee (1+2", 8);
  }

  // Terms 4, FAULT: "the first byte of the first word or sign with which no TEXT goes on": the first of several.
  static void terms4TheFirstOfSeveralFaults() {
    fault("fee ? 12345 ?", 4);
    fault("xyz ? 12345", 0);
    fault("fee 1 + hello )", 8);
    fault("fee 1 2 3", 6);
  }

  // Terms 4, FAULT: "the first byte of the ... word": also of a long one.
  static void terms4TheFirstByteOfAWord() {
    fault("fee 1+  hello", 8);
    fault("  feeling 1", 2);
  }

  // Terms 4, FAULT: "the ninth ( that would be open within others": eight are fine.
  static void terms4EightAndNineParentheses() {
    gives("fee " + times("(", 8) + "5" + times(")", 8), 5);
    fault("fee " + times("(", 9) + "5" + times(")", 9), 12);
    fault("fee " + times("1+(", 9) + "1" + times(")", 9), 30);
  }

  // Terms 4, FAULT: "open within others": those that are closed do not count.
  static void terms4ClosedParenthesesDoNotCount() {
    gives("fee " + times("(1)+", 20) + "1", 21);
    gives("fee (" + times("(1)+", 12) + times("(", 7) + "1" + times(")", 8), 13);
    fault("fee (" + times("(1)+", 12) + times("(", 8) + "1" + times(")", 9), 60);
  }

  // Terms 4, FAULT: "the ninth ! likewise": eight are fine.
  static void terms4EightAndNineNots() {
    gives("fee " + times("!", 8) + "5", 1);
    fault("fee " + times("!", 9) + "5", 12);
    fault("fee " + times("! ", 9) + "5", 20);
  }

  // Terms 4, FAULT: "the ninth ! likewise": open within others through ( too; those whose PIECE has ended do not count.
  static void terms4NotsThatAreOpen() {
    gives("fee " + times("!1+", 20) + "!0", 1);
    gives("fee " + times("!(", 8) + "5" + times(")", 8), 1);
    fault("fee " + times("!(", 8) + "!5" + times(")", 8), 20);
    gives("fee " + times("!(", 7) + "!1+!1+!1" + times(")", 7), 1);
  }

  // Terms 4, FAULT: "each by itself": eight of both are fine together.
  static void terms4EachByItself() {
    gives("fee " + times("!", 8) + times("(", 8) + "5" + times(")", 8), 1);
    gives("fee " + times("(", 8) + times("!", 8) + "5" + times(")", 8), 1);
    gives("fee " + times("(!", 8) + "5" + times(")", 8), 1);
    fault("fee " + times("(!", 8) + "(5", 20);
    fault("fee " + times("(!", 8) + "!5", 20);
  }

  // ---- Terms, part 4: what texts give

  // Terms 4: "Ints wrap": + above the greatest, - below the least, * beyond both.
  static void terms4IntsWrap() {
    gives("fee 2048*1024*1024", LOW);
    gives("fee 2048*1024*1024-1", HIGH);
    gives("fee 0-1-(2048*1024*1024-1)-1", HIGH);
    gives("fee 9999*9999*9999", 9999 * 9999 * 9999);
    gives("fee 2048*1024*1024-1+1", LOW);
  }

  // Terms 4: "/ is 0 by 0": and so it is by something that gives 0.
  static void terms4DivisionBy0() {
    gives("fee 5/0", 0);
    gives("fee 0/0", 0);
    gives("fee 7+5/(3-3)", 7);
    gives("fee 5/r", 0);
    gives("fee 5/!1", 0);
  }

  // Terms: "/ cuts towards 0"; Terms 4: of numbers below 0 too.
  static void terms4DivisionCutsTowards0() {
    gives("fee 7/2", 3);
    gives("fee (0-7)/2", -3);
    gives("fee 7/(0-2)", -3);
    gives("fee (0-7)/(0-2)", 3);
    gives("fee (0-1)/2", 0);
  }

  // Terms 4: "Ints wrap; /": the least int by -1 is itself.
  static void terms4LeastByMinusOne() { gives("fee 2048*1024*1024/(0-1)", LOW); }

  // Terms 4: "tests, & | ! give 1 or 0".
  static void terms4TruthIs1Or0() {
    gives("fee 5&7", 1);
    gives("fee 5|7", 1);
    gives("fee 6|0", 1);
    gives("fee !7", 0);
    gives("fee !!7", 1);
    gives("fee (5>3)+(5>4)", 2);
  }

  // Terms 4: "(what is not 0 is true; ...)": numbers below 0 too.
  static void terms4BelowZeroIsTrue() {
    gives("fee (0-1)&(0-2)", 1);
    gives("fee 0|(0-3)", 1);
    gives("fee !(0-1)", 0);
    gives("fee 2048*1024*1024&1", 1);
  }

  // Terms 4: "(... both sides are worked out)": a / by 0 in one of them harms nothing.
  static void terms4BothSidesAreWorkedOut() {
    gives("fee 1|1/0", 1);
    gives("fee 0&1/0", 0);
    gives("fee 0|1/0", 0);
  }

  // Terms 4: "Of a KEY that TEXT counts that was told last.": not an earlier one, nor one of another KEY, nor a FAULT.
  static void terms4TheLastTextCounts() {
    CatDoors x = new CatDoors();
    Due.text(x, "fee 1");
    Due.text(x, "fee 2");
    due.is(21, "fee()", x.fee(), 2);
    Due.text(x, "fine 3");
    Due.text(x, "press 4");
    due.is(21, "fee() still", x.fee(), 2);
    Due.text(x, "fee 5 5");
    due.is(21, "fee() behind a FAULT", x.fee(), 2);
    due.is(27, "why(1)", x.why(1), 1);
  }

  // Terms 4: "Of a KEY that TEXT counts that was told last.": one that was FULL was not told.
  static void terms4FullIsNotTold() {
    CatDoors x = withTexts(14);
    Due.text(x, "fee 99");
    due.is(21, "fee()", x.fee(), 13);
    due.is(27, "why(1)", x.why(1), 13);
  }

  // Terms 4 and 5: the TEXT that counts behind back() is the image's.
  static void terms4TheLastTextOfTheImage() {
    CatDoors x = withTexts(2);
    x.keep();
    Due.text(x, "fee 50");
    Due.text(x, "press 60");
    x.back();
    due.is(21, "fee()", x.fee(), 1);
    due.is(27, "why(1)", x.why(1), 1);
    due.is(27, "why(0)", x.why(0), NONE);
    due.is(25, "the next one's number", Due.text(x, "fee 70"), 2);
    due.is(21, "fee()", x.fee(), 70);
    x.back();
    due.is(21, "fee() again", x.fee(), 1);
  }

  // ---- Promises 23 to 27

  // Promise 23: "Twelve bytes come to THE TAPE, ...: how many it has."
  static void promise23TwelveBytes() {
    CatDoors x = new CatDoors();
    for (int i = 1; i <= 8; i++) due.is(23, "feed", x.feed(LOW, HIGH, -1), 12 * i);
    CatDoors y = withTape(5);
    due.is(23, "behind five", y.feed(0, 0, 0), 17);
  }

  // Promise 23: "the highest of each number first".
  static void promise23HighestByteFirst() {
    CatDoors x = new CatDoors();
    x.feed('f' << 24 | 'i' << 16 | 'n' << 8 | 'e', ' ' << 24 | '1' << 16 | '2' << 8 | '3', '4' << 24 | '+' << 16 | 'h' << 8 | ' ');
    due.is(25, "text()", x.text(), 0);
    x.asking(0, 0, 5, 0);
    due.is(22, "fine(0)", x.fine(0), 1239);
  }

  // Promise 23: "FULL: it would have more than 96.": from 85 bytes on, and nothing of it comes.
  static void promise23Full() {
    for (int bytes : new int[] {85, 90, 95, 96}) due.refuses(23, "feed behind " + bytes, () -> withTape(bytes), x -> x.feed(0, 0, 0), FULL);
    due.is(23, "feed behind 84", withTape(84).feed(0, 0, 0), 96);
  }

  // Promise 24: "THE TAPE keeps its first n bytes: n.": none, all.
  static void promise24EndsOfN() {
    CatDoors x = withTape(24);
    due.is(24, "trim(24)", x.trim(24), 24);
    due.is(41, "count(10)", x.count(10), 24);
    due.is(24, "trim(0)", x.trim(0), 0);
    due.is(41, "count(10)", x.count(10), 0);
    due.is(24, "trim(0) of none", x.trim(0), 0);
    due.is(24, "trim(96)", withTape(96).trim(96), 96);
  }

  // Promise 24: "BAD.": below 0, and more than there are (what was cut off does not come back).
  static void promise24Bad() {
    for (int n : new int[] {-1, 25, 96, 97, LOW, HIGH}) due.refuses(24, "trim(" + n + ")", () -> withTape(24), x -> x.trim(n), BAD);
    CatDoors x = withTape(24);
    x.trim(10);
    due.is(24, "trim(11)", x.trim(11), BAD);
    due.is(24, "trim(1) of none", new CatDoors().trim(1), BAD);
  }

  // Promise 24: "its first n bytes": the others are gone from a TEXT.
  static void promise24FirstBytes() {
    CatDoors x = new CatDoors();
    Due.feeds(x, "fee 1234 + oops");
    due.is(24, "trim(7)", x.trim(7), 7);
    due.is(25, "text()", x.text(), 0);
    due.is(21, "fee()", x.fee(), 123);
  }

  // Promise 25: "-100 less the place of its FAULT": from the first place to the one behind the 96th.
  static void promise25PlacesOfFaults() {
    fault("?", 0);
    fault("fee 1 ?", 6);
    fault("fee 1" + times(" ", 90) + "?", 95);
    fault("fee 1" + times(" ", 90) + "+", 96);
  }

  // Promise 25: "-100 less the place of its FAULT": nothing changes but THE TAPE.
  static void promise25FaultChangesNothingElse() {
    due.refuses(25, "a FAULT", () -> withTexts(3), x -> Due.text(x, "press h h"), -108);
  }

  // Promise 25: "FULL": nothing changes but THE TAPE.
  static void promise25FullChangesNothingElse() {
    due.refuses(25, "the 15th", () -> withTexts(14), x -> Due.text(x, "press h"), FULL);
  }

  // Promise 25: "-100 less the place of its FAULT; FULL.": the FAULT stands first.
  static void promise25FaultStandsBeforeFull() {
    due.is(25, "a wrong 15th", Due.text(withTexts(14), "fee"), -103);
    due.is(25, "an empty 15th", withTexts(14).text(), -100);
  }

  // Promise 26: "BAD.": no such TEXT.
  static void promise26BadText() {
    for (int t : new int[] {-1, 3, 14, LOW, HIGH}) due.refuses(26, "textTold(" + t + ", 0)", () -> withTexts(3), x -> x.textTold(t, 0), BAD);
    due.is(26, "of none", new CatDoors().textTold(0, 0), BAD);
    due.is(26, "the last of 14", withTexts(14).textTold(13, 0), 1);
    due.is(26, "behind the last of 14", withTexts(14).textTold(14, 0), BAD);
  }

  // Promise 26: "what 0 KEY ..., 1 how many NUMBERS and NAMES it has. BAD."
  static void promise26BadWhat() {
    for (int w : new int[] {-1, 2, LOW, HIGH}) due.refuses(26, "textTold(0, " + w + ")", () -> withTexts(3), x -> x.textTold(0, w), BAD);
  }

  // Promise 26: "how many NUMBERS and NAMES it has": the fewest, the most, and each as often as it stands there.
  static void promise26Leaves() {
    CatDoors x = new CatDoors();
    Due.text(x, "press !((h))");
    Due.text(x, "fee " + times("1+", 45) + "r");
    Due.text(x, "fine h+h*12-w/h&3");
    due.is(26, "one", x.textTold(0, 1), 1);
    due.is(26, "46", x.textTold(1, 1), 46);
    due.is(26, "six", x.textTold(2, 1), 6);
    due.is(21, "fee()", x.fee(), 45);
  }

  // Promise 27: "BAD; NONE.": no such KEY, and one without a TEXT.
  static void promise27BadAndNone() {
    for (int k : new int[] {-1, 3, LOW, HIGH}) due.refuses(27, "why(" + k + ")", () -> withTexts(3), x -> x.why(k), BAD);
    due.is(27, "why(0)", withTexts(3).why(0), NONE);
    due.is(27, "why(2)", withTexts(3).why(2), NONE);
    due.is(27, "why(1)", withTexts(3).why(1), 2);
    due.is(27, "why(3) of none", new CatDoors().why(3), BAD);
  }

  public static void main(String[] args) { due.runs(EdgesTextsTest.class); }
}
