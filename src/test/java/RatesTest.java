/** Promises 22 to 26: rates. */
public final class RatesTest {
  private static final Due due = new Due("RatesTest");

  public static void main(String[] args) {
    feed();
    rate();
    force();
    faults();
    values();
    wraps();
    price();
    owed();
    due.end();
  }

  private static void feed() {
    DesertWire x = new DesertWire();
    due.is("feed(1, 0)", x.feed(1, 0), Due.BEYOND);
    due.is("feed(1, 9)", x.feed(1, 9), Due.BEYOND);
    due.is("feed(1, -1)", x.feed(1, -1), Due.BEYOND);
    for (int i = 1; i <= 6; i++) {
      due.is("feed of 8", x.feed(-1L, 8), 8 * i);
    }
    due.is("feed of 3 more", x.feed(1, 3), Due.FULL);
    due.is("feed of 9 more", x.feed(1, 9), Due.BEYOND);
    due.is("feed of 2 more", x.feed(1, 2), 50);
    due.is("feed of 1 more", x.feed(1, 1), Due.FULL);
    due.is("count(6)", x.count(6), 50);
    due.is("a byte of 255", x.rate(0, 0), -10);
    due.is("THE TAPE is empty", x.count(6), 0);
    x.feed('n' | '*' << 8 | '3' << 16, 3);
    due.is("the lowest first", x.rate(0, 0), 0);
    due.is("n*3", x.price(0, 5, 0, 0), 15);
    x.feed('n' + (1L << 40), 1);
    due.is("one byte alone", x.count(6), 1);
    x.feed(((long) '7' << 56) | 0x2B312B312B312BL, 8);
    due.is("eight bytes", x.rate(0, 0), 1);
    due.is("n+1+1+1+7", x.price(0, 5, 0, 0), 15);
  }

  private static void rate() {
    DesertWire x = new DesertWire();
    Due.type(x, "1");
    due.is("rate(3, 0)", x.rate(3, 0), Due.BEYOND);
    due.is("rate(-1, 0)", x.rate(-1, 0), Due.BEYOND);
    due.is("rate(0, -1)", x.rate(0, -1), Due.BEYOND);
    due.is("rate(0, 2001)", x.rate(0, 2001), Due.BEYOND);
    due.is("THE TAPE stays", x.count(6), 1);
    due.is("rate(0, 2000)", x.rate(0, 2000), 0);
    due.is("THE TAPE is empty", x.count(6), 0);
    due.is("an empty TEXT", x.rate(0, 0), -10);
    due.is("count(4)", x.count(4), 1);
    for (int i = 1; i < 12; i++) {
      Due.type(x, "" + i);
      due.is("rate " + i, x.rate(i % 3, 0), i);
    }
    Due.type(x, "?");
    due.is("a 13th", x.rate(0, 0), Due.FULL);
    due.is("a 13th beyond", x.rate(3, 0), Due.BEYOND);
    due.is("THE TAPE stays then", x.count(6), 1);
    due.is("count(4) then", x.count(4), 12);
  }

  private static void force() {
    DesertWire x = new DesertWire();
    due.is("force(0, 0) of none", x.force(0, 0), Due.NONE);
    int[] uses = {0, 1, 0, 0, 2};
    int[] froms = {10, 0, 30, 20, 5};
    for (int i = 0; i < 5; i++) {
      Due.type(x, "" + (100 + i));
      x.rate(uses[i], froms[i]);
    }
    int[][] want = {
      {0, 9, Due.NONE}, {0, 10, 0}, {0, 19, 0}, {0, 20, 3}, {0, 29, 3}, {0, 30, 3}, {0, 2000, 3},
      {1, 0, 1}, {1, 2000, 1}, {2, 4, Due.NONE}, {2, 5, 4},
      {3, 0, Due.BEYOND}, {-1, 0, Due.BEYOND}, {0, -1, Due.BEYOND}, {0, 2001, Due.BEYOND},
    };
    for (int[] w : want) {
      due.is("force(" + w[0] + ", " + w[1] + ")", x.force(w[0], w[1]), w[2]);
    }
    due.is("PRICE without a RATE in force", x.price(0, 3, 1, 4), 12);
    x.days(10);
    due.is("PRICE on DAY 10", x.price(0, 3, 1, 4), 100);
    x.days(10);
    due.is("PRICE on DAY 20", x.price(0, 3, 1, 4), 103);
    x.days(30);
    due.is("PRICE on DAY 50", x.price(0, 3, 1, 4), 103);
    due.is("found(2)", x.found(2), 3);
  }

  private static void fault(int use, String text, int want) {
    DesertWire x = new DesertWire();
    Due.type(x, text);
    int due1 = want < 0 ? 0 : -10 - want;
    due.is("rate of " + text, x.rate(use, 0), due1);
    due.is("THE TAPE behind " + text, x.count(6), 0);
    due.is("RATES behind " + text, x.count(4), want < 0 ? 1 : 0);
    due.is("findings behind " + text, x.found(1) + x.found(2) + x.found(3), 0);
  }

  private static void faults() {
    String[] fine = {
      "1", "1234", "n", "c", "m", "-n", "!n", "--n", "!-!-n", "(n)", "((((n))))", "n+1", "n-1",
      "n--1", "n<1", "n=1", "n>1", "(n<1)<2", "n&c|m&1", "n*c%m", "((n))*((c))", "-(n)", "0000",
      "----n+----n", "(((-n)+(-n))&!!!1)", "-(-(1))", "1<2&3<4|5=6&!7>8",
    };
    for (String text : fine) {
      fault(0, text, -1);
    }
    fault(0, "", 0);
    fault(0, "12345", 4);
    fault(0, "n+12345", 6);
    fault(0, "1n", 1);
    fault(0, "n1", 1);
    fault(0, "nn", 1);
    fault(0, "l", 0);
    fault(0, "n+d", 2);
    fault(0, "N", 0);
    fault(0, "n +1", 1);
    fault(0, " n", 0);
    fault(0, "n+", 2);
    fault(0, "n*", 2);
    fault(0, "n+*1", 2);
    fault(0, "+n", 0);
    fault(0, "n!1", 1);
    fault(0, "1<2<3", 3);
    fault(0, "1=2>3", 3);
    fault(0, "(1<2<3)", 4);
    fault(0, "1<=2", 2);
    fault(0, "1==2", 2);
    fault(0, "1||2", 2);
    fault(0, "1&&2", 2);
    fault(0, "1|", 2);
    fault(0, "(1", 2);
    fault(0, "(", 1);
    fault(0, "()", 1);
    fault(0, "1)", 1);
    fault(0, "(1))", 3);
    fault(0, "(1n", 2);
    fault(0, "-----n", 4);
    fault(0, "!!!!!n", 4);
    fault(0, "(((((n)))))", 4);
    fault(0, "(-(-(n", 4);
    fault(0, "(-(-n", 5);
    fault(0, "n-----n", -1);
    fault(0, "n------n", 6);
    fault(0, "((((n)+-1)))", -1);
    fault(0, "((((n+-1))))", 6);
    fault(0, "1/2", 1);
    fault(0, "1^2", 1);
    fault(0, "\u0000", 0);
    fault(0, "n\u00ee", 1);
    fault(1, "l+d", -1);
    fault(1, "n", 0);
    fault(1, "l+k", 2);
    fault(2, "k*s-g", -1);
    fault(2, "k*d", 2);
    fault(2, "n", 0);
    String full = "n+n+n+n+n+n+n+n+n+n+n+n+n+n+n+n+n+n+n+n+n+n+n+n+nn";
    fault(0, full, 49);
    fault(0, full.substring(0, 49) + "*", 50);
    fault(0, full.substring(0, 48) + "-1", -1);
  }

  private static void value(String text, int n, int c, int m, int want) {
    DesertWire x = new DesertWire();
    Due.type(x, text);
    due.is("rate of " + text, x.rate(0, 0), 0);
    due.is(text + " for " + n + ", " + c + ", " + m, x.price(0, n, c, m), want);
  }

  private static void values() {
    value("n", 7, 8, 9, 7);
    value("c", 7, 8, 9, 8);
    value("m", 7, 8, 9, 9);
    value("0012", 0, 0, 0, 12);
    value("9999", 0, 0, 0, 9999);
    value("n-c-m", 7, 8, 9, -10);
    value("n+c*m", 7, 8, 9, 79);
    value("(n+c)*m", 7, 8, 9, 135);
    value("n*c%m", 7, 8, 9, 2);
    value("n%c*m", 17, 5, 3, 6);
    value("n%c", -17, 5, 0, -2);
    value("n%c", 17, -5, 0, 2);
    value("n%c", 17, 0, 0, 0);
    value("-n%c", 17, 5, 0, -2);
    value("-n-n", 3, 0, 0, -6);
    value("!n", 0, 0, 0, 1);
    value("!n", -5, 0, 0, 0);
    value("!!n", -5, 0, 0, 1);
    value("n|c", 0, 0, 0, 0);
    value("n|c", 0, -2, 0, 1);
    value("n|c", 5, 0, 0, 1);
    value("n&c", 5, 2, 0, 1);
    value("n&c", 5, 0, 0, 0);
    value("n&c|m", 0, 0, 8, 1);
    value("m|n&c", 0, 1, 8, 1);
    value("(m|n)&c", 0, 0, 8, 0);
    value("n<c", 1, 2, 0, 1);
    value("n<c", 2, 2, 0, 0);
    value("n=c", 2, 2, 0, 1);
    value("n=c", 1, 2, 0, 0);
    value("n>c", 3, 2, 0, 1);
    value("n>c", 2, 2, 0, 0);
    value("n+1<c*2", 1, 2, 0, 1);
    value("n<c&c<m", 1, 2, 3, 1);
    value("n<c&c<m", 1, 3, 3, 0);
    value("n-2-1", 9, 0, 0, 6);
    value("n-(2-1)", 9, 0, 0, 8);
    value("0|0|n", 9, 0, 0, 1);
    value("1&2&n", 0, 0, 0, 0);
    value("-n*c", 3, 4, 0, -12);
    value("!n*c", 0, 4, 0, 4);
    value("!(n*c)", 0, 4, 0, 1);
  }

  private static void wraps() {
    int least = Integer.MIN_VALUE;
    int most = Integer.MAX_VALUE;
    value("n+1", most, 0, 0, least);
    value("n-1", least, 0, 0, most);
    value("-n", least, 0, 0, least);
    value("n%c", least, -1, 0, 0);
    value("n*n", 65536, 0, 0, 0);
    value("n*c", least, -1, 0, least);
    value("n<0-n", least, 0, 0, 0);
    value("n<c", least, most, 0, 1);
    value("9999*9999*9999", 0, 0, 0, 9999 * 9999 * 9999);
    DesertWire x = new DesertWire();
    due.is("n times m", x.price(0, 65536, 1, 65536), 0);
    due.is("70 times l", x.price(1, most, 1, 1), 70 * most);
    due.is("s less g", x.price(2, 0, least, 1), most);
    due.is("an answer below LOW", x.price(0, -1000001, 0, 1), -1000001);
    due.is("is no finding", x.found(1), 0);
  }

  private static void price() {
    DesertWire x = new DesertWire();
    due.is("price(3, ..)", x.price(3, 1, 1, 1), Due.BEYOND);
    due.is("price(-1, ..)", x.price(-1, 1, 1, 1), Due.BEYOND);
    due.is("PRICE", x.price(0, 5, 9, 7), 35);
    due.is("LATE", x.price(1, 5, 9, 7), 350);
    due.is("LATE of less", x.price(1, -5, 9, 7), -350);
    due.is("WANT", x.price(2, 3, 9, 7), 2);
    due.is("WANT of less", x.price(2, 3, 7, 9), 0);
    Due.type(x, "l*100+d");
    x.rate(1, 0);
    due.is("LATE by a RATE", x.price(1, 5, 9, 7), 509);
    Due.type(x, "k*100+s*10-g");
    x.rate(2, 0);
    due.is("WANT by a RATE", x.price(2, 5, 9, 7), 583);
    due.is("WANT by a RATE, of less", x.price(2, -5, 9, 7), 0);
    due.is("PRICE stays", x.price(0, 5, 9, 7), 35);
  }

  private static void owed() {
    DesertWire x = new DesertWire();
    due.is("owed(2001)", x.owed(2001), Due.BEYOND);
    due.is("owed(-1)", x.owed(-1), Due.BEYOND);
    due.is("owed(0)", x.owed(0), 0);
    Due.type(x, "l*1000+d");
    x.rate(1, 5);
    x.days(4);
    due.is("owed(0) on DAY 4", x.owed(0), 280);
    x.days(6);
    due.is("owed(3) on DAY 10", x.owed(3), 7010);
    due.is("owed(9) on DAY 10", x.owed(9), 1010);
    due.is("owed(10) on DAY 10", x.owed(10), 0);
    due.is("owed(11) on DAY 10", x.owed(11), 0);
    due.is("owed(2000) on DAY 10", x.owed(2000), 0);
  }
}
