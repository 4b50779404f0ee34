/**
 * Promises 23 and 25 told a second time: TEXTS that are made together with what they come to, and
 * the FAULT told byte by byte, without a grammar's functions.
 */
public final class TextsToldAgainTest {
  private static final Due due = new Due("TextsToldAgainTest");
  private static final String[] NAMES = {"ncm", "ld", "ksg"};
  private static final String SIGNS = "0123456789ncmldksg-!()+*%<=>&|";

  private static long seed = 1;

  private static int any(int bound) {
    seed = seed * 6364136223846793005L + 1442695040888963407L;
    return (int) ((seed >>> 33) % bound);
  }

  private static int anyInt() {
    int which = any(6);
    return which == 0 ? Integer.MIN_VALUE + any(3) : which == 1 ? Integer.MAX_VALUE - any(3)
        : which == 2 ? any(1 << 30) : any(21) - 10;
  }

  /** Writes a TEXT, each part of which tells what it comes to. */
  private static final class Writer {
    final StringBuilder text = new StringBuilder();
    final int use;
    final int[] told;

    Writer(int use, int[] told) {
      this.use = use;
      this.told = told;
    }

    private boolean more(int chance) {
      return text.length() < 24 && any(chance) == 0;
    }

    private char sign(String of) {
      char c = of.charAt(any(of.length()));
      text.append(c);
      return c;
    }

    int t(int open) {
      boolean any = false;
      int first = a(open);
      int parts = 1;
      any |= first != 0;
      for (; more(6); parts++) {
        sign("|");
        any |= a(open) != 0;
      }
      return parts == 1 ? first : any ? 1 : 0;
    }

    private int a(int open) {
      int first = b(open);
      boolean all = first != 0;
      int parts = 1;
      for (; more(6); parts++) {
        sign("&");
        all &= b(open) != 0;
      }
      return parts == 1 ? first : all ? 1 : 0;
    }

    private int b(int open) {
      int left = s(open);
      if (!more(4)) {
        return left;
      }
      char c = sign("<=>");
      long apart = (long) left - s(open);
      return c == '<' && apart < 0 || c == '=' && apart == 0 || c == '>' && apart > 0 ? 1 : 0;
    }

    private int s(int open) {
      long sum = p(open);
      while (more(3)) {
        sum += sign("+-") == '+' ? p(open) : -(long) p(open);
      }
      return (int) sum;
    }

    private int p(int open) {
      int v = q(open);
      while (more(3)) {
        if (sign("*%") == '*') {
          v = (int) ((long) v * q(open));
        } else {
          long by = q(open);
          v = by == 0 ? 0 : (int) (v % by);
        }
      }
      return v;
    }

    private int q(int open) {
      int which = any(open < 4 ? 7 : 4);
      if (which < 2) {
        int i = any(NAMES[use].length());
        text.append(NAMES[use].charAt(i));
        return told[i];
      }
      if (which < 4) {
        String number = "" + (any(4) == 0 ? any(10000) : any(12));
        text.append(number);
        return Integer.parseInt(number);
      }
      char c = sign("-!(");
      if (c == '(') {
        int v = t(open + 1);
        text.append(')');
        return v;
      }
      int v = q(open + 1);
      return c == '-' ? -v : v == 0 ? 1 : 0;
    }
  }

  /** The FAULT of a TEXT, or -1. */
  private static int fault(int use, String text) {
    StringBuilder open = new StringBuilder();
    boolean[] compared = new boolean[6];
    int level = 0;
    int digits = 0;
    boolean wanted = true;
    for (int i = 0; i < text.length(); i++) {
      char c = text.charAt(i);
      boolean digit = c >= '0' && c <= '9';
      if (wanted) {
        if (c == '-' || c == '!' || c == '(') {
          if (open.length() == 4) {
            return i;
          }
          open.append(c);
          if (c == '(') {
            level++;
            compared[level] = false;
          }
          continue;
        }
        if (!digit && NAMES[use].indexOf(c) < 0) {
          return i;
        }
        digits = digit ? 1 : 4;
        wanted = false;
        closeSigns(open);
        continue;
      }
      if (digit && digits < 4) {
        digits++;
        continue;
      }
      digits = 4;
      if (c == ')' && level > 0) {
        open.setLength(open.length() - 1);
        closeSigns(open);
        level--;
        continue;
      }
      boolean compares = "<=>".indexOf(c) >= 0;
      if (compares && compared[level] || !compares && "+-*%&|".indexOf(c) < 0) {
        return i;
      }
      compared[level] = compares || compared[level] && c != '&' && c != '|';
      wanted = true;
    }
    return wanted || level > 0 ? text.length() : -1;
  }

  /** What stands behind a - or ! ahead of a Q has ended. */
  private static void closeSigns(StringBuilder open) {
    while (open.length() > 0 && open.charAt(open.length() - 1) != '(') {
      open.setLength(open.length() - 1);
    }
  }

  private static void made(int of) {
    seed = of;
    int use = any(3);
    int[] told = {anyInt(), anyInt(), anyInt()};
    Writer writer = new Writer(use, told);
    int v = writer.t(0);
    String text = writer.text.toString();
    if (text.length() > 50) {
      return;
    }
    DesertWire x = new DesertWire();
    Due.type(x, text);
    due.is("rate of " + text, x.rate(use, 0), 0);
    int want = use == 2 ? Math.max(0, v) : v;
    String names = told[0] + ", " + told[1] + ", " + told[2];
    due.is(text + " for " + names, x.price(use, told[0], told[1], told[2]), want);
    for (int i = 0; i < 8; i++) {
      spoilt(use, text);
    }
  }

  /** A TEXT with a byte or two put in, taken out, or changed, or the end gone. */
  private static void spoilt(int use, String text) {
    StringBuilder b = new StringBuilder(text);
    for (int i = any(2); i >= 0; i--) {
      int at = any(b.length() + 1);
      char c = any(20) == 0 ? (char) any(256) : SIGNS.charAt(any(SIGNS.length()));
      int how = any(4);
      if (how == 0 || at == b.length()) {
        b.insert(at, c);
      } else if (how == 1) {
        b.deleteCharAt(at);
      } else if (how == 2) {
        b.setCharAt(at, c);
      } else {
        b.setLength(at);
      }
    }
    if (b.length() > 50) {
      return;
    }
    DesertWire x = new DesertWire();
    Due.type(x, b.toString());
    int at = fault(use, b.toString());
    due.is("rate of " + b, x.rate(use, 0), at < 0 ? 0 : -10 - at);
  }

  public static void main(String[] args) {
    for (int of = 1; of <= 4000; of++) {
      made(of);
    }
    due.end();
  }
}
