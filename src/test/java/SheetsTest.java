/** Promises 35 to 37: sheets. What is on one is told by soils() and slip() alone. */
public final class SheetsTest {
  private static final Due due = new Due("SheetsTest");

  public static void main(String[] args) {
    sheet();
    put();
    bits();
    move();
    moveFindings();
    due.end();
  }

  private static void sheet() {
    DesertWire x = new DesertWire();
    due.is("sheet(4, 8, 1)", x.sheet(4, 8, 1), Due.BEYOND);
    due.is("sheet(-1, 8, 1)", x.sheet(-1, 8, 1), Due.BEYOND);
    due.is("sheet(0, 4, 1)", x.sheet(0, 4, 1), Due.BEYOND);
    due.is("sheet(0, 64, 1)", x.sheet(0, 64, 1), Due.BEYOND);
    due.is("sheet(0, -8, -1)", x.sheet(0, -8, -1), Due.BEYOND);
    due.is("sheet(4, 8, -1)", x.sheet(4, 8, -1), Due.BEYOND);
    due.is("sheet(0, 8, -1)", x.sheet(0, 8, -1), Due.STATE);
    due.is("sheet(0, 8, 37)", x.sheet(0, 8, 37), Due.BEYOND);
    due.is("it is missing still", x.put(0, 0, 1), Due.NONE);
    for (int bits = 8; bits <= 32; bits *= 2) {
      due.is("sheet(3, " + bits + ", 36)", x.sheet(3, bits, 36), 1);
      due.is("number 35", x.put(3, 35, 1), 1);
      due.is("number 36", x.put(3, 36, 1), Due.BEYOND);
      due.is("sheet(3, " + bits + ", 0)", x.sheet(3, bits, 0), 1);
      due.is("number 0 of none", x.put(3, 0, 1), Due.BEYOND);
    }
    due.is("sheet(3, 0, -5)", x.sheet(3, 0, -5), 1);
    due.is("missing", x.put(3, 0, 1), Due.NONE);
    due.is("sheet(3, 0, 99)", x.sheet(3, 0, 99), 1);
    Due.fill(x, 0, 8, 1, 1, 1, 1);
    x.sheet(0, 8, 4);
    x.land(0, 2, 0);
    due.is("all 0 again", x.soils(0, 0), 4);
    due.is("SOIL 0", x.mileIs(0, 0), 0);
  }

  private static void put() {
    DesertWire x = new DesertWire();
    due.is("put(4, 0, 0)", x.put(4, 0, 0), Due.BEYOND);
    due.is("put(-1, 0, 0)", x.put(-1, 0, 0), Due.BEYOND);
    due.is("put(0, -1, 0)", x.put(0, -1, 0), Due.NONE);
    x.sheet(0, 16, 3);
    due.is("put(0, -1, 0)", x.put(0, -1, 0), Due.BEYOND);
    due.is("put(0, 3, 0)", x.put(0, 3, 0), Due.BEYOND);
    due.is("put(0, 2, 1)", x.put(0, 2, 1), 1);
    due.is("put(1, 0, 0)", x.put(1, 0, 0), Due.NONE);
    x.soils(0, 0);
    due.is("SOIL 1", x.mileIs(1, 0), 0);
    due.is("SOIL 2", x.mileIs(2, 0), 1);
  }

  private static void bit(int bits, int v, int want) {
    DesertWire x = new DesertWire();
    Due.fill(x, 0, bits, v);
    due.is(bits + " bits of " + v, x.soils(0, 0), want);
  }

  private static void bits() {
    bit(8, 256, 1);
    bit(8, 258, 1);
    bit(8, 255, 0);
    bit(8, 511, 0);
    bit(8, 128, Due.KIND);
    bit(8, 254, Due.KIND);
    bit(8, 3, Due.KIND);
    bit(16, 256, Due.KIND);
    bit(16, 65536, 1);
    bit(16, 65535, 0);
    bit(16, 32768, Due.KIND);
    bit(16, 255, Due.KIND);
    bit(32, 65536, Due.KIND);
    bit(32, 65535, Due.KIND);
    bit(32, -1, 0);
    bit(32, Integer.MIN_VALUE, Due.KIND);
  }

  private static void soil(DesertWire x, int sheet, int... want) {
    for (int mile = 0; mile < 40; mile++) {
      x.land(mile, 0, 0);
    }
    x.soils(sheet, 0);
    for (int i = 0; i < want.length; i++) {
      due.is("number " + i, x.mileIs(i, 0), want[i]);
    }
  }

  private static void move() {
    DesertWire x = new DesertWire();
    Due.fill(x, 0, 8, 1, 2, 0, 1, 2);
    Due.fill(x, 1, 8, 0, 0, 0);
    due.is("move(0, 0, 1, 1, 2)", x.move(0, 0, 1, 1, 2), 2);
    soil(x, 1, 0, 1, 2);
    due.is("to the right", x.move(0, 0, 0, 1, 4), 4);
    soil(x, 0, 1, 1, 2, 0, 1);
    due.is("to the left", x.move(0, 1, 0, 0, 4), 4);
    soil(x, 0, 1, 2, 0, 1, 1);
    due.is("none", x.move(0, 5, 1, 3, 0), 0);
    due.is("all", x.move(0, 0, 0, 0, 5), 5);
    soil(x, 0, 1, 2, 0, 1, 1);
    due.is("from the end", x.move(1, 0, 0, 2, 3), 3);
    soil(x, 0, 1, 2, 0, 1, 2);
    x.sheet(3, 8, 36);
    due.is("the last SHEET", x.move(0, 0, 3, 31, 5), 5);
    soil(x, 3, new int[31]);
    due.is("number 35", x.mileIs(35, 0), 2);
  }

  private static void moveFindings() {
    DesertWire x = new DesertWire();
    x.sheet(0, 8, 5);
    x.sheet(1, 8, 3);
    x.sheet(2, 16, 3);
    due.is("move(4, ..)", x.move(4, 0, 0, 0, 1), Due.BEYOND);
    due.is("move(.., 4, ..)", x.move(0, 0, 4, 0, 1), Due.BEYOND);
    due.is("move(-1, ..)", x.move(-1, 0, 3, 0, 1), Due.BEYOND);
    due.is("move(3, ..)", x.move(3, 0, 0, -1, 1), Due.NONE);
    due.is("move(.., 3, ..)", x.move(2, 0, 3, 0, 1), Due.NONE);
    due.is("of unlike bits", x.move(0, 0, 2, 0, 1), Due.KIND);
    due.is("of unlike bits, beyond", x.move(0, -1, 2, 0, 99), Due.KIND);
    int[][] beyond = {
      {-1, 0, 1}, {0, -1, 1}, {0, 0, -1}, {3, 0, 3}, {0, 1, 3}, {0, 0, 4}, {6, 0, 0}, {0, 4, 0},
      {Integer.MAX_VALUE, 0, 1}, {0, Integer.MAX_VALUE, 1}, {1, 1, Integer.MAX_VALUE},
      {Integer.MAX_VALUE, 0, Integer.MAX_VALUE},
    };
    for (int[] b : beyond) {
      due.is("move beyond", x.move(0, b[0], 1, b[1], b[2]), Due.BEYOND);
    }
  }
}
