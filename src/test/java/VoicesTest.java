/** Promises 33 and 34: voices and their trace. The BODIES stand here as classes of Java. */
public final class VoicesTest {
  private static final Due due = new Due("VoicesTest");

  private static int[] trace = new int[100];
  private static int begun = 0;

  private static void begins(int body) {
    trace[begun] = body;
    begun++;
  }

  private static class Work {
    final int n;
    final int w;

    Work(int n, int w) {
      this.n = n;
      this.w = w;
    }

    int stand(int x) {
      begins(10);
      return x - n;
    }

    int pass(int x) {
      begins(11);
      return stand(x) + w;
    }

    int cost(int x) {
      begins(12);
      return pass(x) * 2;
    }

    int tell(int x) {
      begins(13);
      return cost(x) ^ stand(x);
    }
  }

  private static class Pole extends Work {
    Pole(int n, int w) {
      super(n, w);
    }

    @Override int pass(int x) {
      begins(20);
      return super.pass(x + 1);
    }

    @Override int tell(int x) {
      begins(21);
      return super.tell(x) - n;
    }
  }

  private static class Iron extends Pole {
    Iron(int n, int w) {
      super(n, w);
    }

    @Override int stand(int x) {
      begins(30);
      return super.stand(x) * 3;
    }

    @Override int cost(int x) {
      begins(31);
      return 0 - super.cost(x);
    }
  }

  private static class Station extends Iron {
    Station(int n, int w) {
      super(n, w);
    }

    @Override int cost(int x) {
      begins(40);
      return super.cost(x) + stand(w);
    }

    @Override int tell(int x) {
      begins(41);
      return super.tell(x) ^ pass(n);
    }
  }

  private static class Well extends Work {
    Well(int n, int w) {
      super(n, w);
    }

    @Override int stand(int x) {
      begins(50);
      return super.stand(x) + w;
    }

    @Override int cost(int x) {
      begins(51);
      return super.cost(x) - stand(1);
    }
  }

  private static class Depot extends Well {
    Depot(int n, int w) {
      super(n, w);
    }

    @Override int pass(int x) {
      begins(60);
      return super.pass(x) * w;
    }

    @Override int tell(int x) {
      begins(61);
      return 0 - super.tell(x);
    }
  }

  private static Work made(int kind, int n, int w) {
    switch (kind) {
      case 0: return new Work(n, w);
      case 1: return new Pole(n, w);
      case 2: return new Iron(n, w);
      case 3: return new Station(n, w);
      case 4: return new Well(n, w);
      default: return new Depot(n, w);
    }
  }

  private static int said(Work work, int act, int x) {
    begun = 0;
    switch (act) {
      case 0: return work.stand(x);
      case 1: return work.pass(x);
      case 2: return work.cost(x);
      default: return work.tell(x);
    }
  }

  public static void main(String[] args) {
    all();
    byHand();
    findings();
    due.end();
  }

  private static void all() {
    int[] xs = {0, 1, -1, 7, 1000003, Integer.MAX_VALUE, Integer.MIN_VALUE};
    for (int x : xs) {
      DesertWire d = new DesertWire();
      for (int work = 0; work < 12; work++) {
        int size = 1 + 13 * work % 50;
        d.work(work % 6, work, size);
        for (int act = 0; act < 4; act++) {
          String call = "voice(" + work + ", " + act + ", " + x + ")";
          int want = said(made(work % 6, work, size), act, x);
          due.is(call, d.voice(work, act, x), want);
          due.is("BODIES of " + call, d.count(7), begun);
          for (int i = 0; i < begun; i++) {
            due.is("trace(" + i + ") of " + call, d.trace(i), trace[i]);
          }
          due.is("the end of the trace of " + call, d.trace(begun), Due.NONE);
        }
      }
    }
  }

  private static void byHand() {
    DesertWire d = new DesertWire();
    for (int i = 0; i < 3; i++) {
      d.work(0, 0, 1);
    }
    d.work(3, 0, 5);
    d.work(5, 0, 7);
    due.is("stand of a STATION", d.voice(3, 0, 10), 21);
    due.is("two BODIES", d.count(7), 2);
    due.is("trace(0)", d.trace(0), 30);
    due.is("trace(1)", d.trace(1), 10);
    due.is("cost of a STATION", d.voice(3, 2, 10), -58 + 6);
    int[] bodies = {40, 31, 12, 20, 11, 30, 10, 30, 10};
    for (int i = 0; i < bodies.length; i++) {
      due.is("BODY " + i, d.trace(i), bodies[i]);
    }
    due.is("pass of a DEPOT", d.voice(4, 1, 10), (10 - 4 + 7 + 7) * 7);
    d.fell(4);
    due.is("of one that is DOWN", d.voice(4, 1, 10), 140);
  }

  private static void findings() {
    DesertWire d = new DesertWire();
    due.is("voice(0, 0, 0)", d.voice(0, 0, 0), Due.BEYOND);
    d.work(2, 0, 5);
    due.is("voice(0, 0, 9)", d.voice(0, 0, 9), 27);
    due.is("voice(0, 4, 0)", d.voice(0, 4, 0), Due.BEYOND);
    due.is("voice(0, -1, 0)", d.voice(0, -1, 0), Due.BEYOND);
    due.is("voice(1, 0, 0)", d.voice(1, 0, 0), Due.BEYOND);
    due.is("voice(-1, 0, 0)", d.voice(-1, 0, 0), Due.BEYOND);
    due.is("THE TRACE stays", d.count(7), 2);
    due.is("trace(1)", d.trace(1), 10);
    due.is("trace(2)", d.trace(2), Due.NONE);
    due.is("trace(-1)", d.trace(-1), Due.NONE);
    due.is("an answer below LOW", d.voice(0, 0, -1000001), -3000003);
    due.is("found(1)", d.found(1), 5);
    due.is("found(2)", d.found(2), 2);
  }
}
