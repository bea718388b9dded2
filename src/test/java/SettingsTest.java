/** Promises 10, 11, 16 and 17: code, advance, counter, tries. */
public final class SettingsTest {
  public static void main(String[] args) {
    Check check = new Check();
    codes(check);
    codeAndTries(check);
    advances(check);
    check.end();
  }

  private static PurseCard open() {
    PurseCard x = new PurseCard(0);
    Check.send(x, Check.select(0));
    Check.send(x, Check.ready(0));
    return x;
  }

  private static void codes(Check check) {
    for (int v = 0; v <= 9999; v += v < 120 || v > 9880 ? 1 : 37) {
      PurseCard x = open();
      check.due("code(" + v + ")", x.code(v), true);
      check.status("its digits", Check.send(x, Check.prove(String.format("%04d", v))), 0x9000);
      check.status("others", Check.send(x, Check.prove(String.format("%04d", (v + 1) % 10000))), 0x63C2);
    }
    int[] wrong = {-1, 10000, 12345, -9999, Integer.MIN_VALUE, Integer.MAX_VALUE};
    for (int v : wrong) {
      PurseCard x = open();
      x.code(77);
      Check.send(x, Check.prove("9999"));
      check.due("code(" + v + ")", x.code(v), false);
      check.due("tries()", x.tries(), 2);
      check.status("the code stays", Check.send(x, Check.prove("0077")), 0x9000);
    }
  }

  private static void codeAndTries(Check check) {
    PurseCard x = open();
    for (int left = 2; left >= 0; left--) {
      Check.send(x, Check.prove("0001"));
      check.due("tries()", x.tries(), left);
    }
    Check.send(x, Check.prove("0000"));
    check.due("tries()", x.tries(), 0);
    check.due("code", x.code(0), true);
    check.due("tries()", x.tries(), 3);
    check.due("stage()", x.stage(), 2);
    Check.send(x, Check.prove("0001"));
    check.due("code", x.code(1), true);
    check.due("tries()", x.tries(), 3);
    check.status("the new code", Check.send(x, Check.prove("0001")), 0x9000);
  }

  private static void advances(Check check) {
    PurseCard x = new PurseCard(0);
    check.due("advance(-1)", x.advance(-1), false);
    check.due("advance(0)", x.advance(0), true);
    check.due("counter()", x.counter(), 0);
    check.due("advance(65536)", x.advance(65536), false);
    check.due("advance(MIN)", x.advance(Integer.MIN_VALUE), false);
    check.due("advance(MAX)", x.advance(Integer.MAX_VALUE), false);
    check.due("counter()", x.counter(), 0);
    check.due("advance(300)", x.advance(300), true);
    check.due("counter()", x.counter(), 300);
    check.due("advance(299)", x.advance(299), false);
    check.due("counter()", x.counter(), 300);
    check.due("advance(300)", x.advance(300), true);
    Check.send(x, Check.select(0));
    Check.send(x, Check.ready(0));
    check.due("counter()", x.counter(), 301);
    check.due("advance(300)", x.advance(300), false);
    check.due("advance(65535)", x.advance(65535), true);
    check.due("counter()", x.counter(), 65535);
    check.due("advance(65535)", x.advance(65535), true);
    check.due("advance(65534)", x.advance(65534), false);
    check.due("stage()", x.stage(), 2);
  }
}
