import java.util.Map;
import java.util.Random;
import java.util.TreeMap;

/** All promises together: runs of 512 calls chosen at random, given to a card and to the Model of the document. */
public final class ModelTest {
  private static final int RUNS = 2500;
  private static final int CALLS = 512;
  private static final long NOT_MADE = Long.MIN_VALUE;
  private static final String[] STATUSES = {"63C0", "63C1", "63C2", "6700", "6983", "6985", "6A80", "6A82", "6A83",
      "6A86", "6D00", "6E00", "9000"};
  private static final String[] PAYS = {"-1", "-27011", "-27013", "0", "1", "2"};

  /** What send() and pay() answered, and how often. */
  private static final Map<String, Integer> MET = new TreeMap<>();

  private final Random random;
  private final int name;
  private final PurseCard x;
  private final Model model;
  private final StringBuilder calls;
  /** Of four codes that are tried, so many are wrong. */
  private final int wrongs;
  private int left = CALLS;
  private boolean alike = true;
  private long amount = 0;
  private int number = 0;
  private int code = 0;

  private ModelTest(int seed) {
    random = new Random(seed);
    name = oneOf(0, 1, 0x123456, 0xFFFFFF, -1, random.nextInt());
    x = new PurseCard(name);
    model = new Model(name);
    calls = new StringBuilder("new PurseCard(" + name + ")\n");
    wrongs = random.nextInt(5);
  }

  public static void main(String[] args) {
    Check check = new Check();
    boolean alike = true;
    for (int seed = 0; seed < RUNS && alike; seed++) {
      alike = new ModelTest(seed).run();
      check.due("run " + seed + " is as in the model", alike, true);
    }
    if (alike) {
      allMet(check);
    }
    check.end();
  }

  /** Runs that never come to a status would tell nothing of it. */
  private static void allMet(Check check) {
    System.out.println(MET);
    for (String status : STATUSES) {
      check.due("status " + status + " was met", MET.containsKey("send " + status), true);
    }
    for (String answer : PAYS) {
      check.due("answer " + answer + " was met", MET.containsKey("pay " + answer), true);
    }
  }

  private boolean run() {
    if (random.nextInt(3) == 0) {
      readings();
    }
    while (alike && left > 0) {
      step();
    }
    if (!alike) {
      System.out.print(calls);
    }
    return alike;
  }

  private void step() {
    int which = random.nextInt(100);
    if (which < 55) {
      command();
    } else if (which < 63) {
      record();
    } else if (which < 75) {
      pay();
    } else if (which < 85) {
      look();
    } else if (which < 91) {
      state();
    } else {
      settings();
    }
  }

  /** Records of tagged rows are read and looked through at once: by chance alone that would come too seldom. */
  private void readings() {
    for (int n = 1; n <= 3; n++) {
      type(rows(30));
      keep(1);
    }
    type(select());
    send();
    type(ready());
    send();
    for (int n = 1; n <= 3; n++) {
      wipe();
      type(Cards.read(1, n));
      send();
      for (int times = 0; times < 20; times++) {
        look();
      }
    }
  }

  /** Tagged rows of so many bytes at most, some of which hold such rows, and some have a wrong length. */
  private String rows(int room) {
    StringBuilder all = new StringBuilder();
    while (all.length() / 2 + 3 <= room && random.nextInt(5) > 0) {
      boolean holdsRows = random.nextBoolean();
      String tag = Check.number(random.nextInt(4) + (holdsRows ? 0x20 : 0), 1);
      if (random.nextInt(4) == 0) {
        tag = (holdsRows ? "3F0" : "1F0") + random.nextInt(4);
      }
      int more = room - all.length() / 2 - tag.length() / 2 - 1;
      String held = holdsRows ? rows(more) : "07".repeat(random.nextInt(1 + Math.min(3, more)));
      int length = held.length() / 2 + (random.nextInt(12) == 0 ? oneOf(-1, 1, 2, 200) : 0);
      all.append(tag).append(Check.number(length, 1)).append(held);
    }
    return all.toString();
  }

  private void command() {
    if (random.nextInt(10) > 0) {
      wipe();
    }
    String hex = random.nextInt(4) > 0 ? next() : any();
    if (random.nextInt(6) == 0) {
      hex = spoilt(hex);
    }
    type(hex);
    switch (random.nextInt(24)) {
      case 0 -> wipe();
      case 1 -> keep(random.nextInt(6));
      case 2 -> seal();
      default -> { }
    }
    send();
    look();
  }

  /** A command that the stage mostly takes. */
  private String next() {
    return switch (model.stage()) {
      case 0, 4 -> random.nextInt(6) > 0 ? select() : any();
      case 1 -> random.nextInt(8) > 0 ? ready() : any();
      case 2 -> random.nextInt(3) > 0 ? (random.nextBoolean() ? prove() : read()) : seal(10);
      default -> random.nextInt(5) > 0 ? seal(12) : read();
    };
  }

  private String any() {
    return switch (random.nextInt(8)) {
      case 0 -> select();
      case 1 -> ready();
      case 2 -> read();
      case 3 -> prove();
      case 4 -> "80CA9F" + (random.nextBoolean() ? "36" : "17");
      case 5 -> seal(10);
      case 6 -> seal(12);
      default -> Check.number(random.nextLong(), random.nextInt(9));
    };
  }

  private String select() {
    int size = random.nextInt(5) > 0 ? 7 : 4 + random.nextInt(14);
    String whole = Check.name(name) + "00".repeat(12);
    return "00A40400" + Check.number(size, 1) + whole.substring(0, 2 * size);
  }

  private String ready() {
    amount = amounts();
    return Check.ready(amount);
  }

  private String read() {
    int file = oneOf(1, 1, 1, 2, 3, 4, 4, 4, 0, 5, 31);
    return "00B2" + Check.number(oneOf(1, 1, 1, 2, 2, 3, 4, 0, 255), 1) + Check.number(8 * file + 4, 1);
  }

  private String prove() {
    int v = random.nextInt(4) >= wrongs ? code : random.nextInt(10000);
    String digits = String.format("%04d", v);
    return Check.prove(random.nextInt(12) == 0 ? digits.replace('0', 'A') : digits);
  }

  private String seal(int size) {
    number = oneOf(0, 1, -1, random.nextInt());
    long asked = random.nextInt(6) > 0 ? amount : amounts();
    int p1 = oneOf(0x40, 0x40, 0x80, 0x80, 0x00);
    return size == 10 ? Check.seal(p1, asked, number)
        : Check.seal(p1, asked, number, random.nextInt(3) > 0 ? "3030" : "3035");
  }

  /** One byte is another one, is missing, or is too much. */
  private String spoilt(String hex) {
    if (hex.isEmpty()) {
      return "00";
    }
    int place = 2 * random.nextInt(hex.length() / 2);
    return switch (random.nextInt(4)) {
      case 0 -> hex.substring(0, hex.length() - 2);
      case 1 -> hex + "00";
      case 2 -> hex.substring(0, 8 > hex.length() ? 0 : 8);
      default -> hex.substring(0, place) + Check.number(random.nextInt(256), 1) + hex.substring(place + 2);
    };
  }

  private void record() {
    int size = oneOf(0, 1, 5, 9, 14, 29, 30, 31);
    type(random.nextBoolean() ? rows(size) : Check.number(random.nextLong(), 8).repeat(4).substring(0, 2 * size));
    keep(oneOf(1, 1, 2, 3, 4, 4, 0, 5));
  }

  private void pay() {
    long given = amounts();
    long shown = random.nextInt(4) > 0 ? given : amounts();
    long sum = random.nextInt(16) > 0 ? given : oneOf(-1, 0, 1) + (random.nextBoolean() ? Check.MOST : 0);
    int n = oneOf(0, 1, -1, random.nextInt());
    int pin = random.nextInt(6) >= wrongs ? code : oneOf(-1, Integer.MIN_VALUE, 0, 9999, 10000);
    boolean asking = random.nextInt(3) == 0;
    long got = same("pay(" + shown + ", " + sum + ", " + n + ", " + pin + ", " + asking + ")",
        () -> x.pay(shown, sum, n, pin, asking), () -> model.pay(shown, sum, n, pin, asking));
    if (got == NOT_MADE) {
      return;
    }
    MET.merge("pay " + got, 1, Integer::sum);
    if (got != -1) {
      amount = sum;
      number = n;
    }
    look();
  }

  /** At the answer: its size, some bytes, some tags, and whether it is genuine. */
  private void look() {
    same("answered()", () -> x.answered(), () -> model.answered());
    for (int n = random.nextInt(4); n > 0; n--) {
      int i = random.nextInt(Math.max(1, model.answered())) + oneOf(0, 0, 0, 1, -1);
      same("answer(" + i + ")", () -> x.answer(i), () -> model.answer(i));
      int two = 256 * model.answer(i) + model.answer(i + 1);
      int tag = random.nextBoolean() ? model.answer(i) : two;
      same("find(" + tag + ")", () -> x.find(tag), () -> model.find(tag));
    }
    if (random.nextInt(3) == 0) {
      long sum = amount + oneOf(0, 0, 0, 1, -1);
      int n = number + oneOf(0, 0, 0, 1);
      boolean proven = random.nextBoolean();
      same("genuine(" + sum + ", " + n + ", " + proven + ")", () -> x.genuine(sum, n, proven) ? 1 : 0,
          () -> model.genuine(sum, n, proven) ? 1 : 0);
    }
  }

  private void state() {
    same("stage()", () -> x.stage(), () -> model.stage());
    same("counter()", () -> x.counter(), () -> model.counter());
    same("tries()", () -> x.tries(), () -> model.tries());
    seal();
  }

  private void settings() {
    switch (random.nextInt(3)) {
      case 0 -> {
        long first = random.nextLong();
        long second = oneOf(0, -1, random.nextInt());
        same("key(" + first + ", " + second + ")", () -> {
          x.key(first, second);
          return 0;
        }, () -> {
          model.key(first, second);
          return 0;
        });
      }
      case 1 -> {
        int v = oneOf(0, 9999, random.nextInt(10000), random.nextInt(100), -1, 10000);
        if (same("code(" + v + ")", () -> x.code(v) ? 1 : 0, () -> model.code(v) ? 1 : 0) == 1) {
          code = v;
        }
      }
      default -> {
        int most = random.nextInt(8) == 0 ? 65535 : model.counter() + 300;
        int v = oneOf(model.counter() - 1, model.counter(), most, most - 1, 65536, -1);
        same("advance(" + v + ")", () -> x.advance(v) ? 1 : 0, () -> model.advance(v) ? 1 : 0);
      }
    }
  }

  private void type(String hex) {
    for (int b : Check.bytes(hex)) {
      put(b);
    }
  }

  private void put(int b) {
    int some = random.nextInt(200) == 0 ? oneOf(-1, 256) : b;
    same("put(" + some + ")", () -> x.put(some) ? 1 : 0, () -> model.put(some) ? 1 : 0);
  }

  private void wipe() {
    same("wipe()", () -> x.wipe(), () -> model.wipe());
  }

  private void keep(int file) {
    same("keep(" + file + ")", () -> x.keep(file), () -> model.keep(file));
  }

  private void seal() {
    int i = random.nextInt(18) - 1;
    same("seal(" + i + ")", () -> x.seal(i), () -> model.seal(i));
  }

  private void send() {
    long status = same("send()", () -> x.send(), () -> model.send());
    if (status != NOT_MADE) {
      MET.merge("send " + String.format("%04X", status), 1, Integer::sum);
    }
  }

  private long amounts() {
    return switch (random.nextInt(5)) {
      case 0 -> 0;
      case 1 -> Check.MOST;
      case 2 -> random.nextLong() & Check.MOST;
      default -> random.nextInt(3);
    };
  }

  private int oneOf(int... some) {
    return some[random.nextInt(some.length)];
  }

  private interface Call {
    long made();
  }

  /** Makes the call on both, while the card has calls left and has answered as the model did. */
  private long same(String call, Call onCard, Call onModel) {
    if (!alike || left == 0) {
      return NOT_MADE;
    }
    left--;
    long got = onCard.made();
    long want = onModel.made();
    calls.append(call).append(" answered ").append(got).append('\n');
    if (got != want) {
      alike = false;
      calls.append("due is ").append(want).append('\n');
    }
    return got;
  }
}
