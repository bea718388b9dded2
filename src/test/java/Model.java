import java.util.ArrayList;
import java.util.List;

/**
 * The document a second time, in its own order and as near to its words as Java allows: slow, made of lists, and
 * sharing nothing with PurseCard. ModelTest gives both the same calls.
 */
final class Model {
  private static final int FINE = 0x9000;
  private static final long MOST = 281474976710655L;
  private static final int[] S = new int[256];

  static {
    for (int b = 0; b < 256; b++) {
      S[b] = substitute(b);
    }
  }

  private List<Integer> key = number(0, 16);
  private List<Integer> code = List.of(0, 0, 0, 0);
  private final List<Integer> name = row("A0 00 00 00");
  private final List<List<List<Integer>>> files = new ArrayList<>();
  private int counter = 0;
  private int tries = 3;
  private int alone = 0;
  private int stage = 0;
  private List<Integer> amount = number(0, 6);
  private boolean proven = false;
  private List<Integer> typed = new ArrayList<>();
  private List<Integer> answer = new ArrayList<>();

  Model(int name) {
    this.name.addAll(number(name & 0xFFFFFF, 3));
    for (int file = 1; file <= 4; file++) {
      files.add(new ArrayList<>());
    }
  }

  boolean put(int b) {
    if (b < 0 || b > 255 || typed.size() == 40) {
      return false;
    }
    typed.add(b);
    return true;
  }

  int wipe() {
    int had = typed.size();
    typed = new ArrayList<>();
    return had;
  }

  int send() {
    List<Integer> command = typed;
    typed = new ArrayList<>();
    answer = new ArrayList<>();
    return takes(command);
  }

  int answered() {
    return answer.size();
  }

  int answer(int i) {
    return i >= 0 && i < answer.size() ? answer.get(i) : -1;
  }

  int find(int tag) {
    try {
      return within(0, answer.size(), tag);
    } catch (UnsupportedOperationException unreadable) {
      return -1;
    }
  }

  int keep(int file) {
    if (file < 1 || file > 4 || files.get(file - 1).size() == 3 || typed.isEmpty() || typed.size() > 30) {
      return -1;
    }
    files.get(file - 1).add(typed);
    typed = new ArrayList<>();
    return files.get(file - 1).size();
  }

  void key(long first, long second) {
    key = joined(number(first, 8), number(second, 8));
  }

  boolean code(int v) {
    if (v < 0 || v > 9999) {
      return false;
    }
    code = digits(v);
    tries = 3;
    return true;
  }

  boolean advance(int v) {
    if (v < counter || v > 65535) {
      return false;
    }
    counter = v;
    return true;
  }

  int seal(int i) {
    return i < 0 || i > 15 ? -1 : sealOf(typed).get(i);
  }

  boolean genuine(long amount, int number, boolean proven) {
    if (amount < 0 || amount > MOST || answer(0) != 0x77) {
      return false;
    }
    List<Integer> given = bytesOf(0x9F27);
    List<Integer> count = bytesOf(0x9F36);
    List<Integer> sealed = bytesOf(0x9F26);
    return given.size() == 1 && count.size() == 2 && sealed.size() == 8
        && sealed.equals(shortSeal(number(amount, 6), number(number, 4), count, given, proven));
  }

  int pay(long shown, long given, int number, int pin, boolean asking) {
    if (shown < 0 || shown > MOST || given < 0 || given > MOST || pin > 9999) {
      return -1;
    }
    List<Integer> sum = number(given, 6);
    int status = sends("00 A4 04 00", name);
    if (status != FINE) {
      return -status;
    }
    status = sends("80 A8 00 00", joined(row("83 06"), sum));
    List<Integer> names = answer;
    for (int at = 4; at < names.size(); at += 4) {
      for (int record = names.get(at + 1); record <= names.get(at + 2) && status == FINE; record++) {
        status = sends("00 B2 " + hex(record) + hex(names.get(at) + 4), List.of());
      }
    }
    if (status != FINE) {
      return -status;
    }
    boolean agrees = false;
    if (pin >= 0) {
      List<Integer> d = digits(pin);
      List<Integer> halves = List.of(16 * d.get(0) + d.get(1), 16 * d.get(2) + d.get(3));
      status = sends("00 20 00 80", joined(row("24"), halves, row("FF FF FF FF FF")));
      if (status != FINE && status >> 4 != 0x63C) {
        return -status;
      }
      agrees = status == FINE;
    }
    status = sends("80 AE" + (asking ? " 80 " : " 40 ") + "00", joined(sum, number(number, 4)));
    if (status != FINE) {
      return -status;
    }
    int gives = bytesOf(0x9F27).get(0);
    if (gives == 0x40) {
      return 1;
    }
    if (gives != 0x80) {
      return 0;
    }
    boolean real = genuine(shown, number, agrees);
    status = sends("80 AE" + (real ? " 40 " : " 00 ") + "00",
        joined(sum, number(number, 4), row(real ? "30 30" : "30 35")));
    if (status != FINE) {
      return -status;
    }
    return bytesOf(0x9F27).get(0) == 0x40 ? 2 : 0;
  }

  int stage() {
    return stage;
  }

  int counter() {
    return counter;
  }

  int tries() {
    return tries;
  }

  // the card

  private int takes(List<Integer> c) {
    if (c.size() < 4 || c.size() > 4 && (c.size() < 6 || c.get(4) != c.size() - 5)) {
      return 0x6700;
    }
    if (c.get(0) != 0x00 && c.get(0) != 0x80) {
      return 0x6E00;
    }
    int p1 = c.get(2);
    int p2 = c.get(3);
    List<Integer> data = c.size() == 4 ? List.of() : c.subList(5, c.size());
    return switch (hex(c.get(0)) + hex(c.get(1))) {
      case "00A4" -> select(p1, p2, data);
      case "80A8" -> ready(p1, p2, data);
      case "00B2" -> read(p1, p2, data);
      case "0020" -> prove(p1, p2, data);
      case "80CA" -> get(p1, p2, data);
      case "80AE" -> seal(p1, p2, data);
      default -> 0x6D00;
    };
  }

  private static int firstOf(boolean parameters, boolean stages, boolean count) {
    return !parameters ? 0x6A86 : !stages ? 0x6985 : !count ? 0x6700 : FINE;
  }

  private int select(int p1, int p2, List<Integer> data) {
    int status = firstOf(p1 == 0x04 && p2 == 0x00, true, data.size() >= 5 && data.size() <= 16);
    if (status != FINE) {
      return status;
    }
    if (data.size() > 7 || !name.subList(0, data.size()).equals(data)) {
      return 0x6A82;
    }
    stage = 1;
    answer = tagged("6F", tagged("84", name),
        tagged("A5", tagged("50", row("43 41 52 44")), tagged("9F 38", row("9F 02 06"))));
    return FINE;
  }

  private int ready(int p1, int p2, List<Integer> data) {
    int status = firstOf(p1 == 0x00 && p2 == 0x00, stage == 1 && counter != 65535, data.size() == 8);
    if (status != FINE) {
      return status;
    }
    if (!data.subList(0, 2).equals(row("83 06"))) {
      return 0x6A80;
    }
    counter++;
    amount = List.copyOf(data.subList(2, 8));
    proven = false;
    stage = 2;
    List<Integer> names = row("18 00");
    for (int file = 1; file <= 4; file++) {
      int records = files.get(file - 1).size();
      if (records > 0) {
        names.addAll(List.of(8 * file, 0x01, records, 0x00));
      }
    }
    answer = tagged("80", names);
    return FINE;
  }

  private int read(int p1, int p2, List<Integer> data) {
    int status = firstOf(p2 % 8 == 4, stage >= 2 && stage <= 4, data.isEmpty());
    if (status != FINE) {
      return status;
    }
    int file = (p2 - 4) / 8;
    if (file < 1 || file > 4 || files.get(file - 1).isEmpty()) {
      return 0x6A82;
    }
    if (p1 < 1 || p1 > files.get(file - 1).size()) {
      return 0x6A83;
    }
    answer = tagged("70", files.get(file - 1).get(p1 - 1));
    return FINE;
  }

  private int prove(int p1, int p2, List<Integer> data) {
    int status = firstOf(p1 == 0x00 && p2 == 0x80, stage == 2, data.size() == 8);
    if (status != FINE) {
      return status;
    }
    if (tries == 0) {
      return 0x6983;
    }
    List<Integer> halves = List.of(data.get(1) >> 4, data.get(1) & 15, data.get(2) >> 4, data.get(2) & 15);
    boolean formed = data.get(0) == 0x24 && data.subList(3, 8).equals(row("FF FF FF FF FF"));
    if (!formed || halves.stream().anyMatch(half -> half > 9)) {
      return 0x6A80;
    }
    if (halves.equals(code)) {
      tries = 3;
      proven = true;
      return FINE;
    }
    tries--;
    proven = false;
    return 0x63C0 + tries;
  }

  private int get(int p1, int p2, List<Integer> data) {
    int status = firstOf(p1 == 0x9F && (p2 == 0x36 || p2 == 0x17), true, data.isEmpty());
    if (status == FINE) {
      answer = p2 == 0x36 ? tagged("9F 36", number(counter, 2)) : tagged("9F 17", number(tries, 1));
    }
    return status;
  }

  private int seal(int p1, int p2, List<Integer> data) {
    int status = firstOf((p1 == 0x00 || p1 == 0x40 || p1 == 0x80) && p2 == 0x00, stage == 2 || stage == 3,
        data.size() == (stage == 2 ? 10 : 12));
    if (status != FINE) {
      return status;
    }
    List<Integer> sum = data.subList(0, 6);
    int given;
    if (!sum.equals(amount) || p1 == 0x00) {
      given = 0x00;
    } else if (stage == 2) {
      given = p1 == 0x80 || !proven || alone >= 2 ? 0x80 : 0x40;
    } else {
      given = p1 == 0x40 && data.subList(10, 12).equals(row("30 30")) ? 0x40 : 0x00;
    }
    int was = stage;
    stage = given == 0x80 ? 3 : 4;
    if (given == 0x40 && was == 3) {
      alone = 0;
    } else if (given == 0x40) {
      alone++;
    }
    answer = tagged("77", tagged("9F 27", List.of(given)), tagged("9F 36", number(counter, 2)), tagged("9F 26",
        shortSeal(sum, data.subList(6, 10), number(counter, 2), List.of(given), proven)));
    return FINE;
  }

  // tagged rows

  /** Where the tag's bytes begin, -1 if it is not met between the two places. */
  private int within(int from, int to, int tag) {
    int at = from;
    while (at < to) {
      int first = answer.get(at);
      int size = (first & 31) == 31 ? 2 : 1;
      if (at + size >= to || at + size + 1 + answer.get(at + size) > to) {
        throw new UnsupportedOperationException("no tagged row");
      }
      int begin = at + size + 1;
      int end = begin + answer.get(at + size);
      if (tag == (size == 2 ? 256 * first + answer.get(at + 1) : first)) {
        return begin;
      }
      if ((first >> 5 & 1) == 1) {
        int inside = within(begin, end, tag);
        if (inside != -1) {
          return inside;
        }
      }
      at = end;
    }
    return -1;
  }

  private List<Integer> bytesOf(int tag) {
    int begin = find(tag);
    return begin == -1 ? List.of() : answer.subList(begin, begin + answer.get(begin - 1));
  }

  @SafeVarargs
  private static List<Integer> tagged(String tag, List<Integer>... parts) {
    List<Integer> all = joined(parts);
    return joined(row(tag), List.of(all.size()), all);
  }

  // the seal

  private List<Integer> shortSeal(List<Integer> sum, List<Integer> number, List<Integer> count, List<Integer> given,
      boolean proven) {
    return sealOf(joined(sum, number, count, given, row(proven ? "01" : "00"))).subList(0, 8);
  }

  private List<Integer> sealOf(List<Integer> row) {
    List<Integer> m = new ArrayList<>(row);
    List<Integer> l1 = twice(encipher(number(0, 16)));
    List<Integer> l2 = twice(l1);
    boolean whole = !m.isEmpty() && m.size() % 16 == 0;
    if (!whole) {
      m.add(0x80);
      while (m.size() % 16 != 0) {
        m.add(0x00);
      }
    }
    int last = m.size() - 16;
    List<Integer> x = number(0, 16);
    for (int at = 0; at <= last; at += 16) {
      List<Integer> block = m.subList(at, at + 16);
      x = encipher(combined(x, at == last ? combined(block, whole ? l1 : l2) : block));
    }
    return x;
  }

  private List<Integer> encipher(List<Integer> bytes) {
    List<List<Integer>> w = words();
    List<Integer> a = combined(bytes, joined(w.get(0), w.get(1), w.get(2), w.get(3)));
    for (int r = 1; r <= 10; r++) {
      List<Integer> b = new ArrayList<>();
      for (int j = 0; j < 4; j++) {
        for (int i = 0; i < 4; i++) {
          b.add(S[a.get(i + 4 * ((j + i) % 4))]);
        }
      }
      a = combined(r < 10 ? mixed(b) : b,
          joined(w.get(4 * r), w.get(4 * r + 1), w.get(4 * r + 2), w.get(4 * r + 3)));
    }
    return a;
  }

  private List<List<Integer>> words() {
    List<List<Integer>> w = new ArrayList<>();
    for (int i = 0; i < 44; i++) {
      if (i < 4) {
        w.add(key.subList(4 * i, 4 * i + 4));
        continue;
      }
      List<Integer> with = w.get(i - 1);
      if (i % 4 == 0) {
        int power = 1;
        for (int n = 0; n < i / 4 - 1; n++) {
          power = product(2, power);
        }
        with = List.of(S[with.get(1)] ^ power, S[with.get(2)], S[with.get(3)], S[with.get(0)]);
      }
      w.add(combined(w.get(i - 4), with));
    }
    return w;
  }

  private static List<Integer> mixed(List<Integer> a) {
    List<Integer> all = new ArrayList<>();
    for (int j = 0; j < 4; j++) {
      List<Integer> c = a.subList(4 * j, 4 * j + 4);
      for (int i = 0; i < 4; i++) {
        all.add(product(2, c.get(i)) ^ product(3, c.get((i + 1) % 4)) ^ c.get((i + 2) % 4) ^ c.get((i + 3) % 4));
      }
    }
    return all;
  }

  private static List<Integer> twice(List<Integer> row) {
    List<Integer> all = new ArrayList<>();
    for (int i = 0; i < 16; i++) {
      int comesIn = i < 15 ? row.get(i + 1) / 128 : 0;
      all.add(row.get(i) * 2 % 256 + comesIn);
    }
    if (row.get(0) >= 128) {
      all.set(15, all.get(15) ^ 0x87);
    }
    return all;
  }

  /** Of two polynomials, modulo x^8 + x^4 + x^3 + x + 1. */
  private static int product(int a, int b) {
    int p = 0;
    for (int k = 0; k < 8; k++) {
      p ^= (a >> k & 1) == 1 ? b << k : 0;
    }
    for (int k = 15; k >= 8; k--) {
      p ^= (p >> k & 1) == 1 ? 0b100011011 << (k - 8) : 0;
    }
    return p;
  }

  private static int substitute(int b) {
    int inverse = 0;
    for (int c = 1; c < 256; c++) {
      inverse = product(b, c) == 1 ? c : inverse;
    }
    int s = 0;
    for (int i = 0; i < 8; i++) {
      int sum = 0x63 >> i & 1;
      for (int k : new int[] {i, i + 4, i + 5, i + 6, i + 7}) {
        sum += inverse >> k % 8 & 1;
      }
      s += sum % 2 << i;
    }
    return s;
  }

  // rows of bytes

  private int sends(String head, List<Integer> data) {
    typed = row(head);
    if (!data.isEmpty()) {
      typed = joined(typed, List.of(data.size()), data);
    }
    return send();
  }

  private static List<Integer> combined(List<Integer> a, List<Integer> b) {
    List<Integer> all = new ArrayList<>();
    for (int i = 0; i < a.size(); i++) {
      all.add(a.get(i) ^ b.get(i));
    }
    return all;
  }

  @SafeVarargs
  private static List<Integer> joined(List<Integer>... parts) {
    List<Integer> all = new ArrayList<>();
    for (List<Integer> part : parts) {
      all.addAll(part);
    }
    return all;
  }

  private static List<Integer> number(long n, int count) {
    List<Integer> all = new ArrayList<>();
    for (int i = 0; i < count; i++) {
      all.add(0, i < 8 ? (int) (n >> 8 * i & 255) : 0);
    }
    return all;
  }

  private static List<Integer> digits(int v) {
    return List.of(v / 1000, v / 100 % 10, v / 10 % 10, v % 10);
  }

  private static List<Integer> row(String hex) {
    List<Integer> all = new ArrayList<>();
    for (int b : Check.bytes(hex)) {
      all.add(b);
    }
    return all;
  }

  private static String hex(int b) {
    return Check.number(b, 1);
  }
}
