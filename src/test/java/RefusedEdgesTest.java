import java.util.function.Consumer;
import java.util.function.ToIntFunction;

/** "A call that is refused changes nothing.": for every refusal, of two like cards one gets the refused call. */
public final class RefusedEdgesTest {
  private static final int KINDS = 11;

  public static void main(String[] args) {
    Edges.run(RefusedEdgesTest.class);
  }

  /** Every stage, the code proven, one try left, no counter left, and ALONE at 1 and 2. */
  private static PurseCard card(int kind) {
    switch (kind) {
      case 5:
        return Cards.proven();
      case 6:
        return Cards.provenAndSealed();
      case 7:
        return Cards.withTries(1);
      case 8:
        PurseCard last = Cards.at(1);
        last.advance(65535);
        return last;
      case 9:
      case 10:
        PurseCard paid = Cards.at(0);
        for (int i = 8; i < kind; i++) {
          paid.pay(Cards.AMOUNT, Cards.AMOUNT, Cards.NUMBER, Cards.CODE, false);
        }
        return paid;
      default:
        return Cards.at(kind);
    }
  }

  private static void changesNothing(Check check, String what, Consumer<PurseCard> before,
      ToIntFunction<PurseCard> call, int answer) {
    for (int kind = 0; kind < KINDS; kind++) {
      PurseCard x = card(kind);
      PurseCard twin = card(kind);
      before.accept(x);
      before.accept(twin);
      check.due(what + ", card " + kind, call.applyAsInt(x), answer);
      check.due("the card behind " + what + ", card " + kind, Exam.of(x), Exam.of(twin));
    }
  }

  private static Consumer<PurseCard> typing(int size) {
    return x -> Check.type(x, "5A".repeat(size));
  }

  private static int truth(boolean answer) {
    return answer ? 1 : 0;
  }

  @Says(in = "Promise 2", value = "refused with false if b is not 0 .. 255")
  static void putOfNoByte(Check check) {
    for (int size : new int[] {0, 3, 39}) {
      changesNothing(check, "put(-1)", typing(size), x -> truth(x.put(-1)), 0);
      changesNothing(check, "put(256)", typing(size), x -> truth(x.put(256)), 0);
    }
  }

  @Says(in = "Promise 2", value = "or the row has 40")
  static void putIntoAFullRow(Check check) {
    changesNothing(check, "put(0)", typing(40), x -> truth(x.put(0)), 0);
    changesNothing(check, "put(255)", typing(40), x -> truth(x.put(255)), 0);
  }

  @Says(in = "Promise 8", value = "NONE (refused) if there is no such file")
  static void keepInNoFile(Check check) {
    for (int file : new int[] {-1, 0, 5}) {
      changesNothing(check, "keep(" + file + ")", typing(3), x -> x.keep(file), -1);
    }
  }

  @Says(in = "Promise 8", value = "it has 3 records")
  static void keepInAFullFile(Check check) {
    Consumer<PurseCard> filled = x -> {
      Check.keep(x, 2, "DD");
      Check.type(x, "5A5B");
    };
    changesNothing(check, "keep(2)", filled, x -> x.keep(2), -1);
  }

  @Says(in = "Promise 8", value = "or the row is empty")
  static void keepOfAnEmptyRow(Check check) {
    changesNothing(check, "keep(1)", typing(0), x -> x.keep(1), -1);
    changesNothing(check, "keep(2)", typing(0), x -> x.keep(2), -1);
  }

  @Says(in = "Promise 8", value = "or has more than 30 bytes")
  static void keepOfALongRow(Check check) {
    changesNothing(check, "keep(1)", typing(31), x -> x.keep(1), -1);
    changesNothing(check, "keep(2)", typing(40), x -> x.keep(2), -1);
  }

  @Says(in = "Promise 10", value = "refused with false if v is not 0 .. 9999")
  static void codeOfOtherThanFourDigits(Check check) {
    for (int v : new int[] {-1, 10000, Integer.MIN_VALUE, Integer.MAX_VALUE}) {
      changesNothing(check, "code(" + v + ")", typing(3), x -> truth(x.code(v)), 0);
    }
  }

  @Says(in = "Promise 11", value = "refused with false if v is less than the counter")
  static void advanceBackwards(Check check) {
    changesNothing(check, "one back", typing(3), x -> truth(x.advance(x.counter() - 1)), 0);
    changesNothing(check, "advance(-1)", typing(3), x -> truth(x.advance(-1)), 0);
  }

  @Says(in = "Promise 11", value = "or above 65535")
  static void advanceTooFar(Check check) {
    changesNothing(check, "advance(65536)", typing(3), x -> truth(x.advance(65536)), 0);
    changesNothing(check, "advance(most)", typing(3), x -> truth(x.advance(Integer.MAX_VALUE)), 0);
  }

  @Says(in = "Promise 14", value = "NONE (refused, nothing is sent) if shown or given is not 0 .. 281474976710655")
  static void payOfNoAmount(Check check) {
    for (long amount : new long[] {-1, Check.MOST + 1}) {
      changesNothing(check, "shown " + amount, typing(3), x -> x.pay(amount, 1, 1, Cards.CODE, true), -1);
      changesNothing(check, "given " + amount, typing(3), x -> x.pay(1, amount, 1, Cards.CODE, true), -1);
    }
  }

  @Says(in = "Promise 14", value = "or pin is above 9999")
  static void payWithNoPin(Check check) {
    for (int pin : new int[] {10000, Integer.MAX_VALUE}) {
      changesNothing(check, "pin " + pin, typing(40), x -> x.pay(1, 1, 1, pin, false), -1);
    }
  }

  /** Not refused, but they too only tell. */
  @Says(in = "Promise 6", value = "NONE if there is none.")
  static void answerOfNone(Check check) {
    changesNothing(check, "answer(-1)", typing(3), x -> x.answer(-1), -1);
    changesNothing(check, "answer(32)", typing(3), x -> x.answer(32), -1);
  }

  @Says(in = "Promise 7", value = "NONE if there is none")
  static void findOfNone(Check check) {
    changesNothing(check, "find(1)", typing(3), x -> x.find(1), -1);
    changesNothing(check, "find(-1)", typing(3), x -> x.find(-1), -1);
  }

  @Says(in = "Promise 12", value = "NONE if i is not 0 .. 15")
  static void sealOfNone(Check check) {
    changesNothing(check, "seal(-1)", typing(3), x -> x.seal(-1), -1);
    changesNothing(check, "seal(16)", typing(40), x -> x.seal(16), -1);
  }
}
