/** Counts what a test finds wrong, and ends it. */
final class Check {
  interface Call {
    Object run();
  }

  private static int looked = 0;
  private static int wrong = 0;

  private Check() {}

  static void same(String what, Object got, Object want) {
    looked++;
    if (!want.equals(got)) {
      wrong++;
      if (wrong <= 40) {
        System.out.println(what + ": answered " + got + ", due is " + want);
      }
    }
  }

  /** What a call answers, or throws. */
  static String outcome(Call call) {
    try {
      return String.valueOf(call.run());
    } catch (RuntimeException e) {
      return "throws." + e.getClass().getSimpleName();
    }
  }

  /** The call throws just this exception, and the house is afterwards as it was. */
  static void fails(String what, House house, Class<?> exception, Call call) {
    long before = house.checksum();
    same(what, outcome(call), "throws." + exception.getSimpleName());
    same(what + ", what is there afterwards", house.checksum(), before);
  }

  static int wrong() {
    return wrong;
  }

  static void end(String name) {
    System.out.println(name + ": " + looked + " answers looked at, " + wrong + " wrong");
    System.exit(wrong == 0 && looked > 0 ? 0 : 1);
  }
}
