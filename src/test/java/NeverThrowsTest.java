import java.lang.reflect.InvocationTargetException;
import java.lang.reflect.Method;
import java.util.Arrays;
import java.util.Comparator;
import java.util.Random;

/** Every call with numbers of every size, in lands by chance: none throws, and all come back. */
public final class NeverThrowsTest {
  private static final int[] ODD = {
    Integer.MIN_VALUE, Integer.MIN_VALUE + 1, Integer.MAX_VALUE, Integer.MAX_VALUE - 1, -65536, 65536, 1 << 30,
    -14, -5, -2, -1, 0, 1, 2, 3, 4, 5, 6, 7, 8, 11, 12, 13, 20, 29, 30, 31, 32, 39, 40, 41, 59, 60, 61, 98, 99, 100,
    101, 149, 150, 160, 161, 199, 200, 201, 255, 256, 302, 303, 511, 512, 899, 900, 998, 999, 1000, 1899, 1900,
    1999, 2000, 2099, 2100, 4095, 4096, 9999, 10000};

  private NeverThrowsTest() {
  }

  public static void main(String[] args) throws IllegalAccessException {
    Check check = new Check("NeverThrowsTest");
    Method[] methods = TwoDigits.class.getDeclaredMethods();
    methods = Arrays.stream(methods).filter(m -> (m.getModifiers() & 1) != 0)
        .sorted(Comparator.comparing(Method::getName)).toArray(Method[]::new);
    check.due("methods of the face", methods.length, 42);
    for (int seed = 0; seed < 400; seed++) {
      Random chance = new Random(seed);
      TwoDigits x = new TwoDigits();
      int programs = seed % 13;
      for (int i = 0; i < programs; i++) {
        Land.program(x, Programs.sound(chance));
        Land.shelf(x, i, chance.nextInt(3000), chance.nextInt(), 5, 6);
        x.input(i, chance.nextInt(programs));
      }
      for (int call = 0; call < 512; call++) {
        check(check, x, methods[chance.nextInt(methods.length)], chance);
      }
    }
    check.finish();
  }

  private static void check(Check check, TwoDigits x, Method method, Random chance) throws IllegalAccessException {
    Class<?>[] types = method.getParameterTypes();
    Object[] given = new Object[types.length];
    for (int i = 0; i < given.length; i++) {
      if (types[i] == boolean.class) {
        given[i] = chance.nextBoolean();
      } else {
        given[i] = chance.nextBoolean() ? ODD[chance.nextInt(ODD.length)] : chance.nextInt(10);
      }
    }
    String thrown = "";
    try {
      method.invoke(x, given);
    } catch (InvocationTargetException e) {
      thrown = " threw " + e.getCause();
    }
    check.holds(method.getName() + Arrays.toString(given) + thrown, thrown.isEmpty());
  }
}
