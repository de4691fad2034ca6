import java.lang.reflect.InvocationTargetException;
import java.lang.reflect.Method;
import java.util.LinkedHashMap;
import java.util.Map;

/** Calls of StoneSheets by name. */
final class Caller implements Calls {
  /** Every method of the face, with what each of its arguments is (the kinds that RandomRunsTest draws). */
  static final Map<String, String[]> FACE = new LinkedHashMap<>();

  static {
    String[] rows = {
      "rubbing kind raw size", "told stone what10", "says stone place8", "as stone kind", "turns stone kind",
      "set stone what6 value", "carve place mark", "carved place", "deal few", "seed any",
      "falseAt stone place", "fits stone what2", "join stone stone what2", "clash stone stone", "undone", "borne", "look what2",
      "tides hundred", "book what4", "behind hundred behind", "lasts", "best stone sixty what2", "taught sixty what2",
      "whose sheet what2", "fee", "fine stone",
      "feed any any any", "trim bytes", "text", "textTold text what2", "why what3",
      "sheet sheet sort length", "mark sheet row number", "pour sheet", "reads sheet", "copy sheet row sheet row row",
      "lay slot what4 stone", "ask slot kind", "item slot row", "rest slot any",
      "tell any", "check thirty", "keep", "back", "count what7"};
    for (String row : rows) {
      String[] words = row.split(" ");
      FACE.put(words[0], java.util.Arrays.copyOfRange(words, 1, words.length));
    }
  }

  private final Map<String, Method> methods = new LinkedHashMap<>();
  private final StoneSheets sheets;
  /** How many there have been: what is answered behind 512 of them is free. */
  int calls = 0;

  Caller(StoneSheets sheets) {
    this.sheets = sheets;
    for (Method m : StoneSheets.class.getMethods()) if (m.getDeclaringClass() == StoneSheets.class) methods.put(m.getName(), m);
  }

  @Override public int call(String name, int... a) {
    calls++;
    Object[] boxed = new Object[a.length];
    for (int i = 0; i < a.length; i++) boxed[i] = a[i];
    try {
      return (Integer) methods.get(name).invoke(sheets, boxed);
    } catch (InvocationTargetException e) {
      throw new IllegalStateException(told(name, a) + " threw " + e.getCause(), e);
    } catch (IllegalAccessException e) {
      throw new IllegalStateException(e);
    }
  }

  static String told(String name, int... a) {
    StringBuilder s = new StringBuilder(name).append('(');
    for (int i = 0; i < a.length; i++) s.append(i > 0 ? ", " : "").append(a[i]);
    return s.append(')').toString();
  }
}
