import java.util.Random;

/** Texts of roads by draws. */
final class Texts {
  private final Random random;
  private final StringBuilder text = new StringBuilder();

  Texts(Random random) {
    this.random = random;
  }

  String text() {
    do {
      text.setLength(0);
      write();
    } while (text.length() > 900);
    return text.toString();
  }

  private void write() {
    int towns = 2 + random.nextInt(5);
    boolean dense = random.nextInt(4) > 0;
    say("towns").say(towns).say(";");
    int lines = 3 + random.nextInt(22);
    int roads = 0, caravans = 0;
    for (int i = 0; i < lines; i++) {
      int kind = random.nextInt(12);
      if (kind < 6 && roads < 10) {
        int from = dense ? roads % towns : random.nextInt(towns);
        int to = (from + 1 + random.nextInt(dense ? Math.min(2, towns - 1) : towns - 1)) % towns;
        say("road").say(from).say("to").say(to).say("days").say(1 + random.nextInt(random.nextInt(5) == 0 ? 40 : 6));
        while (random.nextInt(2) == 0) {
          if (random.nextInt(3) == 0) say("sea");
          else say("risk").say(random.nextInt(random.nextInt(4) == 0 ? 11 : 5));
        }
        roads++;
      } else if (kind < 8 && caravans < 6) {
        say("caravan").say("at").say(random.nextInt(towns)).say("to").say(random.nextInt(towns)).say("load");
        say(1 + random.nextInt(random.nextBoolean() ? 999 : 60));
        caravans++;
      } else if (kind == 8) {
        say("rate").say(random.nextInt(10)).say("at").say(random.nextInt(towns));
      } else {
        law(random.nextInt(4));
      }
      say(";");
    }
  }

  private void law(int which) {
    switch (which) {
      case 0: say("dues").say(":").sum("dues", 0); break;
      case 1: say("eats").say(":").sum("eats", 0); break;
      case 2: say("opens").say(":").truth(0); break;
      default: say("day").say(random.nextInt(random.nextBoolean() ? 1000 : 70)); break;
    }
  }

  private void truth(int deep) {
    unit(deep);
    while (random.nextInt(3) == 0) {
      say(random.nextBoolean() ? "or" : "and");
      unit(deep);
    }
  }

  private void unit(int deep) {
    int kind = random.nextInt(8);
    if (kind == 0 && deep < 6) {
      say("not");
      unit(deep + 1);
    } else if (kind == 1 && deep < 6) {
      say("[");
      truth(deep + 1);
      say("]");
    } else {
      sum("opens", deep);
      say(new String[] {"=", "<", ">"}[random.nextInt(3)]);
      sum("opens", deep);
    }
  }

  private void sum(String law, int deep) {
    term(law, deep);
    while (random.nextInt(3) == 0) {
      say(random.nextBoolean() ? "+" : "-");
      term(law, deep);
    }
  }

  private void term(String law, int deep) {
    atom(law, deep);
    while (random.nextInt(5) == 0) {
      say("*");
      atom(law, deep);
    }
  }

  private void atom(String law, int deep) {
    int kind = random.nextInt(10);
    String[] words = law.equals("dues") ? new String[] {"month", "sea", "town", "rate", "load"}
        : law.equals("eats") ? new String[] {"month", "sea", "road", "load"}
        : new String[] {"month", "sea", "road"};
    if (kind == 0 && deep < 6) {
      say("(");
      sum(law, deep + 1);
      say(")");
    } else if (kind < 6) {
      say(words[random.nextInt(words.length)]);
    } else {
      say(random.nextInt(random.nextInt(6) == 0 ? 1000 : 10));
    }
  }

  private Texts say(int n) {
    return say(Integer.toString(n));
  }

  /** Blanks where two words or two numbers would else be one, elsewhere by draws. */
  private Texts say(String token) {
    if (text.length() > 0) {
      boolean apart = kindOf(text.charAt(text.length() - 1)) != kindOf(token.charAt(0)) || kindOf(token.charAt(0)) == 0;
      if (!apart || random.nextInt(3) == 0) text.append(random.nextInt(9) == 0 ? '\n' : ' ');
    }
    text.append(token);
    return this;
  }

  private static int kindOf(char c) {
    return c >= 'a' && c <= 'z' ? 1 : c >= '0' && c <= '9' ? 2 : 0;
  }

  private static final String[] ODD = {
    "towns", "road", "to", "days", "risk", "sea", "caravan", "at", "load", "rate", "dues", "eats", "opens", "day", "or",
    "and", "not", "month", "town", ";", ":", "+", "-", "*", "(", ")", "[", "]", "=", "<", ">", "0", "5", "7", "41", "999",
    "1000", "01", "A", ".", "\t", "\u00e9", "\u0000", "zeal", "((((((", "not not not not not not", "[[[[[[",
  };

  /** With something put in, left out or changed: another number, a line again and again, or any odd thing. */
  String spoilt(String whole) {
    int at = random.nextInt(whole.length() + 1);
    switch (random.nextInt(5)) {
      case 0: return anotherNumber(whole, at);
      case 1: return again(whole, at);
      default: break;
    }
    int end = Math.min(whole.length(), at + (random.nextBoolean() ? 0 : random.nextInt(6)));
    String put = random.nextInt(3) == 0 ? "" : " " + ODD[random.nextInt(ODD.length)] + " ";
    if (random.nextInt(4) == 0) put = put.trim();
    return whole.substring(0, at) + put + whole.substring(end);
  }

  private String anotherNumber(String whole, int from) {
    int at = from;
    while (at < whole.length() && kindOf(whole.charAt(at)) != 2) at++;
    int end = at;
    while (end < whole.length() && kindOf(whole.charAt(end)) == 2) end++;
    int[] numbers = {0, 1, 2, 5, 6, 7, 9, 10, 11, 40, 41, 999};
    return whole.substring(0, at) + numbers[random.nextInt(numbers.length)] + whole.substring(end);
  }

  private static String again(String whole, int from) {
    int at = whole.indexOf(';', from) + 1;
    int end = whole.indexOf(';', at) + 1;
    if (at < 1 || end < 1) return whole;
    return whole.substring(0, at) + whole.substring(at, end).repeat(7) + whole.substring(at);
  }
}
