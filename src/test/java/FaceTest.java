import java.io.IOException;
import java.lang.reflect.Constructor;
import java.lang.reflect.Field;
import java.lang.reflect.Method;
import java.lang.reflect.Modifier;
import java.nio.charset.StandardCharsets;
import java.nio.file.Files;
import java.nio.file.Path;
import java.util.ArrayList;
import java.util.HashSet;
import java.util.List;
import java.util.Set;
import java.util.TreeSet;
import java.util.regex.Matcher;
import java.util.regex.Pattern;

/** The public face, and what of LANGUAGE.md can be looked up in the class and in its file. */
public final class FaceTest {
  private static final String[] FACE = {
    "int machine(int,int)", "int now(int)", "int garment(int)", "int of(int,int)", "int set(int,int,int)", "int wash(int)",
    "int draw(int,int)", "int turn(int,int)", "int as(int,int)", "int person(int,int)", "int size(int,int)", "int fits(int)",
    "int days(int)", "int on(int,int,int)", "int again(int,int,int)", "int washes(int,int)", "int warmest(int,int)",
    "int pull(int,int)", "int kind(int,int)", "int dressed(int)", "int shortest(int)", "int feed(int,int)", "int wipe()",
    "int basket()", "int sheet(int,int,int)", "long write(int,int,long)", "int copy(int,int,int,int,int)", "int lays(int)",
    "int book(int,int)", "int read(int,int)", "int image()", "int undo()", "int tear()", "int count(int)", "int status(int)"
  };

  /** What the interface says ahead of calls, and the calls behind it, as the document tells them. */
  private static final String[] INTERFACE = {
    "---- the machine", "machine", "now",
    "---- garments", "garment", "of", "set", "wash", "draw", "turn", "as",
    "---- people", "person", "size", "fits",
    "---- days", "days", "on", "again", "washes",
    "---- what is best", "warmest", "pull", "kind", "dressed", "shortest",
    "---- the text", "feed", "wipe", "basket",
    "---- sheets", "sheet", "write", "copy", "lays", "book", "read",
    "---- images", "image", "undo", "tear", "count", "status"
  };

  public static void main(String[] args) throws IOException {
    faceIsTheDocuments();
    noOtherNameIsUsedAgain();
    classesInside();
    Path source = Path.of(System.getProperty("feltedwash.source", "src/main/java/FeltedWash.java"));
    String text = Files.readString(source, StandardCharsets.ISO_8859_1);
    interfaceSays(text);
    onlyPlainSigns(text);
    noForbiddenWords(bare(text));
    methodsStayShort(text);
    Due.end();
  }

  private static void faceIsTheDocuments() {
    Set<String> due = new TreeSet<>(Set.of(FACE));
    Set<String> is = new TreeSet<>();
    for (Method m : FeltedWash.class.getDeclaredMethods()) {
      if (!Modifier.isPrivate(m.getModifiers())) {
        is.add(told(m));
        Due.that(m.getName() + " is public and of the object", m.getModifiers() == Modifier.PUBLIC);
      }
    }
    Due.that("the public methods are those of the document: " + is, is.equals(due));
    Constructor<?>[] made = FeltedWash.class.getDeclaredConstructors();
    Due.is("constructors", made.length, 1);
    Due.that("the constructor is public, without arguments",
        made[0].getParameterCount() == 0 && Modifier.isPublic(made[0].getModifiers()));
    Due.that("the class is public and final", FeltedWash.class.getModifiers() == (Modifier.PUBLIC | Modifier.FINAL));
    Due.that("it has no package", FeltedWash.class.getPackageName().isEmpty());
    for (Field f : FeltedWash.class.getDeclaredFields()) {
      Due.that(f.getName() + " is private", Modifier.isPrivate(f.getModifiers()));
    }
  }

  /** Headings and public calls in the order of the file; a heading with no public call behind it is not of the interface. */
  private static void interfaceSays(String text) {
    List<String> is = new ArrayList<>();
    String heading = "";
    Matcher line = Pattern.compile("(?m)^  (?:// (---- .*)|public (?:int|long) (\\w+)\\(.*)$").matcher(text);
    while (line.find()) {
      if (line.group(1) != null) {
        heading = line.group(1).trim();
        continue;
      }
      if (!heading.isEmpty()) {
        is.add(heading);
        heading = "";
      }
      is.add(line.group(2));
    }
    Due.that("the interface says ahead of which calls: " + is, is.equals(List.of(INTERFACE)));
  }

  private static String told(Method m) {
    StringBuilder text = new StringBuilder(m.getReturnType().getName()).append(' ').append(m.getName()).append('(');
    Class<?>[] types = m.getParameterTypes();
    for (int i = 0; i < types.length; i++) {
      text.append(i == 0 ? "" : ",").append(types[i].getName());
    }
    return text.append(')').toString();
  }

  private static void noOtherNameIsUsedAgain() {
    Set<String> names = new HashSet<>();
    for (String call : FACE) {
      names.add(call.substring(call.indexOf(' ') + 1, call.indexOf('(')));
    }
    for (Method m : FeltedWash.class.getDeclaredMethods()) {
      Due.that("private " + m.getName(), !Modifier.isPrivate(m.getModifiers()) || !names.contains(m.getName()));
    }
    for (Class<?> inside : FeltedWash.class.getDeclaredClasses()) {
      for (Method m : inside.getDeclaredMethods()) {
        Due.that(inside.getName() + "." + m.getName(), !names.contains(m.getName()));
      }
    }
  }

  private static void classesInside() {
    Class<?>[] inside = FeltedWash.class.getDeclaredClasses();
    Due.that("at most twelve classes", inside.length + 1 <= 12);
    for (Class<?> c : inside) {
      Due.that(c.getName() + " is private and static",
          Modifier.isStatic(c.getModifiers()) && Modifier.isPrivate(c.getModifiers()));
      int fields = 0;
      for (Field f : c.getDeclaredFields()) {
        boolean constant = Modifier.isStatic(f.getModifiers());
        fields += constant ? 0 : 1;
        Due.that(f + " is a constant", !constant || Modifier.isFinal(f.getModifiers()));
      }
      Due.that(c.getName() + " has at most twenty fields", fields <= 20);
    }
  }

  private static void onlyPlainSigns(String text) {
    for (int i = 0; i < text.length(); i++) {
      char sign = text.charAt(i);
      if (sign != '\n' && (sign < ' ' || sign > '~')) {
        Due.that("sign " + (int) sign + " at " + i, false);
      }
    }
    Due.that("no import, no package", !Pattern.compile("(?m)^\\s*(import|package)\\b").matcher(text).find());
  }

  /** The text without comments and without what stands in quotes. */
  private static String bare(String text) {
    return text.replaceAll("(?s)/\\*.*?\\*/", " ").replaceAll("//[^\n]*", " ").replaceAll("\"[^\"\n]*\"", "\"\"");
  }

  private static void noForbiddenWords(String bare) {
    String[] words = {
      "throw", "throws", "try", "catch", "finally", "synchronized", "assert", "volatile", "transient", "native", "Object",
      "hashCode", "System\\.(?!arraycopy)\\w+", "Thread", "Random", "Exception", "Error", "values", "var", "double", "float",
      "\\w+Exact"
    };
    for (String word : words) {
      Matcher m = Pattern.compile("\\b" + word + "\\b").matcher(bare);
      Due.that("the file has '" + word + "'", !m.find());
    }
    Due.that("no lambda, no method reference", !bare.contains("->") && !bare.contains("::"));
    Due.that("no text joined by +", !bare.contains("\"\" +") && !bare.contains("+ \"\""));
  }

  private static void methodsStayShort(String text) {
    String[] lines = text.split("\n");
    int since = -1;
    String name = "";
    for (int i = 0; i < lines.length; i++) {
      boolean begins = lines[i].matches("^(  |    )[a-zA-Z].*\\) \\{$") && !lines[i].matches("^\\s*(if|for|while|switch|else).*");
      if (begins) {
        since = i;
        name = lines[i].trim();
        Due.that(name + " has at most seven parameters", lines[i].chars().filter(c -> c == ',').count() <= 6);
      }
      if (since >= 0 && lines[i].matches("^(  |    )\\}$") && indent(lines[i]) == indent(lines[since])) {
        Due.that(name + " has at most sixty lines", i - since + 1 <= 60);
        since = -1;
      }
    }
  }

  private static int indent(String line) {
    return line.length() - line.stripLeading().length();
  }
}
