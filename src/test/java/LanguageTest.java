import java.io.IOException;
import java.lang.reflect.*;
import java.nio.file.*;
import java.util.*;
import java.util.regex.*;

/** Looks at the class as ../shared/LANGUAGE.md binds it: its face, words that must not stand in it, sizes. */
public final class LanguageTest {
  private static int wrong = 0;
  private static void say(String what) { wrong++; System.out.println(what); }

  private static final String[] FACE = {
    "feed int int int int int int", "end boolean int", "grammar int", "fault int", "rule int int int", "kind int int int", "item int int int",
    "place int int int", "step int int int int", "merge int int int", "depth int int", "drop int int", "add int int", "undo int", "twins int int",
    "twin int int int int", "suspects int int", "suspectAt int int int", "proven int", "shadow int", "trees int", "tree int int", "treeAt int int",
    "witness int int", "witnessAt int int", "tag int int", "byteAt int int", "drawn int int int", "odds int int int", "book int int", "told int int",
    "sentence int", "said int int", "image boolean int", "restore boolean int", "count int int"
  };

  private static void face() {
    Set<String> due = new TreeSet<>(List.of(FACE)), names = new TreeSet<>();
    for (String f : FACE) names.add(f.replaceAll(" .*", ""));
    Set<String> got = new TreeSet<>();
    for (Method m : TwinTrees.class.getDeclaredMethods()) {
      if (Modifier.isPrivate(m.getModifiers())) { if (names.contains(m.getName())) say("private " + m.getName()); continue; }
      StringBuilder b = new StringBuilder(m.getName() + " " + m.getReturnType());
      for (Class<?> c : m.getParameterTypes()) b.append(' ').append(c);
      got.add(b.toString());
      if (!Modifier.isPublic(m.getModifiers()) || Modifier.isStatic(m.getModifiers())) say("not public: " + b);
    }
    if (!got.equals(due)) say("the face is " + got);
    for (Field f : TwinTrees.class.getDeclaredFields())
      if (!Modifier.isPrivate(f.getModifiers()) && !f.getName().equals("NONE")) say("open field " + f.getName());
    if (!Modifier.isFinal(TwinTrees.class.getModifiers()) || TwinTrees.class.getDeclaredConstructors().length != 1) say("the class is not final, of one constructor");
    List<Class<?>> all = new ArrayList<>(List.of(TwinTrees.class.getDeclaredClasses())); all.add(TwinTrees.class);
    if (all.size() > 12) say(all.size() + " classes");
    for (Class<?> c : all) {
      int fields = 0;
      for (Field f : c.getDeclaredFields()) {
        if (!Modifier.isStatic(f.getModifiers())) fields++; else if (!Modifier.isFinal(f.getModifiers())) say("static " + f.getName());
      }
      if (fields > 20) say(c.getName() + " has " + fields + " fields");
      if (c != TwinTrees.class && !Modifier.isStatic(c.getModifiers())) say(c.getName() + " is not static");
      for (Method m : c.getDeclaredMethods()) if (m.getParameterCount() > 7) say(m.getName() + " takes more than seven");
    }
  }

  private static void words(String code) {
    for (String w : new String[] {"throw", "throws", "try", "catch", "synchronized", "assert", "import", "package", "goto", "native", "volatile", "Object", "Exception", "System.out", "Exact"}) {
      if (Pattern.compile("\\b" + Pattern.quote(w) + "\\b").matcher(code).find()) say("'" + w + "' stands in it");
    }
    if (code.contains("->") || code.contains("::")) say("a lambda or a method reference");
    if (Pattern.compile("while\\s*\\(\\s*true|for\\s*\\([^;]*;\\s*;").matcher(code).find()) say("a loop without an end");
    if (Pattern.compile("static\\s*\\{").matcher(code).find()) say("a static block");
    for (Matcher m = Pattern.compile("(System|Arrays|Integer|Long|Math)\\.(\\w+)").matcher(code); m.find();)
      if (!Set.of("arraycopy", "bitCount", "min", "max").contains(m.group(2))) say("library: " + m.group());
    for (char c : code.toCharArray()) if (c > 126) { say("a sign above 126"); break; }
  }

  private static void lengths(List<String> lines) {
    int from = -1; String name = "";
    for (int i = 0; i < lines.size(); i++) {
      String l = lines.get(i);
      if (from < 0 && l.matches(" {4,8}[a-zA-Z].*\\(.*\\) \\{")) { from = i; name = l.trim(); }
      if (from >= 0 && l.equals(lines.get(from).replaceAll("\\S.*", "") + "}")) { if (i - from + 1 > 60) say(name + " has " + (i - from + 1) + " lines"); from = -1; }
    }
  }

  /** All calls live in one room: what is made is made with the object, in fields and in the constructor. */
  private static void made(List<String> lines) {
    boolean inside = false;
    for (String l : lines) {
      if (l.startsWith("    public TwinTrees()")) inside = true;
      if (l.equals("    }")) inside = false;
      if (l.matches(".*\\bnew\\b.*") && !inside && !l.matches(" {4,8}(private )?final .* = new .*;") && !l.matches("\\s*(//|\\*|/\\*).*")) say("made behind the constructor: " + l.trim());
    }
  }

  public static void main(String[] args) throws IOException {
    List<String> lines = Files.readAllLines(Path.of("src/main/java/TwinTrees.java"));
    String code = String.join("\n", lines).replaceAll("(?s)/\\*.*?\\*/", "").replaceAll("//[^\n]*", "");
    face(); words(code); lengths(lines); made(lines);
    System.out.println(wrong == 0 ? "the language is kept" : wrong + " rules are not kept");
    if (wrong != 0) System.exit(1);
  }
}
