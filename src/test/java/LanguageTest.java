import java.lang.reflect.Constructor;
import java.lang.reflect.Field;
import java.lang.reflect.Method;
import java.lang.reflect.Modifier;
import java.nio.charset.StandardCharsets;
import java.nio.file.Files;
import java.nio.file.Path;
import java.util.Arrays;
import java.util.HashSet;
import java.util.Set;
import java.util.TreeSet;
import java.util.regex.Matcher;
import java.util.regex.Pattern;

/** What a program can look at of LANGUAGE.md, and the public face of the document. */
public final class LanguageTest {
    private static final String[] FACE = {
        "int feed(int,long)", "int plait()", "int way()", "int fault()", "int piece(int,int)", "int law(int,int)",
        "int give(int)", "int count(int)", "int joint(int,int,int)", "int speed(int,int)", "long force(int,int)",
        "int loop(int)", "int crack(int,int)", "int kind()", "int turns()", "int put(int,int,int)", "int near()",
        "int leastHand()", "int loudest(int,int)", "int aim(int,int,int,int,int)", "int alone(int,int)",
        "int bestAim(int,int,int)", "int close(int,int,int)", "int rhythm(int,int,int,int)", "int crackOn()",
        "int evening(int)", "int lay(int,int)", "int clear()", "int cut()", "int film(int,int)", "int blank()",
        "int told(int)", "int keep(int)", "int goBack(int)"};
    private static final String[] CONSTANTS = {"NONE", "UNKNOWN", "OUTSIDE", "NOT", "FULL"};
    private static final Check check = new Check("LanguageTest");

    public static void main(String[] args) throws Exception {
        face();
        classes();
        source(Files.readString(Path.of("src/main/java/WhipCrack.java"), StandardCharsets.ISO_8859_1));
        check.end();
    }

    private static void face() {
        Class<?> c = WhipCrack.class;
        check.holds("public and final", Modifier.isPublic(c.getModifiers()) && Modifier.isFinal(c.getModifiers()));
        Set<String> methods = new TreeSet<>();
        for (Method m : c.getDeclaredMethods()) {
            if (!Modifier.isPrivate(m.getModifiers())) {
                StringBuilder s = new StringBuilder(m.getReturnType() + " " + m.getName() + "(");
                for (Class<?> p : m.getParameterTypes()) {
                    s.append(s.charAt(s.length() - 1) == '(' ? "" : ",").append(p);
                }
                methods.add(s + ")");
                check.holds(m + " is public and no more", m.getModifiers() == Modifier.PUBLIC);
            }
        }
        check.holds("the methods are the document's: " + methods, methods.equals(new TreeSet<>(Arrays.asList(FACE))));
        Set<String> constants = new TreeSet<>();
        for (Field f : c.getDeclaredFields()) {
            if (!Modifier.isPrivate(f.getModifiers())) {
                constants.add(f.getName());
                check.holds(f + " is a constant",
                    f.getModifiers() == (Modifier.PUBLIC | Modifier.STATIC | Modifier.FINAL) && f.getType() == int.class);
            }
        }
        check.holds("the constants are the document's", constants.equals(new TreeSet<>(Arrays.asList(CONSTANTS))));
        Constructor<?>[] made = c.getDeclaredConstructors();
        check.holds("one constructor, public, without arguments", made.length == 1
            && Modifier.isPublic(made[0].getModifiers()) && made[0].getParameterCount() == 0);
    }

    private static void classes() {
        Class<?>[] inside = WhipCrack.class.getDeclaredClasses();
        check.holds("at most twelve classes", inside.length + 1 <= 12);
        Set<String> names = new HashSet<>();
        for (Method m : WhipCrack.class.getDeclaredMethods()) {
            if (Modifier.isPublic(m.getModifiers())) {
                names.add(m.getName());
            }
        }
        look(WhipCrack.class, names);
        for (Class<?> c : inside) {
            check.holds(c + " is static and not open to the outside", Modifier.isStatic(c.getModifiers())
                && !Modifier.isPublic(c.getModifiers()) && !Modifier.isProtected(c.getModifiers()));
            look(c, names);
        }
    }

    private static void look(Class<?> c, Set<String> names) {
        int fields = 0;
        for (Field f : c.getDeclaredFields()) {
            boolean isStatic = Modifier.isStatic(f.getModifiers());
            fields += isStatic ? 0 : 1;
            check.holds(f + " is final if it is static", !isStatic || Modifier.isFinal(f.getModifiers()));
        }
        check.holds(c + " has at most twenty fields", fields <= 20);
        for (Method m : c.getDeclaredMethods()) {
            check.holds(m + " has at most seven parameters", m.getParameterCount() <= 7);
            check.holds(m + " has no name of the face",
                Modifier.isPublic(m.getModifiers()) || !names.contains(m.getName()));
        }
    }

    private static void source(String source) {
        boolean plain = true;
        for (int i = 0; i < source.length(); i++) {
            plain &= source.charAt(i) < 128;
        }
        check.holds("the file has signs below 128 alone", plain);
        String code = source.replaceAll("(?s)/\\*.*?\\*/", "").replaceAll("//[^\n]*", "");
        String[] ruledOut = {"\\bthrow\\b", "\\bthrows\\b", "\\btry\\b", "\\bcatch\\b", "\\bfinally\\b",
            "\\bsynchronized\\b", "\\bassert\\b", "\\bimport\\b", "\\bpackage\\b", "->", "::", "Exact\\b", "\\bSystem\\.(?!arraycopy)",
            "\\bRandom\\b", "\\bThread\\b", "\\bsqrt\\b", "\\bdouble\\b", "\\bfloat\\b", "\\bhashCode\\b", "\\btoString\\b",
            "\\bstatic\\s*\\{"};
        for (String r : ruledOut) {
            check.holds("nothing like " + r, !Pattern.compile(r).matcher(code).find());
        }
        for (String line : code.split("\n")) {
            // Rows and objects stand in field initialisers alone: those lines are indented by 4 or 8 and have no call.
            if (line.matches(".*\\bnew\\b.*")) {
                check.holds("made with the object, not by a call: " + line.trim(),
                    line.matches("( {4}| {8})(private )?final [A-Za-z]+(\\[\\])? [a-zA-Z0-9]+ = new .*;"));
            }
        }
        methodLengths(code.split("\n"));
    }

    private static void methodLengths(String[] lines) {
        Pattern head = Pattern.compile("^( {4}| {8})(?! )(?!.*\\b(class|if|for|while|switch|else)\\b).*\\) \\{$");
        for (int i = 0; i < lines.length; i++) {
            Matcher m = head.matcher(lines[i]);
            if (m.find()) {
                int end = i;
                while (end < lines.length && !lines[end].equals(m.group(1) + "}")) {
                    end++;
                }
                check.holds(lines[i].trim() + " is short", end - i <= 60);
            }
        }
    }
}
