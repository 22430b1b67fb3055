import java.lang.reflect.Field;
import java.lang.reflect.Method;
import java.lang.reflect.Modifier;
import java.nio.charset.StandardCharsets;
import java.nio.file.Files;
import java.nio.file.Paths;
import java.util.Arrays;
import java.util.List;
import java.util.Set;
import java.util.TreeSet;
import java.util.regex.Matcher;
import java.util.regex.Pattern;

/** The class's face is the document's, and its source keeps to what LANGUAGE.md lets be seen by a reader. */
public final class FaceTest {
    private static final String[] FACE = {
        "int feed(int,int,int,int,int)", "int back(int)", "int read()", "int place()", "int clock()",
        "int fact(int,int)", "int word(int,int)", "int witness(int,int)", "int share(int)", "int hearing(int,int)",
        "int say(int)", "int look(int)", "int pause(int)", "boolean undo()", "int would(int)",
        "int ahead(int,int,int)", "int aheadAt(int,int,int)", "int order(int,boolean)",
        "int orderAt(int,boolean,int)", "int never(int,int)", "int smallest()", "int states(int)", "int looks(int)",
        "int settled(int)", "int write(int)", "int burn()", "long fits(int)", "int surely(int)", "int liars(int)",
        "boolean hold(int)", "boolean restore(int)", "int count(int)"};

    public static void main(String[] args) throws Exception {
        face();
        members();
        source(new String(Files.readAllBytes(Paths.get(args[0])), StandardCharsets.ISO_8859_1));
        Check.end();
    }

    private static String signature(Method m) {
        StringBuilder b = new StringBuilder(m.getReturnType().getName()).append(' ').append(m.getName()).append('(');
        Class<?>[] types = m.getParameterTypes();
        for (int i = 0; i < types.length; i++) b.append(i > 0 ? "," : "").append(types[i].getName());
        return b.append(')').toString();
    }

    private static void face() {
        Check.part("the face");
        Set<String> found = new TreeSet<>();
        Set<String> names = new TreeSet<>();
        for (Method m : LieClock.class.getDeclaredMethods()) {
            if (!Modifier.isPublic(m.getModifiers())) continue;
            found.add(signature(m));
            names.add(m.getName());
            Check.due(m + " is static", Modifier.isStatic(m.getModifiers()), false);
        }
        for (String s : FACE) Check.due(s + " is there", found.contains(s), true);
        for (String s : found) Check.due(s + " is the document's", Arrays.asList(FACE).contains(s), true);
        Check.due("public constructors", LieClock.class.getConstructors().length, 1);
        Check.due("all constructors", LieClock.class.getDeclaredConstructors().length, 1);
        Check.due("final", Modifier.isFinal(LieClock.class.getModifiers()), true);
        for (Class<?> c : LieClock.class.getDeclaredClasses()) {
            Check.due(c + " is static", Modifier.isStatic(c.getModifiers()), true);
            for (Method m : c.getDeclaredMethods()) {
                Check.due(m + " bears a public name", names.contains(m.getName()), false);
            }
            fields(c);
        }
        for (Method m : LieClock.class.getDeclaredMethods()) {
            boolean both = !Modifier.isPublic(m.getModifiers()) && names.contains(m.getName());
            Check.due(m + " bears a public name", both, false);
        }
    }

    private static void members() {
        Check.part("the members");
        for (Method m : LieClock.class.getDeclaredMethods()) {
            int mods = m.getModifiers();
            Check.due(m + " is public or private", Modifier.isPublic(mods) || Modifier.isPrivate(mods), true);
        }
        for (Field f : LieClock.class.getDeclaredFields()) {
            boolean isNone = f.getName().equals("NONE");
            Check.due(f + " is private but NONE", isNone || Modifier.isPrivate(f.getModifiers()), true);
        }
        fields(LieClock.class);
        Check.due("at most twelve classes", LieClock.class.getDeclaredClasses().length <= 11, true);
    }

    private static void fields(Class<?> c) {
        int own = 0;
        for (Field f : c.getDeclaredFields()) {
            if (Modifier.isStatic(f.getModifiers())) {
                Check.due(f + " is final", Modifier.isFinal(f.getModifiers()), true);
            } else {
                own++;
            }
        }
        Check.due(c + " has at most twenty fields", own <= 20, true);
    }

    private static void source(String whole) {
        Check.part("the source");
        String code = whole.replaceAll("(?s)/\\*.*?\\*/", "").replaceAll("//[^\n]*", "");
        String[] ruledOut = {"\\bthrow\\b", "\\btry\\b", "\\bcatch\\b", "\\bsynchronized\\b", "\\bassert\\b", "->",
            "::", "\\bpackage\\b", "Exact\\b", "\\bprotected\\b", "\\bwhile\\s*\\(\\s*true", "for\\s*\\(\\s*;",
            "\\bequals\\b", "\\bhashCode\\b", "\\btoString\\b", "\\bSystem\\.(?!arraycopy)", "\\bObject\\b"};
        for (String r : ruledOut) Check.due(r + " is found", Pattern.compile(r).matcher(code).find(), false);
        Matcher imports = Pattern.compile("import ([^;]+);").matcher(code);
        while (imports.find()) {
            Check.due("import " + imports.group(1), imports.group(1).equals("java.util.Arrays"), true);
        }
        boolean plain = true;
        for (char c : whole.toCharArray()) plain &= c == '\n' || c >= 32 && c < 127;
        Check.due("plain signs alone", plain, true);
        methodLengths(Arrays.asList(whole.split("\n")));
    }

    private static void methodLengths(List<String> lines) {
        Pattern head = Pattern.compile("^( {4}| {8})\\S.*\\) \\{$");
        int begin = -1;
        String indent = "";
        for (int i = 0; i < lines.size(); i++) {
            Matcher m = head.matcher(lines.get(i));
            if (begin < 0 && m.find()) {
                begin = i;
                indent = m.group(1);
            } else if (begin >= 0 && lines.get(i).equals(indent + "}")) {
                Check.due("method at line " + (begin + 1) + " is short", i - begin < 60, true);
                begin = -1;
            }
        }
    }
}
