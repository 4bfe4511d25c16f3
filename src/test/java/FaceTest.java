import java.lang.reflect.Constructor;
import java.lang.reflect.Field;
import java.lang.reflect.Method;
import java.lang.reflect.Modifier;
import java.nio.file.Files;
import java.nio.file.Path;
import java.util.ArrayList;
import java.util.List;
import java.util.Set;
import java.util.TreeSet;
import java.util.regex.Pattern;

/** The public face, the rules of LANGUAGE.md that can be looked up, and that no numbers make a call throw. */
public final class FaceTest {
    private static final Check CHECK = new Check("FaceTest");
    private static final int[] NUMBERS = {Integer.MIN_VALUE, -5, -4, -2, -1, 0, 1, 2, 3, 4, 5, 6, 7, 8, 9, 10, 11, 300,
        9999, 10000, Integer.MAX_VALUE};
    private static final String[] FACE = {"write(int,long)", "wipe()", "fault()", "lay()", "lad(int,int)",
        "master(int,int)", "wants(int,int,int)", "all(int)", "limit(int,int)", "calls(int)", "step(int)", "undo()",
        "lie(int,int)", "game(int,int,int)", "rest(int,boolean)", "joint(int)", "pay(int)", "seen(int,int)",
        "forget()", "cousins()", "span(int,int,int)", "year(int,int)", "keep()", "back()", "count(int)"};

    public static void main(String[] args) throws Exception {
        face();
        source(Files.readString(Path.of("src/main/java/LotsBid.java")));
        numbers();
        CHECK.close();
    }

    private static void face() {
        Set<String> open = new TreeSet<>();
        Set<String> openNames = new TreeSet<>();
        for (Method method : LotsBid.class.getDeclaredMethods()) {
            if (!Modifier.isPrivate(method.getModifiers())) {
                List<String> types = new ArrayList<>();
                for (Class<?> type : method.getParameterTypes()) {
                    types.add(type.getName());
                }
                open.add(method.getName() + "(" + String.join(",", types) + ")");
                openNames.add(method.getName());
                CHECK.holds(method + " is public and answers an int", Modifier.isPublic(method.getModifiers())
                    && !Modifier.isStatic(method.getModifiers()) && method.getReturnType() == int.class);
            }
        }
        CHECK.holds("the methods are those of the document: " + open, open.equals(Set.of(FACE)));
        CHECK.holds("final", Modifier.isFinal(LotsBid.class.getModifiers()));
        for (Field field : LotsBid.class.getDeclaredFields()) {
            boolean told = Set.of("BAD", "NO", "FULL", "NONE").contains(field.getName());
            CHECK.holds(field + " is private but for the constants", Modifier.isPrivate(field.getModifiers()) != told);
        }
        for (Constructor<?> made : LotsBid.class.getDeclaredConstructors()) {
            CHECK.holds(made + " is public and without arguments", Modifier.isPublic(made.getModifiers())
                && made.getParameterCount() == 0);
        }
        for (Class<?> inside : LotsBid.class.getDeclaredClasses()) {
            CHECK.holds(inside + " is static and not public", Modifier.isStatic(inside.getModifiers())
                && !Modifier.isPublic(inside.getModifiers()) && !Modifier.isProtected(inside.getModifiers()));
            for (Method method : inside.getDeclaredMethods()) {
                CHECK.holds(method + " has a name of its own", !openNames.contains(method.getName()));
                CHECK.holds(method + " takes seven at most", method.getParameterCount() <= 7);
            }
        }
        CHECK.holds("twelve classes at most", LotsBid.class.getDeclaredClasses().length <= 11);
    }

    private static void source(String text) {
        String code = text.replaceAll("(?s)/\\*.*?\\*/", "").replaceAll("//[^\n]*", "");
        for (String word : new String[] {"throw", "throws", "try", "catch", "finally", "synchronized", "assert",
            "package", "protected", "volatile", "native", "Exact", "System\\.(?!arraycopy)", "Object", "Random",
            "Thread"}) {
            CHECK.holds("no " + word, !Pattern.compile("\\b" + word + "\\b|\\w" + word + "\\b").matcher(code).find());
        }
        CHECK.holds("no lambda, no method reference", !code.contains("->") && !code.contains("::"));
        for (String line : code.split("\n")) {
            CHECK.holds("import of the list: " + line, !line.startsWith("import")
                || line.matches("import java\\.util\\.(Arrays|ArrayList|List|Iterator);"));
        }
        for (int k = 0; k < text.length(); k++) {
            CHECK.holds("signs 1 to 127", text.charAt(k) >= 1 && text.charAt(k) <= 127);
        }
    }

    private static void numbers() {
        for (String text : new String[] {"", "m1;l1,0;",
            "m3;m3;m3;l10,1;l10,2;l10,3;l10,0;l1,0;w0,2,10;w4,2,10;w1,1,4;"}) {
            for (int a : NUMBERS) {
                one(fresh(text), a);
                for (int b : NUMBERS) {
                    LotsBid x = fresh(text);
                    two(x, a, b);
                    for (int c : NUMBERS) {
                        x.wants(a, b, c);
                        x.span(a, b, c);
                        x.game(a, b, c);
                    }
                    for (int what = 0; what <= 7; what++) {
                        CHECK.holds("count(" + what + ") is told", x.count(what) >= 0);
                    }
                }
            }
        }
    }

    private static LotsBid fresh(String text) {
        LotsBid x = Check.written(text);
        x.lay();
        return x;
    }

    private static void one(LotsBid x, int a) {
        x.write(a, -1L);
        x.fault();
        x.all(a);
        x.calls(a);
        x.step(a);
        x.rest(a, true);
        x.rest(a, false);
        x.joint(a);
        x.pay(a);
        x.cousins();
        x.keep();
        x.undo();
        x.count(a);
        x.lay();
        x.wipe();
    }

    private static void two(LotsBid x, int a, int b) {
        x.lad(a, b);
        x.master(a, b);
        x.limit(a, b);
        x.lie(a, b);
        x.seen(a, b);
        x.year(a, b);
        x.back();
        x.forget();
    }
}
