import java.io.IOException;
import java.lang.reflect.Constructor;
import java.lang.reflect.Field;
import java.lang.reflect.Member;
import java.lang.reflect.Method;
import java.lang.reflect.Modifier;
import java.nio.charset.StandardCharsets;
import java.nio.file.Files;
import java.nio.file.Path;
import java.util.ArrayList;
import java.util.Collections;
import java.util.List;
import java.util.regex.Matcher;
import java.util.regex.Pattern;

/** The face of the class is the document's, and what ../shared/LANGUAGE.md forbids is not in its file. */
public final class PolyBenchLanguage {
    private static final String[] FACE = {
        "int at(int,int)", "int cell(int,int,int)", "int clear(int)", "int cofactor(int,int,int)",
        "int compose(int,int,int)", "int cost(int,int,int)", "int count(int)", "int divide(int,int,int,boolean)",
        "int feed(int,long)", "int fill(int)", "int force(int)", "int gcd(int,int,int)",
        "int lay(int,int,int,int,int)", "int leave()", "int look(int)", "int move(int,int,int)", "int order(int,int)",
        "int place(int)", "int plan(int,int)", "int planned(int,int,int)", "int power(int)", "int put(int,int,int)",
        "int relation(int)", "int right(int,int)", "int root(int,int)", "int see(int,int)", "int sheet(int,int,int)",
        "int sum(int,int,int,int)", "int taken(int,int)", "int text()", "int times(int,int,int,int)",
        "int told(int,int)", "int value(int,int)", "int way(int,int)", "long counted()", "long says(int,int,int)",
    };
    private static final String[] CONSTANTS = {"int BAD", "int FULL", "int NONE", "int STATE", "long NO"};
    private static final String[] FORBIDDEN = {
        "\\bthrow\\b", "\\bthrows\\b", "\\btry\\b", "\\bcatch\\b", "\\bsynchronized\\b", "\\bassert\\b", "->", "::",
        "\\bimport\\b", "\\bpackage\\b", "\\bequals\\b", "\\bhashCode\\b", "\\btoString\\b", "\\bObject\\b",
        "\\bSystem\\.(?!arraycopy)", "Exact\\b", "\\bThread\\b", "\\bvolatile\\b", "\\bprotected\\b", "\\bnative\\b",
    };

    private static int wrong = 0;

    public static void main(String[] args) throws IOException {
        face();
        hidden();
        for (Class<?> inside : PolyBench.class.getDeclaredClasses()) {
            int flags = inside.getModifiers();
            check(Modifier.isStatic(flags) && !Modifier.isPublic(flags) && !Modifier.isProtected(flags),
                    inside + " is to be static, and not public");
            fields(inside);
        }
        fields(PolyBench.class);
        check(PolyBench.class.getDeclaredClasses().length <= 12, "there are too many classes");
        text(Path.of("src/main/java/PolyBench.java"));
        System.out.println(wrong == 0 ? "the language is kept" : wrong + " rules are broken");
        if (wrong != 0) {
            System.exit(1);
        }
    }

    private static void check(boolean kept, String what) {
        if (!kept) {
            wrong++;
            System.out.println(what);
        }
    }

    private static void face() {
        List<String> calls = new ArrayList<>();
        for (Method method : PolyBench.class.getDeclaredMethods()) {
            if (Modifier.isPublic(method.getModifiers())) {
                StringBuilder call = new StringBuilder(method.getReturnType() + " " + method.getName() + "(");
                for (Class<?> type : method.getParameterTypes()) {
                    call.append(call.charAt(call.length() - 1) == '(' ? "" : ",").append(type);
                }
                calls.add(call + ")");
                check(!Modifier.isStatic(method.getModifiers()), method + " is static");
            }
        }
        Collections.sort(calls);
        check(calls.equals(List.of(FACE)), "the public methods are " + calls);
        List<String> constants = new ArrayList<>();
        for (Field field : PolyBench.class.getDeclaredFields()) {
            if (Modifier.isPublic(field.getModifiers())) {
                constants.add(field.getType() + " " + field.getName());
                check(Modifier.isStatic(field.getModifiers()) && Modifier.isFinal(field.getModifiers()), "" + field);
            }
        }
        Collections.sort(constants);
        check(constants.equals(List.of(CONSTANTS)), "the public constants are " + constants);
        Constructor<?>[] makers = PolyBench.class.getDeclaredConstructors();
        check(makers.length == 1 && makers[0].toString().equals("public PolyBench(int)"), "the constructor");
        int flags = PolyBench.class.getModifiers();
        check(Modifier.isPublic(flags) && Modifier.isFinal(flags), "the class is to be public and final");
    }

    private static void hidden() {
        List<Member> members = new ArrayList<>(List.of(PolyBench.class.getDeclaredMethods()));
        members.addAll(List.of(PolyBench.class.getDeclaredFields()));
        for (Member member : members) {
            int flags = member.getModifiers();
            boolean open = Modifier.isPublic(flags) || Modifier.isPrivate(flags) || member.isSynthetic();
            check(open, member + " is neither public nor private");
            if (member instanceof Method && Modifier.isPrivate(flags)) {
                for (String call : FACE) {
                    check(!call.contains(" " + member.getName() + "("), member + " bears the name of a public one");
                }
            }
        }
    }

    private static void fields(Class<?> owner) {
        int own = 0;
        for (Field field : owner.getDeclaredFields()) {
            boolean isStatic = Modifier.isStatic(field.getModifiers());
            check(!isStatic || Modifier.isFinal(field.getModifiers()), field + " is static and not final");
            own += isStatic ? 0 : 1;
        }
        check(own <= 20, owner + " has " + own + " fields");
    }

    private static void text(Path file) throws IOException {
        String text = Files.readString(file, StandardCharsets.UTF_8);
        for (int i = 0; i < text.length(); i++) {
            check(text.charAt(i) < 128, "a sign above 127 at " + i);
        }
        String code = text.replaceAll("(?s)/\\*.*?\\*/", "").replaceAll("//[^\n]*", "");
        for (String one : FORBIDDEN) {
            Matcher found = Pattern.compile(one).matcher(code);
            check(!found.find(), one + " stands in the code");
        }
    }
}
