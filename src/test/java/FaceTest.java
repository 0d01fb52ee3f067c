import java.io.IOException;
import java.lang.reflect.Constructor;
import java.lang.reflect.Field;
import java.lang.reflect.Method;
import java.lang.reflect.Modifier;
import java.nio.file.Files;
import java.nio.file.Path;
import java.util.ArrayList;
import java.util.Arrays;
import java.util.List;
import java.util.TreeSet;
import java.util.regex.Matcher;
import java.util.regex.Pattern;

/** The public face as the document lists it, and what LANGUAGE.md rules out. */
public final class FaceTest {
    private static int wrong = 0;

    private static final String[] FACE = {
        "int append(int) IllegalArgumentException IllegalStateException",
        "int bestFold()",
        "int cell(int,int) IndexOutOfBoundsException IllegalArgumentException",
        "int clearBuffer()",
        "int corridor() IllegalArgumentException",
        "int count(int) IllegalArgumentException",
        "long digest()",
        "int door(int,int) IndexOutOfBoundsException IllegalArgumentException",
        "int firstError()",
        "int fold(int) IllegalArgumentException",
        "int ifDoor(int,int) IndexOutOfBoundsException IllegalArgumentException",
        "int key(int,int) IndexOutOfBoundsException IllegalArgumentException IllegalStateException",
        "int ladder(int,boolean) IndexOutOfBoundsException",
        "int plan(int,int) IndexOutOfBoundsException IllegalArgumentException",
        "double reached()",
        "int refusal(int) IllegalArgumentException",
        "int stand(int) IndexOutOfBoundsException",
        "int step(int) IllegalArgumentException IllegalStateException",
        "int undo() IllegalStateException",
        "int walk(int) IndexOutOfBoundsException IllegalStateException",
        "int walker(int) IllegalArgumentException",
        "int without(int) IndexOutOfBoundsException"};

    private static final String[] RULED_OUT = {"\\bimport\\b", "\\bpackage\\b", "->", "::", "\\bfinally\\b",
        "\\bcatch\\b", "\\bsynchronized\\b", "\\bassert\\b", "\\bvar\\b", "Double\\.", "Object\\b", "HashMap",
        "System\\.(?!arraycopy)", "Exact\\(", "\\bprotected\\b", "\" \\+", "\\+ \""};

    private static void due(String what, boolean fine) {
        if (!fine) {
            wrong++;
            System.out.println(what);
        }
    }

    private static String told(Method method) {
        StringBuilder told = new StringBuilder();
        told.append(method.getReturnType().getSimpleName()).append(' ').append(method.getName()).append('(');
        for (Class<?> type : method.getParameterTypes()) {
            told.append(told.charAt(told.length() - 1) == '(' ? "" : ",").append(type.getSimpleName());
        }
        told.append(')');
        for (Class<?> type : method.getExceptionTypes()) {
            told.append(' ').append(type.getSimpleName());
        }
        return told.toString();
    }

    private static void checkFace() {
        Class<?> face = FoldedKeys.class;
        due("the class is not public and final",
                Modifier.isPublic(face.getModifiers()) && Modifier.isFinal(face.getModifiers()));
        TreeSet<String> names = new TreeSet<>();
        List<String> open = new ArrayList<>();
        for (Method method : face.getDeclaredMethods()) {
            if (Modifier.isPublic(method.getModifiers())) {
                open.add(told(method));
                names.add(method.getName());
            } else {
                due(method + " is neither public nor private", Modifier.isPrivate(method.getModifiers()));
            }
        }
        open.sort(null);
        List<String> want = new ArrayList<>(Arrays.asList(FACE));
        want.sort(null);
        due("the face is " + open, open.equals(want));
        for (Method method : face.getDeclaredMethods()) {
            due(method + " bears a public name",
                    Modifier.isPublic(method.getModifiers()) || !names.contains(method.getName()));
        }
        for (Field field : face.getDeclaredFields()) {
            boolean open1 = field.getName().equals("NONE") && Modifier.isPublic(field.getModifiers());
            due(field + " is open", open1 || Modifier.isPrivate(field.getModifiers()));
            due(field + " is static and not final",
                    !Modifier.isStatic(field.getModifiers()) || Modifier.isFinal(field.getModifiers()));
        }
        Constructor<?>[] constructors = face.getDeclaredConstructors();
        due("the constructor", constructors.length == 1 && constructors[0].getParameterCount() == 0
                && Modifier.isPublic(constructors[0].getModifiers()));
        for (Class<?> inside : face.getDeclaredClasses()) {
            due(inside + " is not static or is open", Modifier.isStatic(inside.getModifiers())
                    && !Modifier.isPublic(inside.getModifiers()) && !Modifier.isProtected(inside.getModifiers()));
        }
    }

    private static void checkSource() throws IOException {
        String source = Files.readString(Path.of("src/main/java/FoldedKeys.java"));
        String code = source.replaceAll("(?s)/\\*.*?\\*/", "").replaceAll("//[^\n]*", "");
        for (String pattern : RULED_OUT) {
            Matcher matcher = Pattern.compile(pattern).matcher(code);
            due("ruled out: " + pattern, !matcher.find());
        }
    }

    public static void main(String[] args) throws IOException {
        checkFace();
        checkSource();
        System.out.println(wrong == 0 ? "the face is as due" : wrong + " wrong");
        if (wrong != 0) {
            System.exit(1);
        }
    }
}
