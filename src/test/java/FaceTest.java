import java.lang.reflect.Constructor;
import java.lang.reflect.Field;
import java.lang.reflect.Method;
import java.lang.reflect.Modifier;
import java.nio.file.Files;
import java.nio.file.Path;
import java.util.Arrays;
import java.util.Set;
import java.util.TreeSet;
import java.util.regex.Matcher;
import java.util.regex.Pattern;

/** The public face of the class is that of the document and no more; the source keeps out what LANGUAGE.md rules out. */
public final class FaceTest {
    private static final Set<String> FACE = Set.of(
        "kind 3", "shelf 2", "mend 3", "stock 3", "rate 3", "fails 3", "days 1", "choose 0", "about 3",
        "ask 4", "all 2", "field 2", "mender 2", "pipe 3", "worth 0", "count 1");
    private static final Set<String> CONSTANTS = Set.of("NONE", "BAD", "STATE", "FULL");
    private static final Set<String> IMPORTS = Set.of("java.util.ArrayList", "java.util.Arrays", "java.util.Iterator", "java.util.List");
    private static final int MOST_PARAMETERS = 7, MOST_CLASSES = 12, MOST_FIELDS = 20;
    private static final Pattern IMPORT = Pattern.compile("import ([^;]*);");
    private static final Pattern RULED_OUT = Pattern.compile(
        "\\b(throw|throws|try|catch|synchronized|assert|package|Exact|equals|hashCode|toString)\\b|->|::|Exact\\(");

    private static int wrong = 0;

    private static void check(boolean holds, String what) {
        if (!holds) {
            wrong++;
            System.out.println("not as due: " + what);
        }
    }

    public static void main(String[] args) throws Exception {
        Class<?> face = SpareShelves.class;
        check(Modifier.isPublic(face.getModifiers()) && Modifier.isFinal(face.getModifiers()), "public final");
        methods(face);
        constants(face);
        Constructor<?>[] makers = face.getDeclaredConstructors();
        check(makers.length == 1 && makers[0].getParameterCount() == 0
            && Modifier.isPublic(makers[0].getModifiers()), "one public constructor without parameters");
        check(face.getDeclaredClasses().length < MOST_CLASSES, "at most some twelve classes");
        check(ownFields(face) <= MOST_FIELDS, "at most some twenty fields");
        for (Class<?> inside : face.getDeclaredClasses()) {
            inside(inside);
        }
        source();
        System.out.println(wrong == 0 ? "the face is as due" : wrong + " things are not as due");
        if (wrong != 0) {
            System.exit(1);
        }
    }

    private static void inside(Class<?> inside) {
        int how = inside.getModifiers();
        check(Modifier.isStatic(how) && !Modifier.isPublic(how) && !Modifier.isProtected(how),
            inside + " is static, and private or package-visible");
        check(ownFields(inside) <= MOST_FIELDS, inside + " has at most some twenty fields");
        for (Field f : inside.getDeclaredFields()) {
            check(!Modifier.isStatic(f.getModifiers()) || Modifier.isFinal(f.getModifiers()), f + " is final");
        }
        for (Method m : inside.getDeclaredMethods()) {
            check(!isPromised(m.getName()), inside + " has a method named as a promise: " + m.getName());
            check(m.getParameterCount() <= MOST_PARAMETERS, m + " has at most seven parameters");
        }
    }

    private static long ownFields(Class<?> c) {
        return Arrays.stream(c.getDeclaredFields()).filter(f -> !Modifier.isStatic(f.getModifiers())).count();
    }

    private static boolean isPromised(String name) {
        return FACE.stream().anyMatch(f -> f.startsWith(name + " "));
    }

    private static void methods(Class<?> face) {
        Set<String> seen = new TreeSet<>();
        for (Method m : face.getDeclaredMethods()) {
            check(m.getParameterCount() <= MOST_PARAMETERS, m + " has at most seven parameters");
            if (Modifier.isPrivate(m.getModifiers())) {
                check(!isPromised(m.getName()), "a private method is named as a promise: " + m.getName());
                continue;
            }
            seen.add(m.getName() + " " + m.getParameterCount());
            check(Modifier.isPublic(m.getModifiers()) && !Modifier.isStatic(m.getModifiers()), m + " is public");
            check(m.getReturnType() == int.class, m + " answers an int");
            for (Class<?> p : m.getParameterTypes()) {
                check(p == int.class, m + " takes ints");
            }
        }
        check(seen.equals(new TreeSet<>(FACE)), "methods are " + seen);
    }

    private static void constants(Class<?> face) throws IllegalAccessException {
        Set<String> seen = new TreeSet<>();
        for (Field f : face.getDeclaredFields()) {
            if (Modifier.isStatic(f.getModifiers())) {
                check(Modifier.isFinal(f.getModifiers()), f + " is final");
            }
            if (!Modifier.isPrivate(f.getModifiers())) {
                seen.add(f.getName());
                check(Modifier.isPublic(f.getModifiers()) && f.getType() == int.class, f + " is public");
            }
        }
        check(seen.equals(new TreeSet<>(CONSTANTS)), "constants are " + seen);
        check(SpareShelves.NONE == -1 && SpareShelves.BAD == -2 && SpareShelves.STATE == -3
            && SpareShelves.FULL == -4, "the constants' numbers");
    }

    private static void source() throws java.io.IOException {
        String text = Files.readString(Path.of("src/main/java/SpareShelves.java"))
            .replaceAll("(?s)/\\*.*?\\*/", "").replaceAll("//[^\n]*", "");
        Matcher imported = IMPORT.matcher(text);
        while (imported.find()) {
            check(IMPORTS.contains(imported.group(1)), "the source imports " + imported.group(1));
        }
        Matcher found = RULED_OUT.matcher(text);
        while (found.find()) {
            check(false, "the source has " + found.group());
        }
    }
}
