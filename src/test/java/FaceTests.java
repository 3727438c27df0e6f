import com.sun.source.tree.ClassTree;
import com.sun.source.tree.CompilationUnitTree;
import com.sun.source.tree.MethodTree;
import com.sun.source.tree.Tree;
import com.sun.source.tree.VariableTree;
import com.sun.source.util.JavacTask;
import java.io.File;
import java.lang.reflect.Constructor;
import java.lang.reflect.Field;
import java.lang.reflect.Method;
import java.lang.reflect.Modifier;
import java.util.ArrayList;
import java.util.List;
import javax.tools.JavaCompiler;
import javax.tools.StandardJavaFileManager;
import javax.tools.ToolProvider;

/** The public face: it is the document's, member by member, and there is no other one. */
final class FaceTests {
    private static final int HIDDEN = Modifier.PUBLIC | Modifier.PROTECTED;

    private FaceTests() {
    }

    static void run() throws Exception {
        membersOfTheClass();
        classesInside();
        signatures();
    }

    private static void membersOfTheClass() {
        Check.same("the class", Modifier.PUBLIC | Modifier.FINAL, Agenttree.class.getModifiers());
        Check.same("without a package", "", Agenttree.class.getPackageName());
        Check.same("it is of no other class", Object.class, Agenttree.class.getSuperclass());
        Check.same("nor of interfaces", 0, Agenttree.class.getInterfaces().length);
        int methods = 0;
        for (Method method : Agenttree.class.getDeclaredMethods()) {
            boolean isPrivate = Modifier.isPrivate(method.getModifiers()) || method.isSynthetic();
            Check.is("public and nothing else, or private: " + method, isPrivate || method.getModifiers() == Modifier.PUBLIC);
            methods += isPrivate ? 0 : 1;
        }
        Check.same("methods", 58, methods);
        for (Field field : Agenttree.class.getDeclaredFields()) {
            Check.is("private: " + field, Modifier.isPrivate(field.getModifiers()));
        }
        Constructor<?>[] constructors = Agenttree.class.getDeclaredConstructors();
        Check.same("constructors", 1, constructors.length);
        Check.same("of no arguments", 0, constructors[0].getParameterCount());
        Check.same("public", Modifier.PUBLIC, constructors[0].getModifiers());
    }

    private static void classesInside() {
        for (Class<?> inside : Agenttree.class.getDeclaredClasses()) {
            Check.is("static: " + inside, Modifier.isStatic(inside.getModifiers()));
            Check.is("private or package-visible: " + inside, (inside.getModifiers() & HIDDEN) == 0);
            List<java.lang.reflect.Member> members = new ArrayList<>();
            members.addAll(List.of(inside.getDeclaredMethods()));
            members.addAll(List.of(inside.getDeclaredFields()));
            members.addAll(List.of(inside.getDeclaredConstructors()));
            for (java.lang.reflect.Member member : members) {
                Check.is("not public: " + member, (member.getModifiers() & HIDDEN) == 0);
            }
        }
    }

    /** The signatures, as the source writes them, are those of the document's face and of its promises, in their order. */
    private static void signatures() throws Exception {
        List<String> signatures = new ArrayList<>();
        List<String> names = new ArrayList<>();
        List<String> parameters = new ArrayList<>();
        for (MethodTree method : publicMethods()) {
            String name = method.getReturnType() == null ? "Agenttree" : method.getName().toString();
            List<String> declared = new ArrayList<>();
            List<String> called = new ArrayList<>();
            for (VariableTree parameter : method.getParameters()) {
                declared.add(parameter.getType() + " " + parameter.getName());
                called.add(parameter.getName().toString());
            }
            List<String> thrown = new ArrayList<>();
            method.getThrows().forEach(one -> thrown.add(one.toString()));
            signatures.add((method.getReturnType() == null ? "" : method.getReturnType() + " ") + name + "(" + String.join(", ", declared) + ")"
                    + (thrown.isEmpty() ? "" : " throws " + String.join(", ", thrown)));
            names.add(name);
            parameters.add(String.join(" ", called));
        }
        if (Doc.isThere()) {
            StringBuilder face = new StringBuilder("public final class Agenttree {\n");
            signatures.forEach(one -> face.append("    public ").append(one).append(";\n"));
            Check.same("the public face", Doc.face(), face.append("}").toString());
            for (int i = 0; i < signatures.size(); i++) {
                Doc.promise(i + 1, "`" + signatures.get(i) + "`");
                Check.same("the title of the promise " + (i + 1), i == 0 ? "A new object" : names.get(i), Doc.title(i + 1));
                Check.same("the parameters of " + names.get(i), parameters.get(i), Doc.parameters(i + 1));
            }
            groups();
        }
    }

    /** The words that stand ahead of a group of promises. */
    private static void groups() {
        int[] first = {2, 11, 19, 26, 28, 37, 48, 56};
        String[] names = {"the agent", "what is in hand", "users, views", "targets", "managers", "the line", "the bench", "the whole"};
        for (int i = 0; i < first.length; i++) {
            Doc.promise(first[i], "---- " + names[i]);
        }
    }

    private static List<MethodTree> publicMethods() throws Exception {
        JavaCompiler javac = ToolProvider.getSystemJavaCompiler();
        StandardJavaFileManager files = javac.getStandardFileManager(null, null, null);
        JavacTask task = (JavacTask) javac.getTask(null, files, null, List.of("-proc:none"), null,
                files.getJavaFileObjects(new File("src/main/java/Agenttree.java")));
        CompilationUnitTree unit = task.parse().iterator().next();
        Check.same("one class in the file", 1, unit.getTypeDecls().size());
        List<MethodTree> methods = new ArrayList<>();
        for (Tree member : ((ClassTree) unit.getTypeDecls().get(0)).getMembers()) {
            if (member instanceof MethodTree
                    && ((MethodTree) member).getModifiers().getFlags().contains(javax.lang.model.element.Modifier.PUBLIC)) {
                methods.add((MethodTree) member);
            }
        }
        return methods;
    }
}
