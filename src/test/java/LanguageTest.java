import com.sun.source.tree.ClassTree;
import com.sun.source.tree.ImportTree;
import com.sun.source.tree.MethodTree;
import com.sun.source.tree.Tree;
import com.sun.source.tree.VariableTree;
import java.io.IOException;
import java.nio.file.Files;
import java.nio.file.Path;
import java.util.ArrayList;
import java.util.HashMap;
import java.util.List;
import java.util.Map;
import java.util.Set;
import java.util.TreeSet;
import javax.lang.model.element.Modifier;

/** The rules of ../shared/LANGUAGE.md, each quoted, held against the source as the compiler reads it; and the document's face. */
public final class LanguageTest {
    private static final Path SOURCE = Path.of("src/main/java/OneReader.java");
    private static final Path DOCUMENT = Path.of("../shared/DOC.md");
    private static final String THE_CLASS = "OneReader";
    private static final Set<String> NUMBERS = Set.of("int", "long", "short", "byte", "char", "boolean", "double", "float");
    private static final Set<String> CONSTANTS = Set.of("int", "long", "boolean", "char", "String");
    private static final Set<String> IMPORTS = Set.of("java.util.Arrays", "java.util.ArrayList", "java.util.List", "java.util.Iterator");
    private static final Set<String> LIBRARY = Set.of(
            "String.length", "String.charAt", "String.isEmpty", "String.equals", "String.indexOf", "String.substring", "String.toCharArray",
            "StringBuilder.append", "StringBuilder.charAt", "StringBuilder.setCharAt", "StringBuilder.setLength",
            "StringBuilder.deleteCharAt", "StringBuilder.reverse", "StringBuilder.length", "StringBuilder.toString",
            "Integer.compare", "Integer.bitCount", "Math.max", "Math.min", "Math.abs", "Math.floorDiv", "Math.floorMod",
            "System.arraycopy", "Arrays.copyOf", "Arrays.copyOfRange", "Arrays.fill");

    private static SourceTree source;

    public static void main(String[] args) throws IOException {
        source = new SourceTree(args.length > 0 ? Path.of(args[0]) : SOURCE);
        face();
        members();
        inside();
        types();
        library();
        staticFields();
        exceptions();
        lookedAt();
        recursion();
        loops();
        texts();
        sizes();
        depth();
        made();
        Sentence.finish("LanguageTest");
    }

    private static void none(String what, List<?> found) {
        Sentence.due(what, new ArrayList<>(found).toString(), "[]");
    }

    private static void holds(String what, boolean so) {
        Sentence.due(what, String.valueOf(so), "true");
    }

    private static void noKinds(Tree.Kind... kinds) {
        for (Tree.Kind kind : kinds) {
            none(kind.toString(), source.kinds.getOrDefault(kind, List.of()));
        }
    }

    private static boolean has(Set<Modifier> flags, Modifier flag) {
        return flags.contains(flag);
    }

    // ---- 1, 2: the face and what is inside

    /** 'int end(int n)' of each public member, as the document writes it. */
    private static Set<String> shown() {
        Set<String> shown = new TreeSet<>();
        for (Tree member : source.classes.get(THE_CLASS).getMembers()) {
            if (member instanceof MethodTree m && has(m.getModifiers().getFlags(), Modifier.PUBLIC)) {
                List<String> parameters = new ArrayList<>();
                m.getParameters().forEach(p -> parameters.add(p.getType() + " " + p.getName()));
                boolean isMethod = m.getReturnType() != null;
                shown.add((isMethod ? m.getReturnType() + " " + m.getName() : THE_CLASS) + "(" + String.join(", ", parameters) + ")");
            }
            if (member instanceof VariableTree v && has(v.getModifiers().getFlags(), Modifier.PUBLIC)) {
                shown.add("static final " + v.getType() + " " + v.getName() + " = " + v.getInitializer());
            }
        }
        return shown;
    }

    private static Set<String> documentsFace() throws IOException {
        Set<String> face = new TreeSet<>();
        for (String line : Files.readAllLines(DOCUMENT)) {
            if (line.startsWith("    public ")) {
                face.add(line.trim().replace("public ", "").replace(";", ""));
            }
        }
        return face;
    }

    private static void face() throws IOException {
        Sentence.says("public final class OneReader {");
        ClassTree all = source.classes.get(THE_CLASS);
        Sentence.due("modifiers", all.getModifiers().getFlags().toString(), "[public, final]");
        Sentence.due("classes of the file", source.unit.getTypeDecls().size(), 1);
        Sentence.due("a package", String.valueOf(source.unit.getPackageName()), "null");
        if (Files.exists(DOCUMENT)) {
            Sentence.says("with the public constructor, methods and constants of the document");
            Sentence.due("the face", shown().toString(), documentsFace().toString());
        }
    }

    private static Set<Modifier> flagsOf(Tree member) {
        if (member instanceof MethodTree m) {
            return m.getModifiers().getFlags();
        }
        if (member instanceof VariableTree v) {
            return v.getModifiers().getFlags();
        }
        return member instanceof ClassTree c ? c.getModifiers().getFlags() : Set.of();
    }

    private static void members() {
        Sentence.says("no other public, protected or package-visible member, but for the classes inside it, which are private or package-visible and static");
        Set<String> publicNames = new TreeSet<>();
        for (Tree member : source.classes.get(THE_CLASS).getMembers()) {
            Set<Modifier> flags = flagsOf(member);
            boolean isPublic = has(flags, Modifier.PUBLIC);
            boolean isPrivate = has(flags, Modifier.PRIVATE);
            if (member instanceof ClassTree c) {
                holds("static and not public: " + c.getSimpleName(), has(flags, Modifier.STATIC) && !isPublic);
            } else {
                holds("public or private at line " + source.line(member), isPublic || isPrivate);
            }
            if (member instanceof MethodTree m && isPublic) {
                publicNames.add(m.getName().toString());
            }
        }
        Sentence.says("No private method bears the name of a public one.");
        source.methods.forEach((name, tree) -> {
            boolean isPublic = has(tree.getModifiers().getFlags(), Modifier.PUBLIC);
            boolean bears = publicNames.contains(tree.getName().toString());
            holds(name + " has a name of its own", isPublic || !bears || name.endsWith(SourceTree.CONSTRUCTOR));
        });
    }

    private static void inside() {
        Sentence.says("No inner class that isn't static, no local or anonymous class, no lambda, no method reference.");
        noKinds(Tree.Kind.LAMBDA_EXPRESSION, Tree.Kind.MEMBER_REFERENCE);
        int members = 1;
        for (ClassTree c : source.classes.values()) {
            for (Tree member : c.getMembers()) {
                members += member instanceof ClassTree ? 1 : 0;
            }
        }
        // a local or an anonymous class is a class, but no member
        Sentence.due("classes that are no members", source.kinds.get(Tree.Kind.CLASS).size() - members, 0);
    }

    // ---- 3 to 5: types, the library, static fields

    private static boolean isAllowed(String type) {
        boolean isRow = type.endsWith("[]");
        String of = (isRow ? type.substring(0, type.length() - 2) : type).replaceAll(".*\\.", "");
        return NUMBERS.contains(of) || source.classes.containsKey(of) || of.equals("void") || of.equals("String") && !isRow;
    }

    private static void types() {
        Sentence.says("arrays of these and of your own classes, of one dimension");
        for (SourceTree.Found type : source.types) {
            holds("a type that may be, " + type, isAllowed(type.text()));
        }
        Sentence.says("constants, whose signs are 1 to 127");
        for (String line : source.text.split("\n")) {
            holds("plain: " + line, line.chars().allMatch(sign -> sign >= ' ' && sign < 127));
        }
    }

    private static void library() {
        Sentence.says("4. The library: only what stands here.");
        for (ImportTree i : source.unit.getImports()) {
            String name = i.getQualifiedIdentifier().toString();
            holds("import of " + name, IMPORTS.contains(name));
        }
        for (SourceTree.Found call : source.calls) {
            boolean own = source.classes.containsKey(call.text().replaceAll("\\..*", ""));
            holds("a call that may be, " + call, own || LIBRARY.contains(call.text()));
        }
    }

    private static void staticFields() {
        Sentence.says("5. Static fields are final: constants of int, long, boolean, char or String");
        source.fields.forEach((owner, fields) -> {
            for (VariableTree field : fields) {
                Set<Modifier> flags = field.getModifiers().getFlags();
                boolean constant = has(flags, Modifier.FINAL) && CONSTANTS.contains(field.getType().toString()) && field.getInitializer() != null;
                holds("a constant, if static: " + owner + "." + field.getName(), constant || !has(flags, Modifier.STATIC));
            }
        });
        Sentence.says("No other static state, no static initialiser block.");
        for (ClassTree c : source.classes.values()) {
            Sentence.due("blocks of " + c.getSimpleName(), c.getMembers().stream().filter(m -> m.getKind() == Tree.Kind.BLOCK).count(), 0);
        }
    }

    // ---- 6 to 9: what is never thrown, never goes on

    private static void exceptions() {
        Sentence.says("6. No throw, try, catch, synchronized, assert, switch with patterns, record patterns.");
        noKinds(Tree.Kind.THROW, Tree.Kind.TRY, Tree.Kind.CATCH, Tree.Kind.SYNCHRONIZED, Tree.Kind.ASSERT, Tree.Kind.BINDING_PATTERN);
        source.methods.forEach((name, tree) -> none("throws of " + name, tree.getThrows()));
        Sentence.says("a cast only behind the test that makes it safe");
        noKinds(Tree.Kind.TYPE_CAST);
    }

    private static boolean compares(String method, String name, String signs) {
        return String.valueOf(source.methods.get(method)).matches("(?s).*(?<![\\w.])" + name + " (" + signs + ") .*");
    }

    private static void lookedAt() {
        Sentence.says("an index is looked at before it is used, a divisor before it divides, a reference against null before it is used");
        for (SourceTree.Found divisor : source.divisors) {
            boolean written = divisor.text().matches("[1-9][0-9]*|MOST_CHAPTERS");
            holds("looked at, " + divisor, written || compares(divisor.method(), divisor.text(), "<|!=|==|<="));
        }
        for (SourceTree.Found variable : source.kinds.get(Tree.Kind.VARIABLE)) {
            if (variable.text().matches("(?s).* = told\\.(library|year|log)At\\(.*")) {
                String name = variable.text().replaceAll("(?s) = .*", "").replaceAll(".* ", "");
                holds("looked at, " + variable, compares(variable.method(), name, "==|!="));
            }
        }
    }

    /** How many of the class's own methods stand open at once, at most, from this one on; a cycle has no end. */
    private static int deepest(String method, Set<String> open, Map<String, Integer> known) {
        if (!source.methods.containsKey(method) && !source.callsOf.containsKey(method)) {
            return method.endsWith(SourceTree.CONSTRUCTOR) ? 1 : 0;
        }
        if (known.containsKey(method)) {
            return known.get(method);
        }
        if (!open.add(method)) {
            return Integer.MAX_VALUE / 2;
        }
        int most = 0;
        for (String call : source.callsOf.getOrDefault(method, Set.of())) {
            most = Math.max(most, deepest(call, open, known));
        }
        open.remove(method);
        known.put(method, most + 1);
        return most + 1;
    }

    private static int deepest(String method) {
        return deepest(method, new TreeSet<>(), new HashMap<>());
    }

    private static void recursion() {
        Sentence.says("the calls that stand open at once (a level may go through several methods) stay under 300 for every run of calls.");
        for (String method : source.methods.keySet()) {
            holds(method + " never calls itself", deepest(method) < 300);
        }
    }

    private static void loops() {
        Sentence.says("9. Every loop has an end that can be seen from its own lines (a counter against a bound");
        noKinds(Tree.Kind.DO_WHILE_LOOP);
        for (SourceTree.Found loop : source.loops) {
            holds("a counter against a bound, " + loop, loop.text().matches(".* (<|<=|>|>=) .*"));
        }
    }

    private static void texts() {
        Sentence.says("joining texts by StringBuilder (not by +)");
        none("joined texts", source.joinedTexts);
    }

    // ---- 11, 12: how much

    private static void sizes() {
        Sentence.says("11. A method takes at most seven parameters. Methods stay short (some sixty lines)");
        source.methods.forEach((name, tree) -> {
            holds(name + " takes at most seven", tree.getParameters().size() <= 7);
            holds(name + " has at most sixty lines", source.lines(tree) <= 60);
        });
        Sentence.says("the file has at most some twelve classes, and a class some twenty fields beside its constants.");
        holds("at most twelve classes", source.classes.size() <= 12);
        source.fields.forEach((owner, fields) -> {
            long own = fields.stream().filter(f -> !has(f.getModifiers().getFlags(), Modifier.STATIC)).count();
            holds(owner + " has at most twenty fields", own <= 20);
        });
    }

    private static void depth() {
        Sentence.says("calls that are no recursion go at most eight deep");
        for (String method : source.methods.keySet()) {
            holds(method + " goes at most eight deep", deepest(method) <= 8);
        }
    }

    private static void made() {
        Sentence.says("What a run makes is counted");
        // all rows are made with the object itself
        for (SourceTree.Found one : source.made) {
            holds("made by a constructor, " + one, one.method().endsWith("." + SourceTree.CONSTRUCTOR));
        }
        Sentence.says("A constructor calls no method that another class could override");
        for (ClassTree c : source.classes.values()) {
            holds("final: " + c.getSimpleName(), has(c.getModifiers().getFlags(), Modifier.FINAL));
        }
    }
}
