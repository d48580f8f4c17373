import com.sun.source.tree.AssertTree;
import com.sun.source.tree.ClassTree;
import com.sun.source.tree.CompilationUnitTree;
import com.sun.source.tree.ExpressionTree;
import com.sun.source.tree.ForLoopTree;
import com.sun.source.tree.ImportTree;
import com.sun.source.tree.LambdaExpressionTree;
import com.sun.source.tree.LineMap;
import com.sun.source.tree.LiteralTree;
import com.sun.source.tree.MemberReferenceTree;
import com.sun.source.tree.MethodInvocationTree;
import com.sun.source.tree.MethodTree;
import com.sun.source.tree.NewArrayTree;
import com.sun.source.tree.NewClassTree;
import com.sun.source.tree.PackageTree;
import com.sun.source.tree.SynchronizedTree;
import com.sun.source.tree.ThrowTree;
import com.sun.source.tree.Tree;
import com.sun.source.tree.TryTree;
import com.sun.source.tree.VariableTree;
import com.sun.source.tree.WhileLoopTree;
import com.sun.source.util.JavacTask;
import com.sun.source.util.TreePathScanner;
import com.sun.source.util.Trees;
import java.io.File;
import java.io.IOException;
import java.util.ArrayList;
import java.util.List;
import java.util.Map;
import java.util.Random;
import java.util.Set;
import java.util.TreeMap;
import java.util.TreeSet;
import javax.lang.model.element.Element;
import javax.lang.model.element.ElementKind;
import javax.lang.model.element.Modifier;
import javax.lang.model.type.ArrayType;
import javax.lang.model.type.TypeMirror;
import javax.tools.JavaCompiler;
import javax.tools.StandardJavaFileManager;
import javax.tools.ToolProvider;

/** What a program can see of the rules of LANGUAGE.md in RouteHouse.java; FaceTest sees rule 1. */
public final class LanguageTest {
    private static final Set<String> EXCEPTIONS = Set.of("IllegalStateException", "IllegalArgumentException",
            "IndexOutOfBoundsException", "ArithmeticException", "UnsupportedOperationException",
            "NoSuchElementException", "RuntimeException");
    private static final Set<String> LIBRARY = Set.of("System.arraycopy", "Math.min", "Math.max");
    private static final Set<String> CONSTANTS = Set.of("int", "long", "boolean", "char", "java.lang.String");
    private static final Source SOURCE = read();

    public static void main(String[] args) {
        Due.cases(LanguageTest.class);
    }

    static void rule1NoPackageLineAndOnePublicClass() {
        SOURCE.allows("package or import", SOURCE.beside);
        Due.is("classes beside RouteHouse", SOURCE.unit.getTypeDecls().size(), 1);
    }

    static void rule2NoLambdaAndNoMethodReference() {
        SOURCE.allows("lambda or method reference", SOURCE.functions);
    }

    static void rule2ClassesInsideAreStaticAndNotOpen() {
        SOURCE.allows("class inside", SOURCE.strangeClasses);
    }

    static void rule3VariablesAreNumbersRowsAndOwnClasses() {
        SOURCE.allows("type of a variable", SOURCE.strangeTypes);
    }

    static void rule4NothingElseOfTheLibraryIsCalled() {
        SOURCE.allows("call of the library", SOURCE.strangeCalls);
    }

    static void rule5StaticFieldsAreConstants() {
        SOURCE.allows("static field", SOURCE.strangeStatics);
    }

    static void rule6ThrowsAreWrittenOut() {
        Due.is("throws are there", SOURCE.throwCount > 0, true);
        SOURCE.allows("throw", SOURCE.strangeThrows);
    }

    static void rule6NoFinallySynchronizedOrAssert() {
        SOURCE.allows("statement", SOURCE.strangeStatements);
    }

    static void rule8NothingCallsItself() {
        for (String method : SOURCE.calls.keySet()) {
            Due.is(method + " calls itself", SOURCE.reached(method).contains(method), false);
        }
    }

    static void rule9LoopsHaveAnEnd() {
        SOURCE.allows("loop", SOURCE.endlessLoops);
    }

    static void rule11SevenParametersAtMost() {
        SOURCE.atMost("parameters", SOURCE.parameters, 7);
    }

    static void rule11SixtyLinesAMethodAtMost() {
        SOURCE.atMost("lines", SOURCE.lines, 60);
    }

    static void rule11TwelveClassesAtMost() {
        Due.is("classes " + SOURCE.fields.keySet(), SOURCE.fields.size() <= 12, true);
    }

    static void rule11TwentyFieldsAClassAtMost() {
        SOURCE.atMost("fields", SOURCE.fields, 20);
    }

    static void rule11CallsGoEightDeepAtMost() {
        for (String method : SOURCE.calls.keySet()) {
            int depth = SOURCE.depth(method, 0);
            Due.is("calls that stand open from " + method + ": " + depth, depth <= 8, true);
        }
    }

    static void rule12ObjectsAreMadeInConstructorsAlone() {
        SOURCE.allows("made outside of a constructor", SOURCE.madeInCalls);
    }

    /** Beyond its 512th call an object's answers are free, but rule 7 holds in any state. */
    static void rule7NoCallThrowsByItself() {
        Random random = new Random(7);
        for (int run = 0; run < 20; run++) {
            RouteHouse house = new RouteHouse();
            for (int i = 0; i < 20_000; i++) {
                wildCall(house, random);
            }
        }
    }

    private static void wildCall(RouteHouse house, Random random) {
        int call = random.nextInt(15);
        String name = "call " + call;
        try {
            answer(house, call, random);
            Due.is(name, 0, 0);
        } catch (RuntimeException e) {
            // A throw of the language's own making (a row's bounds, a null) has a class or a text of its own.
            boolean isWritten = EXCEPTIONS.contains(e.getClass().getSimpleName())
                    && SOURCE.texts.contains(String.valueOf(e.getMessage()));
            Due.is(name + " threw by itself: " + e, isWritten, true);
        }
    }

    private static void answer(RouteHouse house, int call, Random random) {
        switch (call) {
            case 0 -> house.port(small(random, 8), address(random), 100 + small(random, 1401));
            case 1 -> house.up(small(random, 8), random.nextInt(4) > 0);
            case 2 -> house.route(address(random), small(random, 33), small(random, 8), address(random));
            case 3 -> house.unroute(address(random), small(random, 33));
            case 4 -> house.lookup(address(random), small(random, 3));
            case 5 -> house.end(Math.min(house.about(10), small(random, 2001)));
            case 6 -> house.sum(small(random, 16));
            case 7 -> house.copy(small(random, 3));
            case 8 -> house.receive(small(random, 8));
            case 9 -> house.pass(small(random, 101));
            case 10 -> house.sent(small(random, 50), small(random, 3));
            case 11 -> house.out(small(random, 50), small(random, 1500));
            case 12 -> house.data(small(random, 4001));
            case 13 -> house.about(small(random, 11));
            default -> wildPacket(house, random);
        }
    }

    /** A packet whose header is sound for the most part, so that wild calls come to the outcomes behind it. */
    private static void wildPacket(RouteHouse house, Random random) {
        house.end(0);
        int words = random.nextInt(8) == 0 ? random.nextInt(16) : 5 + random.nextInt(3) * random.nextInt(6);
        int feeds = 1 + random.nextInt(random.nextInt(4) == 0 ? 100 : 8);
        int length = random.nextInt(8) == 0 ? random.nextInt(65536) : feeds * 20 - random.nextInt(20);
        int offset = random.nextInt(3) == 0 ? random.nextInt(random.nextInt(9) == 0 ? 8192 : 501) : 0;
        int cut = random.nextInt(8) << 13 | offset;
        int protocol = random.nextInt(3) == 0 ? 17 : random.nextInt(3);
        house.feed(0x40000000 | words << 24 | length & 65535, random.nextInt(3) << 16 | cut,
                random.nextInt(256) << 24 | protocol << 16, address(random), address(random));
        for (int i = 1; i < feeds; i++) {
            house.feed(random.nextInt(), random.nextInt(), 8 << 24, 1 << 24, random.nextInt(0x04040404));
        }
        house.sum(Math.max(5, Math.min(words, feeds * 5)));
        house.receive(small(random, 8));
    }

    private static int small(Random random, int bound) {
        return switch (random.nextInt(24)) {
            case 0 -> random.nextInt();
            case 1 -> -1;
            case 2 -> bound;
            case 3 -> bound - 1;
            case 4 -> random.nextBoolean() ? Integer.MIN_VALUE : Integer.MAX_VALUE;
            default -> random.nextInt(bound);
        };
    }

    private static int address(Random random) {
        return random.nextInt(9) == 0 ? random.nextInt() : 0x0a000000 | random.nextInt(4) << random.nextInt(24);
    }

    private static Source read() {
        JavaCompiler compiler = ToolProvider.getSystemJavaCompiler();
        try (StandardJavaFileManager files = compiler.getStandardFileManager(null, null, null)) {
            JavacTask task = (JavacTask) compiler.getTask(null, files, null, List.of("-proc:none"), null,
                    files.getJavaFileObjects(new File("src/main/java/RouteHouse.java")));
            CompilationUnitTree unit = task.parse().iterator().next();
            task.analyze();
            Source source = new Source(unit, Trees.instance(task));
            source.scan(unit, null);
            return source;
        } catch (IOException e) {
            throw new IllegalStateException(e);
        }
    }

    /** Goes through the program once and writes down what the rules speak of. */
    private static final class Source extends TreePathScanner<Void, Void> {
        final CompilationUnitTree unit;
        final Trees trees;
        final List<String> beside = new ArrayList<>();
        final List<String> functions = new ArrayList<>();
        final List<String> strangeClasses = new ArrayList<>();
        final List<String> strangeTypes = new ArrayList<>();
        final List<String> strangeCalls = new ArrayList<>();
        final List<String> strangeStatics = new ArrayList<>();
        final List<String> strangeThrows = new ArrayList<>();
        final List<String> strangeStatements = new ArrayList<>();
        final List<String> endlessLoops = new ArrayList<>();
        final List<String> madeInCalls = new ArrayList<>();
        final Set<String> texts = new TreeSet<>();
        final Map<String, Integer> parameters = new TreeMap<>();
        final Map<String, Integer> lines = new TreeMap<>();
        final Map<String, Integer> fields = new TreeMap<>();
        final Map<String, Set<String>> calls = new TreeMap<>();
        int throwCount = 0;
        private String method = "";
        private boolean isConstructor = false;

        Source(CompilationUnitTree unit, Trees trees) {
            this.unit = unit;
            this.trees = trees;
        }

        void allows(String what, List<String> strange) {
            Due.is(what + " " + strange, strange.size(), 0);
        }

        void atMost(String what, Map<String, Integer> counts, int most) {
            for (Map.Entry<String, Integer> one : counts.entrySet()) {
                Due.is(what + " of " + one.getKey() + ": " + one.getValue(), one.getValue() <= most, true);
            }
        }

        Set<String> reached(String from) {
            Set<String> all = new TreeSet<>();
            List<String> open = new ArrayList<>(calls.get(from));
            while (!open.isEmpty()) {
                String next = open.remove(open.size() - 1);
                if (all.add(next)) {
                    open.addAll(calls.getOrDefault(next, Set.of()));
                }
            }
            return all;
        }

        /** How many calls stand open at once at most, this one counted. */
        int depth(String from, int above) {
            int most = 0;
            if (above < 40) {
                for (String next : calls.getOrDefault(from, Set.of())) {
                    most = Math.max(most, depth(next, above + 1));
                }
            }
            return 1 + most;
        }

        @Override
        public Void visitPackage(PackageTree tree, Void none) {
            beside.add(at(tree));
            return null;
        }

        @Override
        public Void visitImport(ImportTree tree, Void none) {
            beside.add(at(tree));
            return null;
        }

        @Override
        public Void visitLambdaExpression(LambdaExpressionTree tree, Void none) {
            functions.add(at(tree));
            return super.visitLambdaExpression(tree, none);
        }

        @Override
        public Void visitMemberReference(MemberReferenceTree tree, Void none) {
            functions.add(at(tree));
            return super.visitMemberReference(tree, none);
        }

        @Override
        public Void visitClass(ClassTree tree, Void none) {
            Set<Modifier> flags = tree.getModifiers().getFlags();
            boolean isInside = !tree.getSimpleName().contentEquals("RouteHouse");
            boolean isOpen = flags.contains(Modifier.PUBLIC) || flags.contains(Modifier.PROTECTED);
            if (isInside && (isOpen || !flags.contains(Modifier.STATIC))) {
                strangeClasses.add(at(tree));
            }
            int count = 0;
            for (Tree member : tree.getMembers()) {
                if (member.getKind() == Tree.Kind.BLOCK) {
                    strangeStatics.add(at(member));
                }
                if (member instanceof VariableTree field && !isStatic(field)) {
                    count++;
                }
            }
            fields.put(tree.getSimpleName().toString(), count);
            return super.visitClass(tree, none);
        }

        @Override
        public Void visitVariable(VariableTree tree, Void none) {
            Element element = trees.getElement(getCurrentPath());
            TypeMirror type = element.asType();
            if (isStatic(tree)) {
                boolean isFinal = tree.getModifiers().getFlags().contains(Modifier.FINAL);
                if (!isFinal || !CONSTANTS.contains(type.toString())) {
                    strangeStatics.add(at(tree));
                }
            }
            TypeMirror inner = type instanceof ArrayType row ? row.getComponentType() : type;
            if (!inner.getKind().isPrimitive() && !inner.toString().startsWith("RouteHouse.")) {
                strangeTypes.add(at(tree));
            }
            return super.visitVariable(tree, none);
        }

        @Override
        public Void visitMethod(MethodTree tree, Void none) {
            Element element = trees.getElement(getCurrentPath());
            method = name(element);
            isConstructor = element.getKind() == ElementKind.CONSTRUCTOR;
            calls.put(method, new TreeSet<>());
            parameters.put(method, tree.getParameters().size());
            LineMap map = unit.getLineMap();
            long first = map.getLineNumber(trees.getSourcePositions().getStartPosition(unit, tree));
            long last = map.getLineNumber(Math.max(0, trees.getSourcePositions().getEndPosition(unit, tree)));
            lines.put(method, (int) (last - first + 1));
            return super.visitMethod(tree, none);
        }

        @Override
        public Void visitMethodInvocation(MethodInvocationTree tree, Void none) {
            Element called = trees.getElement(getCurrentPath());
            boolean isOfObject = called.getKind() == ElementKind.CONSTRUCTOR && isLibrary(called);
            if (!isLibrary(called)) {
                calls.computeIfAbsent(method, key -> new TreeSet<>()).add(name(called));
            } else if (!isOfObject && !LIBRARY.contains(plainName(called))) {
                strangeCalls.add(at(tree));
            }
            return super.visitMethodInvocation(tree, none);
        }

        @Override
        public Void visitNewClass(NewClassTree tree, Void none) {
            Element called = trees.getElement(getCurrentPath());
            String made = called.getEnclosingElement().getSimpleName().toString();
            if (!isLibrary(called)) {
                calls.computeIfAbsent(method, key -> new TreeSet<>()).add(name(called));
            } else if (!EXCEPTIONS.contains(made)) {
                strangeCalls.add(at(tree));
            }
            if (!isConstructor && !EXCEPTIONS.contains(made)) {
                madeInCalls.add(at(tree));
            }
            return super.visitNewClass(tree, none);
        }

        @Override
        public Void visitNewArray(NewArrayTree tree, Void none) {
            if (!isConstructor) {
                madeInCalls.add(at(tree));
            }
            return super.visitNewArray(tree, none);
        }

        @Override
        public Void visitThrow(ThrowTree tree, Void none) {
            throwCount++;
            boolean isWritten = tree.getExpression() instanceof NewClassTree made
                    && EXCEPTIONS.contains(made.getIdentifier().toString()) && isOneTextAtMost(made.getArguments());
            if (!isWritten || isConstructor) {
                strangeThrows.add(at(tree));
            }
            return super.visitThrow(tree, none);
        }

        @Override
        public Void visitTry(TryTree tree, Void none) {
            if (tree.getFinallyBlock() != null || !tree.getResources().isEmpty()) {
                strangeStatements.add(at(tree));
            }
            return super.visitTry(tree, none);
        }

        @Override
        public Void visitSynchronized(SynchronizedTree tree, Void none) {
            strangeStatements.add(at(tree));
            return super.visitSynchronized(tree, none);
        }

        @Override
        public Void visitAssert(AssertTree tree, Void none) {
            strangeStatements.add(at(tree));
            return super.visitAssert(tree, none);
        }

        @Override
        public Void visitForLoop(ForLoopTree tree, Void none) {
            if (tree.getCondition() == null || tree.getCondition().getKind() == Tree.Kind.BOOLEAN_LITERAL) {
                endlessLoops.add(at(tree));
            }
            return super.visitForLoop(tree, none);
        }

        @Override
        public Void visitWhileLoop(WhileLoopTree tree, Void none) {
            if (tree.getCondition().toString().equals("(true)")) {
                endlessLoops.add(at(tree));
            }
            return super.visitWhileLoop(tree, none);
        }

        private boolean isOneTextAtMost(List<? extends ExpressionTree> arguments) {
            for (ExpressionTree one : arguments) {
                if (!(one instanceof LiteralTree text && text.getValue() instanceof String)) {
                    return false;
                }
                texts.add((String) ((LiteralTree) one).getValue());
            }
            return arguments.size() <= 1;
        }

        private static boolean isStatic(VariableTree tree) {
            return tree.getModifiers().getFlags().contains(Modifier.STATIC);
        }

        private static boolean isLibrary(Element called) {
            return !called.getEnclosingElement().toString().startsWith("RouteHouse");
        }

        private static String plainName(Element called) {
            return called.getEnclosingElement().getSimpleName() + "." + called.getSimpleName();
        }

        private static String name(Element called) {
            return called.getEnclosingElement() + "." + called;
        }

        private String at(Tree tree) {
            return "line " + unit.getLineMap().getLineNumber(trees.getSourcePositions().getStartPosition(unit, tree));
        }
    }
}
