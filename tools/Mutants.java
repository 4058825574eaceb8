import java.io.PrintWriter;
import java.io.StringWriter;
import java.net.URI;
import java.nio.file.Files;
import java.nio.file.Path;
import java.util.ArrayList;
import java.util.Comparator;
import java.util.List;
import java.util.concurrent.ExecutorService;
import java.util.concurrent.Executors;
import java.util.concurrent.TimeUnit;
import javax.tools.JavaCompiler;
import javax.tools.SimpleJavaFileObject;
import javax.tools.ToolProvider;

/** Makes one change after the other to the program and tells which no test finds: source, changes, classes of the tests, out. */
public class Mutants {
    static class Text extends SimpleJavaFileObject {
        final String text;

        Text(String text) {
            super(URI.create("string:///SchemeHouse.java"), Kind.SOURCE);
            this.text = text;
        }

        public CharSequence getCharContent(boolean ignored) {
            return text;
        }
    }

    public static void main(String[] args) throws Exception {
        if (args[0].equals("all")) {
            all(args);
            return;
        }
        List<String> lines = Files.readAllLines(Path.of(args[0]));
        List<String> changes = Files.readAllLines(Path.of(args[1]));
        ExecutorService pool = Executors.newFixedThreadPool(Runtime.getRuntime().availableProcessors());
        PrintWriter out = new PrintWriter(args[3]);
        for (String change : changes) pool.submit(() -> {
            String told = tried(lines, change.split("\t"), args[2]);
            synchronized (out) {
                if (told != null) out.println(told);
                out.flush();
            }
            return null;
        });
        pool.shutdown();
        pool.awaitTermination(10, TimeUnit.HOURS);
        out.close();
    }

    /** The changed line, if all tests pass. */
    static String tried(List<String> lines, String[] change, String tests) throws Exception {
        int n = Integer.parseInt(change[0]);
        String line = lines.get(n);
        String changed = line.substring(0, Integer.parseInt(change[1])) + change[3] + line.substring(Integer.parseInt(change[2]));
        List<String> all = new ArrayList<>(lines);
        all.set(n, changed);
        Path classes = Files.createTempDirectory("mutant");
        try {
            JavaCompiler compiler = ToolProvider.getSystemJavaCompiler();
            boolean compiles = compiler.getTask(new StringWriter(), null, d -> { }, List.of("-d", classes.toString()), null,
                List.of(new Text(String.join("\n", all)))).call();
            if (!compiles) return null;
            Process run = new ProcessBuilder("java", "-XX:TieredStopAtLevel=1", "-XX:+UseSerialGC", "-cp", classes + ":" + tests,
                "Mutants", "all", tests).redirectErrorStream(true).redirectOutput(ProcessBuilder.Redirect.DISCARD).start();
            if (!run.waitFor(60, TimeUnit.SECONDS)) {
                run.destroyForcibly();
                return null;
            }
            return run.exitValue() == 0 ? (n + 1) + ": " + line.trim() + "   ->   " + changed.trim() : null;
        } finally {
            try (var files = Files.walk(classes)) {
                files.sorted(Comparator.reverseOrder()).forEach(f -> f.toFile().delete());
            }
        }
    }

    /** Each test there, in one machine. */
    static void all(String[] args) throws Exception {
        String[] files = Path.of(args[1]).toFile().list();
        java.util.Arrays.sort(files);
        for (String file : files) {
            if (!file.endsWith("Test.class")) continue;
            var main = Class.forName(file.substring(0, file.length() - 6)).getDeclaredMethod("main", String[].class);
            main.setAccessible(true);
            main.invoke(null, (Object) new String[0]);
        }
    }
}
