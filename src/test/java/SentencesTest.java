import java.io.IOException;
import java.lang.reflect.InvocationTargetException;
import java.lang.reflect.Method;
import java.nio.file.Files;
import java.nio.file.Path;
import java.util.ArrayList;
import java.util.Comparator;
import java.util.List;

/**
 * Runs the tests that are each for some words of the document, and compares those words with the
 * document: none is quoted that does not stand there, and none of the promises is left out.
 */
final class SentencesTest {
  private static final Path DOCUMENT = Path.of("..", "shared", "DOC.md");
  private static final Class<?>[] SECTIONS = {
    WhatItIs.class,
    TermsHeap.class,
    TermsAllocate.class,
    TermsFree.class,
    TermsTouch.class,
    TermsProgram.class,
    TermsRewritten.class,
    TermsRun.class,
    TermsReport.class,
    TermsCrash.class,
    TermsExceptions.class,
    Promise01NewObject.class,
    Promise02Code.class,
    Promise03Clear.class,
    Promise04Rewrite.class,
    Promise05Rewritten.class,
    Promise06Start.class,
    Promise07Step.class,
    Promise08Look.class,
    Promise09Register.class,
    Promise10Printed.class,
    Promise11Heap.class,
    Promise12Shadow.class,
    Promise13Report.class,
  };

  private SentencesTest() {}

  public static void main(String[] args) throws IOException, IllegalAccessException {
    int tests = 0;
    for (Class<?> section : SECTIONS) {
      for (Method test : testsOf(section)) {
        run(test);
        tests++;
      }
    }
    compareWithTheDocument();
    System.out.println("  " + tests + " tests");
    Check.end();
  }

  private static List<Method> testsOf(Class<?> section) {
    List<Method> tests = new ArrayList<>();
    for (Method method : section.getDeclaredMethods()) {
      if (method.isAnnotationPresent(Says.class)) {
        tests.add(method);
      }
    }
    tests.sort(Comparator.comparing(Method::getName));
    return tests;
  }

  private static void run(Method test) throws IllegalAccessException {
    String name = test.getDeclaringClass().getSimpleName() + "." + test.getName();
    Check.begin(name + " (\"" + test.getAnnotation(Says.class).value() + "\")");
    try {
      test.invoke(null);
    } catch (InvocationTargetException e) {
      Check.note("threw " + e.getCause());
    }
  }

  private static void compareWithTheDocument() throws IOException {
    if (!Files.exists(DOCUMENT)) {
      System.out.println("  " + DOCUMENT + " is not there: the words of the tests were not compared with it");
      return;
    }
    Document document = new Document(DOCUMENT);
    for (Class<?> section : SECTIONS) {
      String heading = section.getAnnotation(Says.class).value();
      for (Method test : testsOf(section)) {
        Check.begin(section.getSimpleName() + "." + test.getName());
        document.quote(heading, test.getAnnotation(Says.class).value());
      }
    }
    Check.begin("DOC.md");
    document.noteWhatNoTestIsFor();
  }
}
