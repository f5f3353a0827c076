#!/bin/sh
# Compiles the class alone, then runs every test of the project and every test under ../shared/tests.
set -u
cd "$(dirname "$0")/../.." || exit 1
shared=../shared
out=$(mktemp -d) || exit 1
trap 'rm -rf "$out"' EXIT
passed=0
failed=0

note() {
  if [ "$1" -eq 0 ]; then
    passed=$((passed + 1))
    echo "ok: $2"
  else
    failed=$((failed + 1))
    echo "FAILED: $2"
  fi
}

mkdir -p "$out/alone" "$out/own"
javac -Xlint:all -Werror -d "$out/alone" src/main/java/Forkhouse.java
code=$?
note $code "src/main/java/Forkhouse.java compiles alone"
[ $code -eq 0 ] || { echo "$passed passed, $failed failed"; exit 1; }

if javac -d "$out/own" src/main/java/Forkhouse.java src/test/java/*.java; then
  for file in src/test/java/*Test.java; do
    name=$(basename "$file" .java)
    java -cp "$out/own" "$name"
    note $? "$file"
  done
else
  note 1 "the project's tests compile"
fi

found=0
for file in "$shared"/tests/*.java; do
  [ -f "$file" ] || continue
  found=$((found + 1))
  name=$(basename "$file" .java)
  mkdir -p "$out/shared/$name"
  javac -d "$out/shared/$name" src/main/java/Forkhouse.java "$file" \
    && java -cp "$out/shared/$name" "$name"
  note $? "$file"
done
[ $found -gt 0 ] || note 1 "there are tests under $shared/tests"

echo "$passed passed, $failed failed"
[ $failed -eq 0 ]
