/-! a start that meets every premise, in which PLAIN_POST is an array of int of a class of its own -/
def fs_method : Method := Lib.HandJ.method "clone" "()Ljava/lang/Object;" [] (some (.object "java/lang/Object")) 0x1 1 ⟨#[0x2a, 0xbf]⟩
def fs_class : Class := { start1.cArr "[I" 21 .int with methods := #[fs_method] }
def fs_about : State := { start1.about with
  vm := { start1.about.vm with classes := start1.about.vm.classes.push fs_class }
  heap := start1.about.heap.modify 5 (fun c => { c with cls := 29 }) }
theorem fs_new : start1.about.vm.classes.size = 29 := by decide +kernel
