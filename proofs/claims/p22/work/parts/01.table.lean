/-- one more array over int in the table, under another name than the usual one, with nothing above it, and with a clone of its own whose code is the one byte 'pop' -/
def rf_more : Class := { start1.cArr "[Q" 23 .int with super := none, methods := #[Lib.HandJ.method "clone" "()Ljava/lang/Object;" [] (some (.object "java/lang/Object")) 0x1 1 (.mk #[0x57])] }
/-- the witness's start at the empty script, with that one behind the others, and the cell of SweetLine$Belt.GEAR_AT_FIRST (cell 6) of it -/
def rf_bad : State := { start1.aboutOf #[] with vm := { (start1.aboutOf #[]).vm with classes := (start1.aboutOf #[]).vm.classes.push rf_more }, heap := (start1.aboutOf #[]).heap.modify 6 (fun c => { c with cls := 34 }) }
/-- words that ask one method or one row of the table by its name hold as at the witness's start (rf_word); the others are run -/
def rf_look : Cond → Bool
  | .code .. | .static .. | .instanceMethod .. | .privateMethod .. | .native .. | .initialized .. | .instantiable .. | .soleField .. => true
  | c => c.before start1.args0 rf_bad
theorem rf_get (i : Nat) (h : i < 34) : rf_bad.vm.classes[i]? = start1.about.vm.classes[i]? := by
  show ((start1.aboutOf #[]).vm.classes.push rf_more)[i]? = (start1.aboutOf #[]).vm.classes[i]?
  exact Array.getElem?_push_lt (show i < (start1.aboutOf #[]).vm.classes.size from h) |>.trans (Array.getElem?_eq_getElem _).symm
theorem rf_meth (m : MethodId) (h : m.cls < 34) : rf_bad.vm.method? m = start1.about.vm.method? m := by
  unfold Vm.method?
  rw [rf_get m.cls h]
theorem rf_find (n : String) (c : ClassId) (h : start1.about.vm.findClass n = some c) : rf_bad.vm.findClass n = some c ∧ c < 34 := by
  unfold Vm.findClass at h ⊢
  have hb : rf_bad.vm.classes = (start1.aboutOf #[]).vm.classes.push rf_more := rfl
  have ha : start1.about.vm.classes = (start1.aboutOf #[]).vm.classes := rfl
  rw [ha] at h
  rw [hb, Array.findIdx?_push, h]
  obtain ⟨hi, _⟩ := Array.findIdx?_eq_some_iff_getElem.mp h
  exact ⟨rfl, hi⟩
theorem rf_row (n : String) (hs : ((start1.about.vm.findClass n).bind (start1.about.vm.classes[·]?)).isSome = true) : (rf_bad.vm.findClass n).bind (rf_bad.vm.classes[·]?) = (start1.about.vm.findClass n).bind (start1.about.vm.classes[·]?) := by
  cases hc : start1.about.vm.findClass n with
  | none => rw [hc] at hs; exact absurd hs (by decide)
  | some c =>
    have h := rf_find n c hc
    rw [h.1]
    exact rf_get c h.2
theorem rf_named (y : MethodName) (m : MethodId) (h : start1.about.methodNamed? y = some m) : rf_bad.methodNamed? y = some m ∧ m.cls < 34 := by
  unfold State.methodNamed? at h ⊢
  cases hc : start1.about.vm.findClass y.cls with
  | none => rw [hc] at h; exact absurd h (by intro h; cases h)
  | some c =>
    have hf := rf_find _ _ hc
    rw [hc] at h
    rw [hf.1]
    simp only [Option.bind_eq_bind, Option.bind_some] at h ⊢
    rw [rf_get c hf.2]
    refine ⟨h, ?_⟩
    cases hk : start1.about.vm.classes[c]? with
    | none => rw [hk] at h; exact absurd h (by intro h; cases h)
    | some k =>
      rw [hk] at h
      simp only [Option.bind_some] at h
      cases hi : k.findMethod y.name y.desc with
      | none => rw [hi] at h; exact absurd h (by intro h; cases h)
      | some i => rw [hi] at h; cases h; exact hf.2
theorem rf_bind (y : MethodName) (hs : ((start1.about.methodNamed? y).bind start1.about.vm.method?).isSome = true) : (rf_bad.methodNamed? y).bind rf_bad.vm.method? = (start1.about.methodNamed? y).bind start1.about.vm.method? := by
  cases hm : start1.about.methodNamed? y with
  | none => rw [hm] at hs; exact absurd hs (by decide)
  | some m =>
    have h := rf_named y m hm
    rw [h.1]
    exact rf_meth m h.2
theorem rf_some {α : Type} (o : Option α) (f : α → Bool) (h : (o.map f == some true) = true) : o.isSome = true := by
  cases o with
  | none => exact absurd h (by simp)
  | some _ => rfl
theorem rf_word (c : Cond) (h : c.before start1.args0 start1.about = true) (hl : rf_look c = true) : c.before start1.args0 rf_bad = true := by
  cases c
  case code y b ml r =>
    unfold Cond.before Cond.holds Cond.value at h ⊢
    rw [rf_bind y (rf_some _ _ h)]; exact h
  case static y =>
    unfold Cond.before Cond.holds Cond.value at h ⊢
    rw [rf_bind y (rf_some _ _ h)]; exact h
  case instanceMethod y =>
    unfold Cond.before Cond.holds Cond.value at h ⊢
    rw [rf_bind y (rf_some _ _ h)]; exact h
  case privateMethod y =>
    unfold Cond.before Cond.holds Cond.value at h ⊢
    rw [rf_bind y (rf_some _ _ h)]; exact h
  case native y =>
    unfold Cond.before Cond.holds Cond.value at h ⊢
    rw [rf_bind y (rf_some _ _ h)]; exact h
  case initialized n =>
    unfold Cond.before Cond.holds Cond.value at h ⊢
    rw [rf_row n (rf_some _ _ h)]; exact h
  case instantiable n k =>
    unfold Cond.before Cond.holds Cond.value at h ⊢
    rw [rf_row n (rf_some _ _ h)]; exact h
  case soleField n f =>
    unfold Cond.before Cond.holds Cond.value at h ⊢
    cases hc : start1.about.vm.findClass n with
    | none => rw [hc] at h; exact absurd h (by intro h; cases h)
    | some c =>
      have hf := rf_find _ _ hc
      rw [hc] at h
      rw [hf.1]
      simp only [Option.bind_some] at h ⊢
      rw [rf_get c hf.2]; exact h
  all_goals exact hl
