/-- one more array over int in the table, under another name than the usual one, with nothing above it, and with a clone of its own whose code is the one byte 'pop' -/
def rf_more : Class := { start1.cArr "[Q" 23 .int with super := none, methods := #[Lib.HandJ.method "clone" "()Ljava/lang/Object;" [] (some (.object "java/lang/Object")) 0x1 1 (.mk #[0x57])] }
/-- the witness's start at the empty script, with that one behind the others, and the cell of SweetLine$Belt.GEAR_AT_FIRST (cell 6) of it -/
def rf_bad : State := { start1.aboutOf #[] with vm := { (start1.aboutOf #[]).vm with classes := (start1.aboutOf #[]).vm.classes.push rf_more }, heap := (start1.aboutOf #[]).heap.modify 6 (fun c => { c with cls := 34 }) }
/-- a word on code is looked at by its method's number alone: the method itself is the one of the witness's table -/
def rf_look : Cond → Bool
  | .code y _ _ _ => decide (rf_bad.methodNamed? y = start1.about.methodNamed? y) && (start1.about.methodNamed? y).all (fun m => Nat.blt m.cls 34)
  | c => c.before start1.args0 rf_bad
theorem rf_get (i : Nat) (h : i < 34) : rf_bad.vm.classes[i]? = start1.about.vm.classes[i]? := by
  show ((start1.aboutOf #[]).vm.classes.push rf_more)[i]? = (start1.aboutOf #[]).vm.classes[i]?
  exact Array.getElem?_push_lt (show i < (start1.aboutOf #[]).vm.classes.size from h) |>.trans (Array.getElem?_eq_getElem _).symm
theorem rf_meth (m : MethodId) (h : m.cls < 34) : rf_bad.vm.method? m = start1.about.vm.method? m := by
  unfold Vm.method?
  rw [rf_get m.cls h]
theorem rf_word (c : Cond) (h : c.before start1.args0 start1.about = true) (hl : rf_look c = true) : c.before start1.args0 rf_bad = true := by
  cases c
  case code y b ml r =>
    have h2 := Bool.and_eq_true_iff.mp hl
    have h3 : rf_bad.methodNamed? y = start1.about.methodNamed? y := of_decide_eq_true h2.1
    have h4 := h2.2
    have h5 : (rf_bad.methodNamed? y).bind rf_bad.vm.method? = (start1.about.methodNamed? y).bind start1.about.vm.method? := by
      rw [h3]
      cases hm : start1.about.methodNamed? y with
      | none => rfl
      | some m =>
        rw [hm] at h4
        exact rf_meth m (Nat.lt_of_lt_of_le (Nat.blt_eq.mp h4) (Nat.le_refl _))
    unfold Cond.before Cond.holds Cond.value at h ⊢
    rw [h5]
    exact h
  all_goals exact hl
