theorem dJ9_max_7cf53_0 : decode cJ9_max_7cf53 0 = .ok (.iload_n 0, 1) := by decide +kernel
theorem dJ9_max_7cf53_1 : decode cJ9_max_7cf53 1 = .ok (.iload_n 1, 1) := by decide +kernel
theorem dJ9_max_7cf53_2 : decode cJ9_max_7cf53 2 = .ok (.if_icmp .lt 7, 3) := by decide +kernel
theorem dJ9_max_7cf53_5 : decode cJ9_max_7cf53 5 = .ok (.iload_n 0, 1) := by decide +kernel
theorem dJ9_max_7cf53_6 : decode cJ9_max_7cf53 6 = .ok (.goto 4, 3) := by decide +kernel
theorem dJ9_max_7cf53_9 : decode cJ9_max_7cf53 9 = .ok (.iload_n 1, 1) := by decide +kernel
theorem dJ9_max_7cf53_10 : decode cJ9_max_7cf53 10 = .ok (.ireturn, 1) := by decide +kernel
def bJ9_max_7cf53_0 (rc : Nat → ox_K) : ox_K := o_il 0 (o_il 1 (o_iclt (rc 9) (o_il 0 (rc 10))))
def bJ9_max_7cf53_9 (rc : Nat → ox_K) : ox_K := o_il 1 (rc 10)
def bJ9_max_7cf53_10 (rc : Nat → ox_K) : ox_K := o_iret
section SJ9_max_7cf53
variable {p : Program} {l : Launch} {e : Env} {R : Room} {s : State} {m : MethodId} {args : Array Value} {below : List Frame} {meth : Method} {c : Code} {g : ox_G} {c0 t0 dp  : Nat} {rc : Nat → ox_K}
set_option maxRecDepth 100000 in
theorem kJ9_max_7cf53_0 (C : ox_C p s m args c g 2 cJ9_max_7cf53 RJ9) (hr : meth.sig.returnType = (some .int)) (hlk : meth.locks = false) (hnm : meth.name = "max") (hR : R.frames = dp ∧ R.locals = 60 * dp) (hrc : ∀ b, ox_S p l e R s m args below meth c g 2 c0 t0 (ox_QM g below args s c0 t0) b (rc b)) : ox_S p l e R s m args below meth c g 2 c0 t0 (ox_QM g below args s c0 t0) 0 (bJ9_max_7cf53_0 rc) := by
  refine s_iload_n (pc := 0) C dJ9_max_7cf53_0 rfl ?_
  refine s_iload_n (pc := 1) C dJ9_max_7cf53_1 rfl ?_
  refine s_icmplt (pc := 2) 9 C dJ9_max_7cf53_2 (by decide) (hrc 9) ?_
  refine s_iload_n (pc := 5) C dJ9_max_7cf53_5 rfl ?_
  exact s_goto (pc := 6) 10 C dJ9_max_7cf53_6 (by decide) (hrc 10)
set_option maxRecDepth 100000 in
theorem kJ9_max_7cf53_9 (C : ox_C p s m args c g 2 cJ9_max_7cf53 RJ9) (hr : meth.sig.returnType = (some .int)) (hlk : meth.locks = false) (hnm : meth.name = "max") (hR : R.frames = dp ∧ R.locals = 60 * dp) (hrc : ∀ b, ox_S p l e R s m args below meth c g 2 c0 t0 (ox_QM g below args s c0 t0) b (rc b)) : ox_S p l e R s m args below meth c g 2 c0 t0 (ox_QM g below args s c0 t0) 9 (bJ9_max_7cf53_9 rc) := by
  refine s_iload_n (pc := 9) C dJ9_max_7cf53_9 rfl ?_
  exact hrc 10
set_option maxRecDepth 100000 in
theorem kJ9_max_7cf53_10 (C : ox_C p s m args c g 2 cJ9_max_7cf53 RJ9) (hr : meth.sig.returnType = (some .int)) (hlk : meth.locks = false) (hnm : meth.name = "max") (hR : R.frames = dp ∧ R.locals = 60 * dp) (hrc : ∀ b, ox_S p l e R s m args below meth c g 2 c0 t0 (ox_QM g below args s c0 t0) b (rc b)) : ox_S p l e R s m args below meth c g 2 c0 t0 (ox_QM g below args s c0 t0) 10 (bJ9_max_7cf53_10 rc) := by
  exact s_iret (pc := 10) C hr hlk dJ9_max_7cf53_10
end SJ9_max_7cf53
def bsJ9_max_7cf53 (b : Nat) (rc : Nat → ox_K) : ox_K := if b = 0 then bJ9_max_7cf53_0 rc else if b = 9 then bJ9_max_7cf53_9 rc else if b = 10 then bJ9_max_7cf53_10 rc else ox_no
theorem mJ9_max_7cf53 {dp  : Nat} {f : ox_F} (hf : ∀ as h r, f as h = some r → ox_cs as ≤ 2 ∧ ox_le h r.2 ∧ ∃ n, ox_run (bsJ9_max_7cf53) n 0 (lv_args 0 as) [] h = some r) : ox_Sem yJ9_max_7cf53 cJ9_max_7cf53 2 (some .int) dp f := by
  refine ox_meth (bs := bsJ9_max_7cf53) (by decide) hf ?_
  intro p l e R s m args below meth c g c0 t0 C hr hlk hnm hR rc hrc b
  unfold bsJ9_max_7cf53
  split
  · next eb => rw [eb]; exact kJ9_max_7cf53_0 C hr hlk hnm hR hrc
  split
  · next eb => rw [eb]; exact kJ9_max_7cf53_9 C hr hlk hnm hR hrc
  split
  · next eb => rw [eb]; exact kJ9_max_7cf53_10 C hr hlk hnm hR hrc
  exact s_no
theorem dJ9_min_7cf53_0 : decode cJ9_min_7cf53 0 = .ok (.iload_n 0, 1) := by decide +kernel
theorem dJ9_min_7cf53_1 : decode cJ9_min_7cf53 1 = .ok (.iload_n 1, 1) := by decide +kernel
theorem dJ9_min_7cf53_2 : decode cJ9_min_7cf53 2 = .ok (.if_icmp .gt 7, 3) := by decide +kernel
theorem dJ9_min_7cf53_5 : decode cJ9_min_7cf53 5 = .ok (.iload_n 0, 1) := by decide +kernel
theorem dJ9_min_7cf53_6 : decode cJ9_min_7cf53 6 = .ok (.goto 4, 3) := by decide +kernel
theorem dJ9_min_7cf53_9 : decode cJ9_min_7cf53 9 = .ok (.iload_n 1, 1) := by decide +kernel
theorem dJ9_min_7cf53_10 : decode cJ9_min_7cf53 10 = .ok (.ireturn, 1) := by decide +kernel
def bJ9_min_7cf53_0 (rc : Nat → ox_K) : ox_K := o_il 0 (o_il 1 (o_icgt (rc 9) (o_il 0 (rc 10))))
def bJ9_min_7cf53_9 (rc : Nat → ox_K) : ox_K := o_il 1 (rc 10)
def bJ9_min_7cf53_10 (rc : Nat → ox_K) : ox_K := o_iret
section SJ9_min_7cf53
variable {p : Program} {l : Launch} {e : Env} {R : Room} {s : State} {m : MethodId} {args : Array Value} {below : List Frame} {meth : Method} {c : Code} {g : ox_G} {c0 t0 dp  : Nat} {rc : Nat → ox_K}
set_option maxRecDepth 100000 in
theorem kJ9_min_7cf53_0 (C : ox_C p s m args c g 2 cJ9_min_7cf53 RJ9) (hr : meth.sig.returnType = (some .int)) (hlk : meth.locks = false) (hnm : meth.name = "min") (hR : R.frames = dp ∧ R.locals = 60 * dp) (hrc : ∀ b, ox_S p l e R s m args below meth c g 2 c0 t0 (ox_QM g below args s c0 t0) b (rc b)) : ox_S p l e R s m args below meth c g 2 c0 t0 (ox_QM g below args s c0 t0) 0 (bJ9_min_7cf53_0 rc) := by
  refine s_iload_n (pc := 0) C dJ9_min_7cf53_0 rfl ?_
  refine s_iload_n (pc := 1) C dJ9_min_7cf53_1 rfl ?_
  refine s_icmpgt (pc := 2) 9 C dJ9_min_7cf53_2 (by decide) (hrc 9) ?_
  refine s_iload_n (pc := 5) C dJ9_min_7cf53_5 rfl ?_
  exact s_goto (pc := 6) 10 C dJ9_min_7cf53_6 (by decide) (hrc 10)
set_option maxRecDepth 100000 in
theorem kJ9_min_7cf53_9 (C : ox_C p s m args c g 2 cJ9_min_7cf53 RJ9) (hr : meth.sig.returnType = (some .int)) (hlk : meth.locks = false) (hnm : meth.name = "min") (hR : R.frames = dp ∧ R.locals = 60 * dp) (hrc : ∀ b, ox_S p l e R s m args below meth c g 2 c0 t0 (ox_QM g below args s c0 t0) b (rc b)) : ox_S p l e R s m args below meth c g 2 c0 t0 (ox_QM g below args s c0 t0) 9 (bJ9_min_7cf53_9 rc) := by
  refine s_iload_n (pc := 9) C dJ9_min_7cf53_9 rfl ?_
  exact hrc 10
set_option maxRecDepth 100000 in
theorem kJ9_min_7cf53_10 (C : ox_C p s m args c g 2 cJ9_min_7cf53 RJ9) (hr : meth.sig.returnType = (some .int)) (hlk : meth.locks = false) (hnm : meth.name = "min") (hR : R.frames = dp ∧ R.locals = 60 * dp) (hrc : ∀ b, ox_S p l e R s m args below meth c g 2 c0 t0 (ox_QM g below args s c0 t0) b (rc b)) : ox_S p l e R s m args below meth c g 2 c0 t0 (ox_QM g below args s c0 t0) 10 (bJ9_min_7cf53_10 rc) := by
  exact s_iret (pc := 10) C hr hlk dJ9_min_7cf53_10
end SJ9_min_7cf53
def bsJ9_min_7cf53 (b : Nat) (rc : Nat → ox_K) : ox_K := if b = 0 then bJ9_min_7cf53_0 rc else if b = 9 then bJ9_min_7cf53_9 rc else if b = 10 then bJ9_min_7cf53_10 rc else ox_no
theorem mJ9_min_7cf53 {dp  : Nat} {f : ox_F} (hf : ∀ as h r, f as h = some r → ox_cs as ≤ 2 ∧ ox_le h r.2 ∧ ∃ n, ox_run (bsJ9_min_7cf53) n 0 (lv_args 0 as) [] h = some r) : ox_Sem yJ9_min_7cf53 cJ9_min_7cf53 2 (some .int) dp f := by
  refine ox_meth (bs := bsJ9_min_7cf53) (by decide) hf ?_
  intro p l e R s m args below meth c g c0 t0 C hr hlk hnm hR rc hrc b
  unfold bsJ9_min_7cf53
  split
  · next eb => rw [eb]; exact kJ9_min_7cf53_0 C hr hlk hnm hR hrc
  split
  · next eb => rw [eb]; exact kJ9_min_7cf53_9 C hr hlk hnm hR hrc
  split
  · next eb => rw [eb]; exact kJ9_min_7cf53_10 C hr hlk hnm hR hrc
  exact s_no
