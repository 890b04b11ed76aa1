theorem dJ6_compare_7cf53_0 : decode cJ6_compare_7cf53 0 = .ok (.iload_n 0, 1) := by decide +kernel
theorem dJ6_compare_7cf53_1 : decode cJ6_compare_7cf53 1 = .ok (.iload_n 1, 1) := by decide +kernel
theorem dJ6_compare_7cf53_2 : decode cJ6_compare_7cf53 2 = .ok (.if_icmp .ge 7, 3) := by decide +kernel
theorem dJ6_compare_7cf53_5 : decode cJ6_compare_7cf53 5 = .ok (.iconst (-1), 1) := by decide +kernel
theorem dJ6_compare_7cf53_6 : decode cJ6_compare_7cf53 6 = .ok (.goto 13, 3) := by decide +kernel
theorem dJ6_compare_7cf53_9 : decode cJ6_compare_7cf53 9 = .ok (.iload_n 0, 1) := by decide +kernel
theorem dJ6_compare_7cf53_10 : decode cJ6_compare_7cf53 10 = .ok (.iload_n 1, 1) := by decide +kernel
theorem dJ6_compare_7cf53_11 : decode cJ6_compare_7cf53 11 = .ok (.if_icmp .ne 7, 3) := by decide +kernel
theorem dJ6_compare_7cf53_14 : decode cJ6_compare_7cf53 14 = .ok (.iconst 0, 1) := by decide +kernel
theorem dJ6_compare_7cf53_15 : decode cJ6_compare_7cf53 15 = .ok (.goto 4, 3) := by decide +kernel
theorem dJ6_compare_7cf53_18 : decode cJ6_compare_7cf53 18 = .ok (.iconst 1, 1) := by decide +kernel
theorem dJ6_compare_7cf53_19 : decode cJ6_compare_7cf53 19 = .ok (.ireturn, 1) := by decide +kernel
def bJ6_compare_7cf53_0 (rc : Nat → ox_K) : ox_K := o_il 0 (o_il 1 (o_icge (rc 9) (o_ic (-1) (rc 19))))
def bJ6_compare_7cf53_9 (rc : Nat → ox_K) : ox_K := o_il 0 (o_il 1 (o_icne (rc 18) (o_ic (0) (rc 19))))
def bJ6_compare_7cf53_18 (rc : Nat → ox_K) : ox_K := o_ic (1) (rc 19)
def bJ6_compare_7cf53_19 (rc : Nat → ox_K) : ox_K := o_iret
section SJ6_compare_7cf53
variable {p : Program} {l : Launch} {e : Env} {R : Room} {s : State} {m : MethodId} {args : Array Value} {below : List Frame} {meth : Method} {c : Code} {g : ox_G} {c0 t0 dp  : Nat} {rc : Nat → ox_K}
set_option maxRecDepth 100000 in
theorem kJ6_compare_7cf53_0 (C : ox_C p s m args c g 2 cJ6_compare_7cf53 RJ6) (hr : meth.sig.returnType = (some .int)) (hlk : meth.locks = false) (hnm : meth.name = "compare") (hR : R.frames = dp ∧ R.locals = 60 * dp) (hrc : ∀ b, ox_S p l e R s m args below meth c g 2 c0 t0 (ox_QM g below args s c0 t0) b (rc b)) : ox_S p l e R s m args below meth c g 2 c0 t0 (ox_QM g below args s c0 t0) 0 (bJ6_compare_7cf53_0 rc) := by
  refine s_iload_n (pc := 0) C dJ6_compare_7cf53_0 rfl ?_
  refine s_iload_n (pc := 1) C dJ6_compare_7cf53_1 rfl ?_
  refine s_icmpge (pc := 2) 9 C dJ6_compare_7cf53_2 (by decide) (hrc 9) ?_
  refine s_iconst (pc := 5) C dJ6_compare_7cf53_5 (by decide) ?_
  exact s_goto (pc := 6) 19 C dJ6_compare_7cf53_6 (by decide) (hrc 19)
set_option maxRecDepth 100000 in
theorem kJ6_compare_7cf53_9 (C : ox_C p s m args c g 2 cJ6_compare_7cf53 RJ6) (hr : meth.sig.returnType = (some .int)) (hlk : meth.locks = false) (hnm : meth.name = "compare") (hR : R.frames = dp ∧ R.locals = 60 * dp) (hrc : ∀ b, ox_S p l e R s m args below meth c g 2 c0 t0 (ox_QM g below args s c0 t0) b (rc b)) : ox_S p l e R s m args below meth c g 2 c0 t0 (ox_QM g below args s c0 t0) 9 (bJ6_compare_7cf53_9 rc) := by
  refine s_iload_n (pc := 9) C dJ6_compare_7cf53_9 rfl ?_
  refine s_iload_n (pc := 10) C dJ6_compare_7cf53_10 rfl ?_
  refine s_icmpne (pc := 11) 18 C dJ6_compare_7cf53_11 (by decide) (hrc 18) ?_
  refine s_iconst (pc := 14) C dJ6_compare_7cf53_14 (by decide) ?_
  exact s_goto (pc := 15) 19 C dJ6_compare_7cf53_15 (by decide) (hrc 19)
set_option maxRecDepth 100000 in
theorem kJ6_compare_7cf53_18 (C : ox_C p s m args c g 2 cJ6_compare_7cf53 RJ6) (hr : meth.sig.returnType = (some .int)) (hlk : meth.locks = false) (hnm : meth.name = "compare") (hR : R.frames = dp ∧ R.locals = 60 * dp) (hrc : ∀ b, ox_S p l e R s m args below meth c g 2 c0 t0 (ox_QM g below args s c0 t0) b (rc b)) : ox_S p l e R s m args below meth c g 2 c0 t0 (ox_QM g below args s c0 t0) 18 (bJ6_compare_7cf53_18 rc) := by
  refine s_iconst (pc := 18) C dJ6_compare_7cf53_18 (by decide) ?_
  exact hrc 19
set_option maxRecDepth 100000 in
theorem kJ6_compare_7cf53_19 (C : ox_C p s m args c g 2 cJ6_compare_7cf53 RJ6) (hr : meth.sig.returnType = (some .int)) (hlk : meth.locks = false) (hnm : meth.name = "compare") (hR : R.frames = dp ∧ R.locals = 60 * dp) (hrc : ∀ b, ox_S p l e R s m args below meth c g 2 c0 t0 (ox_QM g below args s c0 t0) b (rc b)) : ox_S p l e R s m args below meth c g 2 c0 t0 (ox_QM g below args s c0 t0) 19 (bJ6_compare_7cf53_19 rc) := by
  exact s_iret (pc := 19) C hr hlk dJ6_compare_7cf53_19
end SJ6_compare_7cf53
def bsJ6_compare_7cf53 (b : Nat) (rc : Nat → ox_K) : ox_K := if b = 0 then bJ6_compare_7cf53_0 rc else if b = 9 then bJ6_compare_7cf53_9 rc else if b = 18 then bJ6_compare_7cf53_18 rc else if b = 19 then bJ6_compare_7cf53_19 rc else ox_no
theorem mJ6_compare_7cf53 {dp  : Nat} {f : ox_F} (hf : ∀ as h r, f as h = some r → ox_cs as ≤ 2 ∧ ox_le h r.2 ∧ ∃ n, ox_run (bsJ6_compare_7cf53) n 0 (lv_args 0 as) [] h = some r) : ox_Sem yJ6_compare_7cf53 cJ6_compare_7cf53 2 (some .int) dp f := by
  refine ox_meth (bs := bsJ6_compare_7cf53) (by decide) hf ?_
  intro p l e R s m args below meth c g c0 t0 C hr hlk hnm hR rc hrc b
  unfold bsJ6_compare_7cf53
  refine ox_br (kJ6_compare_7cf53_0 C hr hlk hnm hR hrc) ?_
  refine ox_br (kJ6_compare_7cf53_9 C hr hlk hnm hR hrc) ?_
  refine ox_br (kJ6_compare_7cf53_18 C hr hlk hnm hR hrc) ?_
  refine ox_br (kJ6_compare_7cf53_19 C hr hlk hnm hR hrc) ?_
  exact s_no
