theorem dJ3_checkIndex_8e157_0 : decode cJ3_checkIndex_8e157 0 = .ok (.iload_n 0, 1) := by decide +kernel
theorem dJ3_checkIndex_8e157_1 : decode cJ3_checkIndex_8e157 1 = .ok (.ifCond .lt 8, 3) := by decide +kernel
theorem dJ3_checkIndex_8e157_4 : decode cJ3_checkIndex_8e157 4 = .ok (.iload_n 0, 1) := by decide +kernel
theorem dJ3_checkIndex_8e157_5 : decode cJ3_checkIndex_8e157 5 = .ok (.iload_n 1, 1) := by decide +kernel
theorem dJ3_checkIndex_8e157_6 : decode cJ3_checkIndex_8e157 6 = .ok (.if_icmp .lt 10, 3) := by decide +kernel
theorem dJ3_checkIndex_8e157_9 : decode cJ3_checkIndex_8e157 9 = .ok (.aload_n 2, 1) := by decide +kernel
theorem dJ3_checkIndex_8e157_10 : decode cJ3_checkIndex_8e157 10 = .ok (.iload_n 0, 1) := by decide +kernel
theorem dJ3_checkIndex_8e157_11 : decode cJ3_checkIndex_8e157 11 = .ok (.iload_n 1, 1) := by decide +kernel
theorem dJ3_checkIndex_8e157_12 : decode cJ3_checkIndex_8e157 12 = .ok (.invokestatic 95, 3) := by decide +kernel
theorem dJ3_checkIndex_8e157_15 : decode cJ3_checkIndex_8e157 15 = .ok (.athrow, 1) := by decide +kernel
theorem dJ3_checkIndex_8e157_16 : decode cJ3_checkIndex_8e157 16 = .ok (.iload_n 0, 1) := by decide +kernel
theorem dJ3_checkIndex_8e157_17 : decode cJ3_checkIndex_8e157 17 = .ok (.ireturn, 1) := by decide +kernel
def bJ3_checkIndex_8e157_0 (rc : Nat → ox_K) : ox_K := o_il 0 (o_iflt (rc 9) (o_il 0 (o_il 1 (o_iclt (rc 16) (rc 9)))))
def bJ3_checkIndex_8e157_9 (rc : Nat → ox_K) : ox_K := o_al 2 (o_il 0 (o_il 1 (ox_no)))
def bJ3_checkIndex_8e157_16 (rc : Nat → ox_K) : ox_K := o_il 0 (o_iret)
section SJ3_checkIndex_8e157
variable {p : Program} {l : Launch} {e : Env} {R : Room} {s : State} {m : MethodId} {args : Array Value} {below : List Frame} {meth : Method} {c : Code} {g : ox_G} {c0 t0 dp  : Nat} {rc : Nat → ox_K}
set_option maxRecDepth 100000 in
theorem kJ3_checkIndex_8e157_0 (C : ox_C p s m args c g 3 cJ3_checkIndex_8e157 RJ3) (hr : meth.sig.returnType = (some .int)) (hlk : meth.locks = false) (hnm : meth.name = "checkIndex") (hR : R.frames = dp ∧ R.locals = 60 * dp) (hrc : ∀ b, ox_S p l e R s m args below meth c g 3 c0 t0 (ox_QM g below args s c0 t0) b (rc b)) : ox_S p l e R s m args below meth c g 3 c0 t0 (ox_QM g below args s c0 t0) 0 (bJ3_checkIndex_8e157_0 rc) := by
  refine s_iload_n (pc := 0) C dJ3_checkIndex_8e157_0 rfl ?_
  refine s_iflt (pc := 1) 9 C dJ3_checkIndex_8e157_1 (by decide) (hrc 9) ?_
  refine s_iload_n (pc := 4) C dJ3_checkIndex_8e157_4 rfl ?_
  refine s_iload_n (pc := 5) C dJ3_checkIndex_8e157_5 rfl ?_
  refine s_icmplt (pc := 6) 16 C dJ3_checkIndex_8e157_6 (by decide) (hrc 16) ?_
  exact hrc 9
set_option maxRecDepth 100000 in
theorem kJ3_checkIndex_8e157_9 (C : ox_C p s m args c g 3 cJ3_checkIndex_8e157 RJ3) (hr : meth.sig.returnType = (some .int)) (hlk : meth.locks = false) (hnm : meth.name = "checkIndex") (hR : R.frames = dp ∧ R.locals = 60 * dp) (hrc : ∀ b, ox_S p l e R s m args below meth c g 3 c0 t0 (ox_QM g below args s c0 t0) b (rc b)) : ox_S p l e R s m args below meth c g 3 c0 t0 (ox_QM g below args s c0 t0) 9 (bJ3_checkIndex_8e157_9 rc) := by
  refine s_aload_n (pc := 9) C dJ3_checkIndex_8e157_9 rfl ?_
  refine s_iload_n (pc := 10) C dJ3_checkIndex_8e157_10 rfl ?_
  refine s_iload_n (pc := 11) C dJ3_checkIndex_8e157_11 rfl ?_
  exact s_no
set_option maxRecDepth 100000 in
theorem kJ3_checkIndex_8e157_16 (C : ox_C p s m args c g 3 cJ3_checkIndex_8e157 RJ3) (hr : meth.sig.returnType = (some .int)) (hlk : meth.locks = false) (hnm : meth.name = "checkIndex") (hR : R.frames = dp ∧ R.locals = 60 * dp) (hrc : ∀ b, ox_S p l e R s m args below meth c g 3 c0 t0 (ox_QM g below args s c0 t0) b (rc b)) : ox_S p l e R s m args below meth c g 3 c0 t0 (ox_QM g below args s c0 t0) 16 (bJ3_checkIndex_8e157_16 rc) := by
  refine s_iload_n (pc := 16) C dJ3_checkIndex_8e157_16 rfl ?_
  exact s_iret (pc := 17) C hr hlk dJ3_checkIndex_8e157_17
end SJ3_checkIndex_8e157
def bsJ3_checkIndex_8e157 (b : Nat) (rc : Nat → ox_K) : ox_K := if b = 0 then bJ3_checkIndex_8e157_0 rc else if b = 9 then bJ3_checkIndex_8e157_9 rc else if b = 16 then bJ3_checkIndex_8e157_16 rc else ox_no
theorem mJ3_checkIndex_8e157 {dp  : Nat} {f : ox_F} (hf : ∀ as h r, f as h = some r → ox_cs as ≤ 3 ∧ ox_le h r.2 ∧ ∃ n, ox_run (bsJ3_checkIndex_8e157) n 0 (lv_args 0 as) [] h = some r) : ox_Sem yJ3_checkIndex_8e157 cJ3_checkIndex_8e157 3 (some .int) dp f := by
  refine ox_meth (bs := bsJ3_checkIndex_8e157) (by decide) hf ?_
  intro p l e R s m args below meth c g c0 t0 C hr hlk hnm hR rc hrc b
  unfold bsJ3_checkIndex_8e157
  refine ox_br (kJ3_checkIndex_8e157_0 C hr hlk hnm hR hrc) ?_
  refine ox_br (kJ3_checkIndex_8e157_9 C hr hlk hnm hR hrc) ?_
  refine ox_br (kJ3_checkIndex_8e157_16 C hr hlk hnm hR hrc) ?_
  exact s_no
