theorem dX6_init_0 : decode cX6_init 0 = .ok (.aload_n 0, 1) := by decide +kernel
theorem dX6_init_1 : decode cX6_init 1 = .ok (.invokespecial 1, 3) := by decide +kernel
theorem dX6_init_4 : decode cX6_init 4 = .ok (.aload_n 0, 1) := by decide +kernel
theorem dX6_init_5 : decode cX6_init 5 = .ok (.bipush 6, 2) := by decide +kernel
theorem dX6_init_7 : decode cX6_init 7 = .ok (.newarray .int, 2) := by decide +kernel
theorem dX6_init_9 : decode cX6_init 9 = .ok (.putfield 9, 3) := by decide +kernel
theorem dX6_init_12 : decode cX6_init 12 = .ok (.aload_n 0, 1) := by decide +kernel
theorem dX6_init_13 : decode cX6_init 13 = .ok (.bipush 6, 2) := by decide +kernel
theorem dX6_init_15 : decode cX6_init 15 = .ok (.newarray .int, 2) := by decide +kernel
theorem dX6_init_17 : decode cX6_init 17 = .ok (.putfield 13, 3) := by decide +kernel
theorem dX6_init_20 : decode cX6_init 20 = .ok (.return_, 1) := by decide +kernel
def bX6_init_0 (rc : Nat → ox_K) : ox_K := o_al 0 (o_obj (o_al 0 (o_ic (6) (o_newa 1 (o_putr 6 3 (o_al 0 (o_ic (6) (o_newa 1 (o_putr 6 4 (o_ret))))))))))
section SX6_init
variable {p : Program} {l : Launch} {e : Env} {R : Room} {s : State} {m : MethodId} {args : Array Value} {below : List Frame} {meth : Method} {c : Code} {g : ox_G} {c0 t0 dp  : Nat} {rc : Nat → ox_K}
set_option maxRecDepth 100000 in
theorem kX6_init_0 (C : ox_C p s m args c g 1 cX6_init RX6) (hr : meth.sig.returnType = none) (hlk : meth.locks = false) (hnm : meth.name = "<init>") (hR : R.frames = dp ∧ R.locals = 60 * dp) (e0 : 1 ≤ dp) (hrc : ∀ b, ox_S p l e R s m args below meth c g 1 c0 t0 (ox_QM g below args s c0 t0) b (rc b)) : ox_S p l e R s m args below meth c g 1 c0 t0 (ox_QM g below args s c0 t0) 0 (bX6_init_0 rc) := by
  refine s_aload_n (pc := 0) C dX6_init_0 rfl ?_
  refine s_obj (pc := 1) C wM_X6_1 wO1 wO2 (ox_lv1 hR e0) dX6_init_1 ?_
  refine s_aload_n (pc := 4) C dX6_init_4 rfl ?_
  refine s_bipush (pc := 5) C dX6_init_5 (by decide) ?_
  refine s_newa (pc := 7) (ty := .int) C rfl (Or.inl ⟨rfl, rfl⟩) wA_int dX6_init_7 ?_
  refine s_putr (pc := 9) (j := 3) (q := (RX6, TX6, 5)) C rfl (by decide) rfl (Or.inr ⟨rfl, hnm, rfl⟩) wF_X6_9 dX6_init_9 ?_
  refine s_aload_n (pc := 12) C dX6_init_12 rfl ?_
  refine s_bipush (pc := 13) C dX6_init_13 (by decide) ?_
  refine s_newa (pc := 15) (ty := .int) C rfl (Or.inl ⟨rfl, rfl⟩) wA_int dX6_init_15 ?_
  refine s_putr (pc := 17) (j := 4) (q := (RX6, TX6, 5)) C rfl (by decide) rfl (Or.inr ⟨rfl, hnm, rfl⟩) wF_X6_13 dX6_init_17 ?_
  exact s_ret (pc := 20) C hr hlk dX6_init_20
end SX6_init
def bsX6_init (b : Nat) (rc : Nat → ox_K) : ox_K := if b = 0 then bX6_init_0 rc else ox_no
theorem mX6_init {dp  : Nat} {f : ox_F} (e0 : 1 ≤ dp) (hf : ∀ as h r, f as h = some r → ox_cs as ≤ 1 ∧ ox_le h r.2 ∧ ∃ n, ox_run (bsX6_init) n 0 (lv_args 0 as) [] h = some r) : ox_Sem yX6_init cX6_init 1 none dp f := by
  refine ox_meth (bs := bsX6_init) (by decide) hf ?_
  intro p l e R s m args below meth c g c0 t0 C hr hlk hnm hR rc hrc b
  unfold bsX6_init
  refine ox_br (kX6_init_0 C hr hlk hnm hR e0 hrc) ?_
  exact s_no
