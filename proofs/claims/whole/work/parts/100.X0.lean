theorem dX0_init_0 : decode cX0_init 0 = .ok (.aload_n 0, 1) := by decide +kernel
theorem dX0_init_1 : decode cX0_init 1 = .ok (.invokespecial 1, 3) := by decide +kernel
theorem dX0_init_4 : decode cX0_init 4 = .ok (.return_, 1) := by decide +kernel
def bX0_init_0 (rc : Nat → ox_K) : ox_K := o_al 0 (o_obj (o_ret))
section SX0_init
variable {p : Program} {l : Launch} {e : Env} {R : Room} {s : State} {m : MethodId} {args : Array Value} {below : List Frame} {meth : Method} {c : Code} {g : ox_G} {c0 t0 dp  : Nat} {rc : Nat → ox_K}
set_option maxRecDepth 100000 in
theorem kX0_init_0 (C : ox_C p s m args c g 1 cX0_init RX0) (hr : meth.sig.returnType = none) (hlk : meth.locks = false) (hnm : meth.name = "<init>") (hR : R.frames = dp ∧ R.locals = 60 * dp) (e0 : 1 ≤ dp) (hrc : ∀ b, ox_S p l e R s m args below meth c g 1 c0 t0 (ox_QM g below args s c0 t0) b (rc b)) : ox_S p l e R s m args below meth c g 1 c0 t0 (ox_QM g below args s c0 t0) 0 (bX0_init_0 rc) := by
  refine s_aload_n (pc := 0) C dX0_init_0 rfl ?_
  refine s_obj (pc := 1) C wM_X0_1 wO1 wO2 (ox_lv1 hR e0) dX0_init_1 ?_
  exact s_ret (pc := 4) C hr hlk dX0_init_4
end SX0_init
def bsX0_init (b : Nat) (rc : Nat → ox_K) : ox_K := if b = 0 then bX0_init_0 rc else ox_no
theorem mX0_init {dp  : Nat} {f : ox_F} (e0 : 1 ≤ dp) (hf : ∀ as h r, f as h = some r → ox_cs as ≤ 1 ∧ ox_le h r.2 ∧ ∃ n, ox_run (bsX0_init) n 0 (lv_args 0 as) [] h = some r) : ox_Sem yX0_init cX0_init 1 none dp f := by
  refine ox_meth (bs := bsX0_init) (by decide) hf ?_
  intro p l e R s m args below meth c g c0 t0 C hr hlk hnm hR rc hrc b
  unfold bsX0_init
  refine ox_br (kX0_init_0 C hr hlk hnm hR e0 hrc) ?_
  exact s_no
theorem dX0_become_0 : decode cX0_become 0 = .ok (.aload_n 0, 1) := by decide +kernel
theorem dX0_become_1 : decode cX0_become 1 = .ok (.aload_n 1, 1) := by decide +kernel
theorem dX0_become_2 : decode cX0_become 2 = .ok (.getfield 7, 3) := by decide +kernel
theorem dX0_become_5 : decode cX0_become 5 = .ok (.putfield 13, 3) := by decide +kernel
theorem dX0_become_8 : decode cX0_become 8 = .ok (.aload_n 0, 1) := by decide +kernel
theorem dX0_become_9 : decode cX0_become 9 = .ok (.aload_n 1, 1) := by decide +kernel
theorem dX0_become_10 : decode cX0_become 10 = .ok (.getfield 16, 3) := by decide +kernel
theorem dX0_become_13 : decode cX0_become 13 = .ok (.putfield 19, 3) := by decide +kernel
theorem dX0_become_16 : decode cX0_become 16 = .ok (.aload_n 0, 1) := by decide +kernel
theorem dX0_become_17 : decode cX0_become 17 = .ok (.aload_n 1, 1) := by decide +kernel
theorem dX0_become_18 : decode cX0_become 18 = .ok (.getfield 20, 3) := by decide +kernel
theorem dX0_become_21 : decode cX0_become 21 = .ok (.putfield 23, 3) := by decide +kernel
theorem dX0_become_24 : decode cX0_become 24 = .ok (.aload_n 0, 1) := by decide +kernel
theorem dX0_become_25 : decode cX0_become 25 = .ok (.aload_n 1, 1) := by decide +kernel
theorem dX0_become_26 : decode cX0_become 26 = .ok (.getfield 24, 3) := by decide +kernel
theorem dX0_become_29 : decode cX0_become 29 = .ok (.putfield 27, 3) := by decide +kernel
theorem dX0_become_32 : decode cX0_become 32 = .ok (.aload_n 0, 1) := by decide +kernel
theorem dX0_become_33 : decode cX0_become 33 = .ok (.aload_n 1, 1) := by decide +kernel
theorem dX0_become_34 : decode cX0_become 34 = .ok (.getfield 28, 3) := by decide +kernel
theorem dX0_become_37 : decode cX0_become 37 = .ok (.putfield 32, 3) := by decide +kernel
theorem dX0_become_40 : decode cX0_become 40 = .ok (.aload_n 0, 1) := by decide +kernel
theorem dX0_become_41 : decode cX0_become 41 = .ok (.iload_n 2, 1) := by decide +kernel
theorem dX0_become_42 : decode cX0_become 42 = .ok (.putfield 33, 3) := by decide +kernel
theorem dX0_become_45 : decode cX0_become 45 = .ok (.return_, 1) := by decide +kernel
def bX0_become_0 (rc : Nat → ox_K) : ox_K := o_al 0 (o_al 1 (o_geti 5 0 (o_puti 0 0 (o_al 0 (o_al 1 (o_geti 5 1 (o_puti 0 1 (o_al 0 (o_al 1 (o_geti 5 2 (o_puti 0 2 (o_al 0 (o_al 1 (o_geti 5 3 (o_puti 0 3 (o_al 0 (o_al 1 (o_geti 5 5 (o_putz 0 4 (o_al 0 (o_il 2 (o_puti 0 5 (o_ret)))))))))))))))))))))))
section SX0_become
variable {p : Program} {l : Launch} {e : Env} {R : Room} {s : State} {m : MethodId} {args : Array Value} {below : List Frame} {meth : Method} {c : Code} {g : ox_G} {c0 t0 dp  : Nat} {rc : Nat → ox_K}
set_option maxRecDepth 100000 in
theorem kX0_become_0 (C : ox_C p s m args c g 3 cX0_become RX0) (hr : meth.sig.returnType = none) (hlk : meth.locks = false) (hnm : meth.name = "become") (hR : R.frames = dp ∧ R.locals = 60 * dp) (hrc : ∀ b, ox_S p l e R s m args below meth c g 3 c0 t0 (ox_QM g below args s c0 t0) b (rc b)) : ox_S p l e R s m args below meth c g 3 c0 t0 (ox_QM g below args s c0 t0) 0 (bX0_become_0 rc) := by
  refine s_aload_n (pc := 0) C dX0_become_0 rfl ?_
  refine s_aload_n (pc := 1) C dX0_become_1 rfl ?_
  refine s_geti (pc := 2) (j := 0) (q := (RX5, TX5, 8)) C rfl (by decide) rfl wF_X0_7 dX0_become_2 ?_
  refine s_puti (pc := 5) (j := 0) (q := (RX0, TX0, 7)) C rfl (by decide) rfl (Or.inl rfl) wF_X0_13 dX0_become_5 ?_
  refine s_aload_n (pc := 8) C dX0_become_8 rfl ?_
  refine s_aload_n (pc := 9) C dX0_become_9 rfl ?_
  refine s_geti (pc := 10) (j := 1) (q := (RX5, TX5, 8)) C rfl (by decide) rfl wF_X0_16 dX0_become_10 ?_
  refine s_puti (pc := 13) (j := 1) (q := (RX0, TX0, 7)) C rfl (by decide) rfl (Or.inl rfl) wF_X0_19 dX0_become_13 ?_
  refine s_aload_n (pc := 16) C dX0_become_16 rfl ?_
  refine s_aload_n (pc := 17) C dX0_become_17 rfl ?_
  refine s_geti (pc := 18) (j := 2) (q := (RX5, TX5, 8)) C rfl (by decide) rfl wF_X0_20 dX0_become_18 ?_
  refine s_puti (pc := 21) (j := 2) (q := (RX0, TX0, 7)) C rfl (by decide) rfl (Or.inl rfl) wF_X0_23 dX0_become_21 ?_
  refine s_aload_n (pc := 24) C dX0_become_24 rfl ?_
  refine s_aload_n (pc := 25) C dX0_become_25 rfl ?_
  refine s_geti (pc := 26) (j := 3) (q := (RX5, TX5, 8)) C rfl (by decide) rfl wF_X0_24 dX0_become_26 ?_
  refine s_puti (pc := 29) (j := 3) (q := (RX0, TX0, 7)) C rfl (by decide) rfl (Or.inl rfl) wF_X0_27 dX0_become_29 ?_
  refine s_aload_n (pc := 32) C dX0_become_32 rfl ?_
  refine s_aload_n (pc := 33) C dX0_become_33 rfl ?_
  refine s_geti (pc := 34) (j := 5) (q := (RX5, TX5, 8)) C rfl (by decide) rfl wF_X0_28 dX0_become_34 ?_
  refine s_putz (pc := 37) (j := 4) (q := (RX0, TX0, 7)) C rfl (by decide) rfl (Or.inl rfl) wF_X0_32 dX0_become_37 ?_
  refine s_aload_n (pc := 40) C dX0_become_40 rfl ?_
  refine s_iload_n (pc := 41) C dX0_become_41 rfl ?_
  refine s_puti (pc := 42) (j := 5) (q := (RX0, TX0, 7)) C rfl (by decide) rfl (Or.inl rfl) wF_X0_33 dX0_become_42 ?_
  exact s_ret (pc := 45) C hr hlk dX0_become_45
end SX0_become
def bsX0_become (b : Nat) (rc : Nat → ox_K) : ox_K := if b = 0 then bX0_become_0 rc else ox_no
theorem mX0_become {dp  : Nat} {f : ox_F} (hf : ∀ as h r, f as h = some r → ox_cs as ≤ 3 ∧ ox_le h r.2 ∧ ∃ n, ox_run (bsX0_become) n 0 (lv_args 0 as) [] h = some r) : ox_Sem yX0_become cX0_become 3 none dp f := by
  refine ox_meth (bs := bsX0_become) (by decide) hf ?_
  intro p l e R s m args below meth c g c0 t0 C hr hlk hnm hR rc hrc b
  unfold bsX0_become
  refine ox_br (kX0_become_0 C hr hlk hnm hR hrc) ?_
  exact s_no
