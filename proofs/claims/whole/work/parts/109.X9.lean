theorem dX9_init_0 : decode cX9_init 0 = .ok (.aload_n 0, 1) := by decide +kernel
theorem dX9_init_1 : decode cX9_init 1 = .ok (.invokespecial 1, 3) := by decide +kernel
theorem dX9_init_4 : decode cX9_init 4 = .ok (.aload_n 0, 1) := by decide +kernel
theorem dX9_init_5 : decode cX9_init 5 = .ok (.new 7, 3) := by decide +kernel
theorem dX9_init_8 : decode cX9_init 8 = .ok (.dup, 1) := by decide +kernel
theorem dX9_init_9 : decode cX9_init 9 = .ok (.invokespecial 9, 3) := by decide +kernel
theorem dX9_init_12 : decode cX9_init 12 = .ok (.putfield 10, 3) := by decide +kernel
theorem dX9_init_15 : decode cX9_init 15 = .ok (.return_, 1) := by decide +kernel
def bX9_init_0 (f1 : ox_F) (rc : Nat → ox_K) : ox_K := o_al 0 (o_obj (o_al 0 (o_new 4 (o_dup (o_cn f1 0 (o_putr 9 4 (o_ret)))))))
section SX9_init
variable {p : Program} {l : Launch} {e : Env} {R : Room} {s : State} {m : MethodId} {args : Array Value} {below : List Frame} {meth : Method} {c : Code} {g : ox_G} {c0 t0 dp d1 : Nat} {rc : Nat → ox_K} {f1 : ox_F}
set_option maxRecDepth 100000 in
theorem kX9_init_0 (C : ox_C p s m args c g 1 cX9_init RX9) (hr : meth.sig.returnType = none) (hlk : meth.locks = false) (hnm : meth.name = "<init>") (hR : R.frames = dp ∧ R.locals = 60 * dp) (e0 : 1 ≤ dp) (h1 : ox_Sem yX4_init cX4_init 1 none d1 f1) (e1 : d1 + 1 ≤ dp) (hrc : ∀ b, ox_S p l e R s m args below meth c g 1 c0 t0 (ox_QM g below args s c0 t0) b (rc b)) : ox_S p l e R s m args below meth c g 1 c0 t0 (ox_QM g below args s c0 t0) 0 (bX9_init_0 f1 rc) := by
  refine s_aload_n (pc := 0) C dX9_init_0 rfl ?_
  refine s_obj (pc := 1) C wM_X9_1 wO1 wO2 (ox_lv1 hR e0) dX9_init_1 ?_
  refine s_aload_n (pc := 4) C dX9_init_4 rfl ?_
  refine s_new (pc := 5) (q := (RX4, TX4, 2)) C rfl ox_nt4 wX_X9_7 wY_X4 wN_X4 dX9_init_5 ?_
  refine s_dup (pc := 8) C dX9_init_8 ?_
  refine s_cnN (pc := 9) C h1 (by decide +kernel) wI_X4_init wN_X4 wC_X4_init rfl (by decide +kernel) (ox_lv hR e1 (by decide)) dX9_init_9 ?_
  refine s_putr (pc := 12) (j := 4) (q := (RX9, TX9, 5)) C rfl (by decide) rfl (Or.inr ⟨rfl, hnm, rfl⟩) wF_X9_10 dX9_init_12 ?_
  exact s_ret (pc := 15) C hr hlk dX9_init_15
end SX9_init
def bsX9_init (f1 : ox_F) (b : Nat) (rc : Nat → ox_K) : ox_K := if b = 0 then bX9_init_0 f1 rc else ox_no
theorem mX9_init {dp d1 : Nat} {f1 f : ox_F} (e0 : 1 ≤ dp) (h1 : ox_Sem yX4_init cX4_init 1 none d1 f1) (e1 : d1 + 1 ≤ dp) (hf : ∀ as h r, f as h = some r → ox_cs as ≤ 1 ∧ ox_le h r.2 ∧ ∃ n, ox_run (bsX9_init f1) n 0 (lv_args 0 as) [] h = some r) : ox_Sem yX9_init cX9_init 1 none dp f := by
  refine ox_meth (bs := bsX9_init f1) (by decide) hf ?_
  intro p l e R s m args below meth c g c0 t0 C hr hlk hnm hR rc hrc b
  unfold bsX9_init
  refine ox_br (kX9_init_0 C hr hlk hnm hR e0 h1 e1 hrc) ?_
  exact s_no
theorem dX9_isEmpty_0 : decode cX9_isEmpty 0 = .ok (.aload_n 0, 1) := by decide +kernel
theorem dX9_isEmpty_1 : decode cX9_isEmpty 1 = .ok (.getfield 16, 3) := by decide +kernel
theorem dX9_isEmpty_4 : decode cX9_isEmpty 4 = .ok (.ifCond .ne 7, 3) := by decide +kernel
theorem dX9_isEmpty_7 : decode cX9_isEmpty 7 = .ok (.iconst 1, 1) := by decide +kernel
theorem dX9_isEmpty_8 : decode cX9_isEmpty 8 = .ok (.goto 4, 3) := by decide +kernel
theorem dX9_isEmpty_11 : decode cX9_isEmpty 11 = .ok (.iconst 0, 1) := by decide +kernel
theorem dX9_isEmpty_12 : decode cX9_isEmpty 12 = .ok (.ireturn, 1) := by decide +kernel
def bX9_isEmpty_0 (rc : Nat → ox_K) : ox_K := o_al 0 (o_geti 9 0 (o_ifne (rc 11) (o_ic (1) (rc 12))))
def bX9_isEmpty_11 (rc : Nat → ox_K) : ox_K := o_ic (0) (rc 12)
def bX9_isEmpty_12 (rc : Nat → ox_K) : ox_K := o_zret
section SX9_isEmpty
variable {p : Program} {l : Launch} {e : Env} {R : Room} {s : State} {m : MethodId} {args : Array Value} {below : List Frame} {meth : Method} {c : Code} {g : ox_G} {c0 t0 dp  : Nat} {rc : Nat → ox_K}
set_option maxRecDepth 100000 in
theorem kX9_isEmpty_0 (C : ox_C p s m args c g 1 cX9_isEmpty RX9) (hr : meth.sig.returnType = (some .boolean)) (hlk : meth.locks = false) (hnm : meth.name = "isEmpty") (hR : R.frames = dp ∧ R.locals = 60 * dp) (hrc : ∀ b, ox_S p l e R s m args below meth c g 1 c0 t0 (ox_QM g below args s c0 t0) b (rc b)) : ox_S p l e R s m args below meth c g 1 c0 t0 (ox_QM g below args s c0 t0) 0 (bX9_isEmpty_0 rc) := by
  refine s_aload_n (pc := 0) C dX9_isEmpty_0 rfl ?_
  refine s_geti (pc := 1) (j := 0) (q := (RX9, TX9, 5)) C rfl (by decide) rfl wF_X9_16 dX9_isEmpty_1 ?_
  refine s_ifne (pc := 4) 11 C dX9_isEmpty_4 (by decide) (hrc 11) ?_
  refine s_iconst (pc := 7) C dX9_isEmpty_7 (by decide) ?_
  exact s_goto (pc := 8) 12 C dX9_isEmpty_8 (by decide) (hrc 12)
set_option maxRecDepth 100000 in
theorem kX9_isEmpty_11 (C : ox_C p s m args c g 1 cX9_isEmpty RX9) (hr : meth.sig.returnType = (some .boolean)) (hlk : meth.locks = false) (hnm : meth.name = "isEmpty") (hR : R.frames = dp ∧ R.locals = 60 * dp) (hrc : ∀ b, ox_S p l e R s m args below meth c g 1 c0 t0 (ox_QM g below args s c0 t0) b (rc b)) : ox_S p l e R s m args below meth c g 1 c0 t0 (ox_QM g below args s c0 t0) 11 (bX9_isEmpty_11 rc) := by
  refine s_iconst (pc := 11) C dX9_isEmpty_11 (by decide) ?_
  exact hrc 12
set_option maxRecDepth 100000 in
theorem kX9_isEmpty_12 (C : ox_C p s m args c g 1 cX9_isEmpty RX9) (hr : meth.sig.returnType = (some .boolean)) (hlk : meth.locks = false) (hnm : meth.name = "isEmpty") (hR : R.frames = dp ∧ R.locals = 60 * dp) (hrc : ∀ b, ox_S p l e R s m args below meth c g 1 c0 t0 (ox_QM g below args s c0 t0) b (rc b)) : ox_S p l e R s m args below meth c g 1 c0 t0 (ox_QM g below args s c0 t0) 12 (bX9_isEmpty_12 rc) := by
  exact s_zret (pc := 12) C hr (by decide) hlk dX9_isEmpty_12
end SX9_isEmpty
def bsX9_isEmpty (b : Nat) (rc : Nat → ox_K) : ox_K := if b = 0 then bX9_isEmpty_0 rc else if b = 11 then bX9_isEmpty_11 rc else if b = 12 then bX9_isEmpty_12 rc else ox_no
theorem mX9_isEmpty {dp  : Nat} {f : ox_F} (hf : ∀ as h r, f as h = some r → ox_cs as ≤ 1 ∧ ox_le h r.2 ∧ ∃ n, ox_run (bsX9_isEmpty) n 0 (lv_args 0 as) [] h = some r) : ox_Sem yX9_isEmpty cX9_isEmpty 1 (some .boolean) dp f := by
  refine ox_meth (bs := bsX9_isEmpty) (by decide) hf ?_
  intro p l e R s m args below meth c g c0 t0 C hr hlk hnm hR rc hrc b
  unfold bsX9_isEmpty
  refine ox_br (kX9_isEmpty_0 C hr hlk hnm hR hrc) ?_
  refine ox_br (kX9_isEmpty_11 C hr hlk hnm hR hrc) ?_
  refine ox_br (kX9_isEmpty_12 C hr hlk hnm hR hrc) ?_
  exact s_no
theorem dX9_takeIn_0 : decode cX9_takeIn 0 = .ok (.aload_n 0, 1) := by decide +kernel
theorem dX9_takeIn_1 : decode cX9_takeIn 1 = .ok (.invokevirtual 20, 3) := by decide +kernel
theorem dX9_takeIn_4 : decode cX9_takeIn 4 = .ok (.ifCond .eq 13, 3) := by decide +kernel
theorem dX9_takeIn_7 : decode cX9_takeIn 7 = .ok (.aload_n 0, 1) := by decide +kernel
theorem dX9_takeIn_8 : decode cX9_takeIn 8 = .ok (.getfield 10, 3) := by decide +kernel
theorem dX9_takeIn_11 : decode cX9_takeIn 11 = .ok (.bipush 45, 2) := by decide +kernel
theorem dX9_takeIn_13 : decode cX9_takeIn 13 = .ok (.iconst 0, 1) := by decide +kernel
theorem dX9_takeIn_14 : decode cX9_takeIn 14 = .ok (.invokevirtual 24, 3) := by decide +kernel
theorem dX9_takeIn_17 : decode cX9_takeIn 17 = .ok (.aload_n 0, 1) := by decide +kernel
theorem dX9_takeIn_18 : decode cX9_takeIn 18 = .ok (.iload_n 1, 1) := by decide +kernel
theorem dX9_takeIn_19 : decode cX9_takeIn 19 = .ok (.putfield 28, 3) := by decide +kernel
theorem dX9_takeIn_22 : decode cX9_takeIn 22 = .ok (.aload_n 0, 1) := by decide +kernel
theorem dX9_takeIn_23 : decode cX9_takeIn 23 = .ok (.dup, 1) := by decide +kernel
theorem dX9_takeIn_24 : decode cX9_takeIn 24 = .ok (.getfield 16, 3) := by decide +kernel
theorem dX9_takeIn_27 : decode cX9_takeIn 27 = .ok (.iload_n 2, 1) := by decide +kernel
theorem dX9_takeIn_28 : decode cX9_takeIn 28 = .ok (.iadd, 1) := by decide +kernel
theorem dX9_takeIn_29 : decode cX9_takeIn 29 = .ok (.putfield 16, 3) := by decide +kernel
theorem dX9_takeIn_32 : decode cX9_takeIn 32 = .ok (.aload_n 0, 1) := by decide +kernel
theorem dX9_takeIn_33 : decode cX9_takeIn 33 = .ok (.dup, 1) := by decide +kernel
theorem dX9_takeIn_34 : decode cX9_takeIn 34 = .ok (.getfield 31, 3) := by decide +kernel
theorem dX9_takeIn_37 : decode cX9_takeIn 37 = .ok (.iload_n 3, 1) := by decide +kernel
theorem dX9_takeIn_38 : decode cX9_takeIn 38 = .ok (.iadd, 1) := by decide +kernel
theorem dX9_takeIn_39 : decode cX9_takeIn 39 = .ok (.putfield 31, 3) := by decide +kernel
theorem dX9_takeIn_42 : decode cX9_takeIn 42 = .ok (.aload_n 0, 1) := by decide +kernel
theorem dX9_takeIn_43 : decode cX9_takeIn 43 = .ok (.dup, 1) := by decide +kernel
theorem dX9_takeIn_44 : decode cX9_takeIn 44 = .ok (.getfield 34, 3) := by decide +kernel
theorem dX9_takeIn_47 : decode cX9_takeIn 47 = .ok (.iconst 1, 1) := by decide +kernel
theorem dX9_takeIn_48 : decode cX9_takeIn 48 = .ok (.iload 4, 2) := by decide +kernel
theorem dX9_takeIn_50 : decode cX9_takeIn 50 = .ok (.ishl, 1) := by decide +kernel
theorem dX9_takeIn_51 : decode cX9_takeIn 51 = .ok (.ior, 1) := by decide +kernel
theorem dX9_takeIn_52 : decode cX9_takeIn 52 = .ok (.putfield 34, 3) := by decide +kernel
theorem dX9_takeIn_55 : decode cX9_takeIn 55 = .ok (.return_, 1) := by decide +kernel
def bX9_takeIn_0 (f1 f2 : ox_F) (rc : Nat → ox_K) : ox_K := o_al 0 (o_cv f1 9 0 (o_ifeq (rc 17) (o_al 0 (o_getr 9 4 (o_ic (45) (o_ic (0) (o_cv f2 4 2 (rc 17))))))))
def bX9_takeIn_17 (f1 f2 : ox_F) (rc : Nat → ox_K) : ox_K := o_al 0 (o_il 1 (o_puti 9 2 (o_al 0 (o_dup (o_geti 9 0 (o_il 2 (o_iadd (o_puti 9 0 (o_al 0 (o_dup (o_geti 9 1 (o_il 3 (o_iadd (o_puti 9 1 (o_al 0 (o_dup (o_geti 9 3 (o_ic (1) (o_il 4 (o_ishl (o_ior (o_puti 9 3 (o_ret)))))))))))))))))))))))
section SX9_takeIn
variable {p : Program} {l : Launch} {e : Env} {R : Room} {s : State} {m : MethodId} {args : Array Value} {below : List Frame} {meth : Method} {c : Code} {g : ox_G} {c0 t0 dp d1 d2 : Nat} {rc : Nat → ox_K} {f1 f2 : ox_F}
set_option maxRecDepth 100000 in
theorem kX9_takeIn_0 (C : ox_C p s m args c g 5 cX9_takeIn RX9) (hr : meth.sig.returnType = none) (hlk : meth.locks = false) (hnm : meth.name = "takeIn") (hR : R.frames = dp ∧ R.locals = 60 * dp) (h1 : ox_Sem yX9_isEmpty cX9_isEmpty 1 (some .boolean) d1 f1) (e1 : d1 + 1 ≤ dp) (h2 : ox_Sem yX4_begin cX4_begin 3 none d2 f2) (e2 : d2 + 1 ≤ dp) (hrc : ∀ b, ox_S p l e R s m args below meth c g 5 c0 t0 (ox_QM g below args s c0 t0) b (rc b)) : ox_S p l e R s m args below meth c g 5 c0 t0 (ox_QM g below args s c0 t0) 0 (bX9_takeIn_0 f1 f2 rc) := by
  refine s_aload_n (pc := 0) C dX9_takeIn_0 rfl ?_
  refine s_cv (pc := 1) (q := (RX9, TX9, 5)) C h1 rfl wM_X9_20 wI_X9_isEmpty wS_X9_isEmpty wN_X9 wC_X9_isEmpty (by decide +kernel) (ox_lv hR e1 (by decide)) dX9_takeIn_1 ?_
  refine s_ifeq (pc := 4) 17 C dX9_takeIn_4 (by decide) (hrc 17) ?_
  refine s_aload_n (pc := 7) C dX9_takeIn_7 rfl ?_
  refine s_getr (pc := 8) (j := 4) (q := (RX9, TX9, 5)) C rfl (by decide) rfl wF_X9_10 dX9_takeIn_8 ?_
  refine s_bipush (pc := 11) C dX9_takeIn_11 (by decide) ?_
  refine s_iconst (pc := 13) C dX9_takeIn_13 (by decide) ?_
  refine s_cv (pc := 14) (q := (RX4, TX4, 2)) C h2 rfl wM_X9_24 wI_X4_begin wS_X4_begin wN_X4 wC_X4_begin (by decide +kernel) (ox_lv hR e2 (by decide)) dX9_takeIn_14 ?_
  exact hrc 17
set_option maxRecDepth 100000 in
theorem kX9_takeIn_17 (C : ox_C p s m args c g 5 cX9_takeIn RX9) (hr : meth.sig.returnType = none) (hlk : meth.locks = false) (hnm : meth.name = "takeIn") (hR : R.frames = dp ∧ R.locals = 60 * dp) (h1 : ox_Sem yX9_isEmpty cX9_isEmpty 1 (some .boolean) d1 f1) (e1 : d1 + 1 ≤ dp) (h2 : ox_Sem yX4_begin cX4_begin 3 none d2 f2) (e2 : d2 + 1 ≤ dp) (hrc : ∀ b, ox_S p l e R s m args below meth c g 5 c0 t0 (ox_QM g below args s c0 t0) b (rc b)) : ox_S p l e R s m args below meth c g 5 c0 t0 (ox_QM g below args s c0 t0) 17 (bX9_takeIn_17 f1 f2 rc) := by
  refine s_aload_n (pc := 17) C dX9_takeIn_17 rfl ?_
  refine s_iload_n (pc := 18) C dX9_takeIn_18 rfl ?_
  refine s_puti (pc := 19) (j := 2) (q := (RX9, TX9, 5)) C rfl (by decide) rfl (Or.inl rfl) wF_X9_28 dX9_takeIn_19 ?_
  refine s_aload_n (pc := 22) C dX9_takeIn_22 rfl ?_
  refine s_dup (pc := 23) C dX9_takeIn_23 ?_
  refine s_geti (pc := 24) (j := 0) (q := (RX9, TX9, 5)) C rfl (by decide) rfl wF_X9_16 dX9_takeIn_24 ?_
  refine s_iload_n (pc := 27) C dX9_takeIn_27 rfl ?_
  refine s_iadd (pc := 28) C dX9_takeIn_28 ?_
  refine s_puti (pc := 29) (j := 0) (q := (RX9, TX9, 5)) C rfl (by decide) rfl (Or.inl rfl) wF_X9_16 dX9_takeIn_29 ?_
  refine s_aload_n (pc := 32) C dX9_takeIn_32 rfl ?_
  refine s_dup (pc := 33) C dX9_takeIn_33 ?_
  refine s_geti (pc := 34) (j := 1) (q := (RX9, TX9, 5)) C rfl (by decide) rfl wF_X9_31 dX9_takeIn_34 ?_
  refine s_iload_n (pc := 37) C dX9_takeIn_37 rfl ?_
  refine s_iadd (pc := 38) C dX9_takeIn_38 ?_
  refine s_puti (pc := 39) (j := 1) (q := (RX9, TX9, 5)) C rfl (by decide) rfl (Or.inl rfl) wF_X9_31 dX9_takeIn_39 ?_
  refine s_aload_n (pc := 42) C dX9_takeIn_42 rfl ?_
  refine s_dup (pc := 43) C dX9_takeIn_43 ?_
  refine s_geti (pc := 44) (j := 3) (q := (RX9, TX9, 5)) C rfl (by decide) rfl wF_X9_34 dX9_takeIn_44 ?_
  refine s_iconst (pc := 47) C dX9_takeIn_47 (by decide) ?_
  refine s_iload (pc := 48) C dX9_takeIn_48 ?_
  refine s_ishl (pc := 50) C dX9_takeIn_50 ?_
  refine s_ior (pc := 51) C dX9_takeIn_51 ?_
  refine s_puti (pc := 52) (j := 3) (q := (RX9, TX9, 5)) C rfl (by decide) rfl (Or.inl rfl) wF_X9_34 dX9_takeIn_52 ?_
  exact s_ret (pc := 55) C hr hlk dX9_takeIn_55
end SX9_takeIn
def bsX9_takeIn (f1 f2 : ox_F) (b : Nat) (rc : Nat → ox_K) : ox_K := if b = 0 then bX9_takeIn_0 f1 f2 rc else if b = 17 then bX9_takeIn_17 f1 f2 rc else ox_no
theorem mX9_takeIn {dp d1 d2 : Nat} {f1 f2 f : ox_F} (h1 : ox_Sem yX9_isEmpty cX9_isEmpty 1 (some .boolean) d1 f1) (e1 : d1 + 1 ≤ dp) (h2 : ox_Sem yX4_begin cX4_begin 3 none d2 f2) (e2 : d2 + 1 ≤ dp) (hf : ∀ as h r, f as h = some r → ox_cs as ≤ 5 ∧ ox_le h r.2 ∧ ∃ n, ox_run (bsX9_takeIn f1 f2) n 0 (lv_args 0 as) [] h = some r) : ox_Sem yX9_takeIn cX9_takeIn 5 none dp f := by
  refine ox_meth (bs := bsX9_takeIn f1 f2) (by decide) hf ?_
  intro p l e R s m args below meth c g c0 t0 C hr hlk hnm hR rc hrc b
  unfold bsX9_takeIn
  refine ox_br (kX9_takeIn_0 C hr hlk hnm hR h1 e1 h2 e2 hrc) ?_
  refine ox_br (kX9_takeIn_17 C hr hlk hnm hR h1 e1 h2 e2 hrc) ?_
  exact s_no
theorem dX9_giveOut_0 : decode cX9_giveOut 0 = .ok (.aload_n 0, 1) := by decide +kernel
theorem dX9_giveOut_1 : decode cX9_giveOut 1 = .ok (.getfield 16, 3) := by decide +kernel
theorem dX9_giveOut_4 : decode cX9_giveOut 4 = .ok (.iload_n 1, 1) := by decide +kernel
theorem dX9_giveOut_5 : decode cX9_giveOut 5 = .ok (.if_icmp .gt 19, 3) := by decide +kernel
theorem dX9_giveOut_8 : decode cX9_giveOut 8 = .ok (.aload_n 0, 1) := by decide +kernel
theorem dX9_giveOut_9 : decode cX9_giveOut 9 = .ok (.iconst 0, 1) := by decide +kernel
theorem dX9_giveOut_10 : decode cX9_giveOut 10 = .ok (.putfield 16, 3) := by decide +kernel
theorem dX9_giveOut_13 : decode cX9_giveOut 13 = .ok (.aload_n 0, 1) := by decide +kernel
theorem dX9_giveOut_14 : decode cX9_giveOut 14 = .ok (.iconst 0, 1) := by decide +kernel
theorem dX9_giveOut_15 : decode cX9_giveOut 15 = .ok (.putfield 31, 3) := by decide +kernel
theorem dX9_giveOut_18 : decode cX9_giveOut 18 = .ok (.aload_n 0, 1) := by decide +kernel
theorem dX9_giveOut_19 : decode cX9_giveOut 19 = .ok (.iconst 0, 1) := by decide +kernel
theorem dX9_giveOut_20 : decode cX9_giveOut 20 = .ok (.putfield 34, 3) := by decide +kernel
theorem dX9_giveOut_23 : decode cX9_giveOut 23 = .ok (.return_, 1) := by decide +kernel
theorem dX9_giveOut_24 : decode cX9_giveOut 24 = .ok (.aload_n 0, 1) := by decide +kernel
theorem dX9_giveOut_25 : decode cX9_giveOut 25 = .ok (.dup, 1) := by decide +kernel
theorem dX9_giveOut_26 : decode cX9_giveOut 26 = .ok (.getfield 31, 3) := by decide +kernel
theorem dX9_giveOut_29 : decode cX9_giveOut 29 = .ok (.aload_n 0, 1) := by decide +kernel
theorem dX9_giveOut_30 : decode cX9_giveOut 30 = .ok (.getfield 31, 3) := by decide +kernel
theorem dX9_giveOut_33 : decode cX9_giveOut 33 = .ok (.iload_n 1, 1) := by decide +kernel
theorem dX9_giveOut_34 : decode cX9_giveOut 34 = .ok (.imul, 1) := by decide +kernel
theorem dX9_giveOut_35 : decode cX9_giveOut 35 = .ok (.aload_n 0, 1) := by decide +kernel
theorem dX9_giveOut_36 : decode cX9_giveOut 36 = .ok (.getfield 16, 3) := by decide +kernel
theorem dX9_giveOut_39 : decode cX9_giveOut 39 = .ok (.idiv, 1) := by decide +kernel
theorem dX9_giveOut_40 : decode cX9_giveOut 40 = .ok (.isub, 1) := by decide +kernel
theorem dX9_giveOut_41 : decode cX9_giveOut 41 = .ok (.putfield 31, 3) := by decide +kernel
theorem dX9_giveOut_44 : decode cX9_giveOut 44 = .ok (.aload_n 0, 1) := by decide +kernel
theorem dX9_giveOut_45 : decode cX9_giveOut 45 = .ok (.dup, 1) := by decide +kernel
theorem dX9_giveOut_46 : decode cX9_giveOut 46 = .ok (.getfield 16, 3) := by decide +kernel
theorem dX9_giveOut_49 : decode cX9_giveOut 49 = .ok (.iload_n 1, 1) := by decide +kernel
theorem dX9_giveOut_50 : decode cX9_giveOut 50 = .ok (.isub, 1) := by decide +kernel
theorem dX9_giveOut_51 : decode cX9_giveOut 51 = .ok (.putfield 16, 3) := by decide +kernel
theorem dX9_giveOut_54 : decode cX9_giveOut 54 = .ok (.return_, 1) := by decide +kernel
def bX9_giveOut_0 (rc : Nat → ox_K) : ox_K := o_al 0 (o_geti 9 0 (o_il 1 (o_icgt (rc 24) (o_al 0 (o_ic (0) (o_puti 9 0 (o_al 0 (o_ic (0) (o_puti 9 1 (o_al 0 (o_ic (0) (o_puti 9 3 (o_ret)))))))))))))
def bX9_giveOut_24 (rc : Nat → ox_K) : ox_K := o_al 0 (o_dup (o_geti 9 1 (o_al 0 (o_geti 9 1 (o_il 1 (o_imul (o_al 0 (o_geti 9 0 (o_idiv (o_isub (o_puti 9 1 (o_al 0 (o_dup (o_geti 9 0 (o_il 1 (o_isub (o_puti 9 0 (o_ret))))))))))))))))))
section SX9_giveOut
variable {p : Program} {l : Launch} {e : Env} {R : Room} {s : State} {m : MethodId} {args : Array Value} {below : List Frame} {meth : Method} {c : Code} {g : ox_G} {c0 t0 dp  : Nat} {rc : Nat → ox_K}
set_option maxRecDepth 100000 in
theorem kX9_giveOut_0 (C : ox_C p s m args c g 2 cX9_giveOut RX9) (hr : meth.sig.returnType = none) (hlk : meth.locks = false) (hnm : meth.name = "giveOut") (hR : R.frames = dp ∧ R.locals = 60 * dp) (hrc : ∀ b, ox_S p l e R s m args below meth c g 2 c0 t0 (ox_QM g below args s c0 t0) b (rc b)) : ox_S p l e R s m args below meth c g 2 c0 t0 (ox_QM g below args s c0 t0) 0 (bX9_giveOut_0 rc) := by
  refine s_aload_n (pc := 0) C dX9_giveOut_0 rfl ?_
  refine s_geti (pc := 1) (j := 0) (q := (RX9, TX9, 5)) C rfl (by decide) rfl wF_X9_16 dX9_giveOut_1 ?_
  refine s_iload_n (pc := 4) C dX9_giveOut_4 rfl ?_
  refine s_icmpgt (pc := 5) 24 C dX9_giveOut_5 (by decide) (hrc 24) ?_
  refine s_aload_n (pc := 8) C dX9_giveOut_8 rfl ?_
  refine s_iconst (pc := 9) C dX9_giveOut_9 (by decide) ?_
  refine s_puti (pc := 10) (j := 0) (q := (RX9, TX9, 5)) C rfl (by decide) rfl (Or.inl rfl) wF_X9_16 dX9_giveOut_10 ?_
  refine s_aload_n (pc := 13) C dX9_giveOut_13 rfl ?_
  refine s_iconst (pc := 14) C dX9_giveOut_14 (by decide) ?_
  refine s_puti (pc := 15) (j := 1) (q := (RX9, TX9, 5)) C rfl (by decide) rfl (Or.inl rfl) wF_X9_31 dX9_giveOut_15 ?_
  refine s_aload_n (pc := 18) C dX9_giveOut_18 rfl ?_
  refine s_iconst (pc := 19) C dX9_giveOut_19 (by decide) ?_
  refine s_puti (pc := 20) (j := 3) (q := (RX9, TX9, 5)) C rfl (by decide) rfl (Or.inl rfl) wF_X9_34 dX9_giveOut_20 ?_
  exact s_ret (pc := 23) C hr hlk dX9_giveOut_23
set_option maxRecDepth 100000 in
theorem kX9_giveOut_24 (C : ox_C p s m args c g 2 cX9_giveOut RX9) (hr : meth.sig.returnType = none) (hlk : meth.locks = false) (hnm : meth.name = "giveOut") (hR : R.frames = dp ∧ R.locals = 60 * dp) (hrc : ∀ b, ox_S p l e R s m args below meth c g 2 c0 t0 (ox_QM g below args s c0 t0) b (rc b)) : ox_S p l e R s m args below meth c g 2 c0 t0 (ox_QM g below args s c0 t0) 24 (bX9_giveOut_24 rc) := by
  refine s_aload_n (pc := 24) C dX9_giveOut_24 rfl ?_
  refine s_dup (pc := 25) C dX9_giveOut_25 ?_
  refine s_geti (pc := 26) (j := 1) (q := (RX9, TX9, 5)) C rfl (by decide) rfl wF_X9_31 dX9_giveOut_26 ?_
  refine s_aload_n (pc := 29) C dX9_giveOut_29 rfl ?_
  refine s_geti (pc := 30) (j := 1) (q := (RX9, TX9, 5)) C rfl (by decide) rfl wF_X9_31 dX9_giveOut_30 ?_
  refine s_iload_n (pc := 33) C dX9_giveOut_33 rfl ?_
  refine s_imul (pc := 34) C dX9_giveOut_34 ?_
  refine s_aload_n (pc := 35) C dX9_giveOut_35 rfl ?_
  refine s_geti (pc := 36) (j := 0) (q := (RX9, TX9, 5)) C rfl (by decide) rfl wF_X9_16 dX9_giveOut_36 ?_
  refine s_idiv (pc := 39) C dX9_giveOut_39 ?_
  refine s_isub (pc := 40) C dX9_giveOut_40 ?_
  refine s_puti (pc := 41) (j := 1) (q := (RX9, TX9, 5)) C rfl (by decide) rfl (Or.inl rfl) wF_X9_31 dX9_giveOut_41 ?_
  refine s_aload_n (pc := 44) C dX9_giveOut_44 rfl ?_
  refine s_dup (pc := 45) C dX9_giveOut_45 ?_
  refine s_geti (pc := 46) (j := 0) (q := (RX9, TX9, 5)) C rfl (by decide) rfl wF_X9_16 dX9_giveOut_46 ?_
  refine s_iload_n (pc := 49) C dX9_giveOut_49 rfl ?_
  refine s_isub (pc := 50) C dX9_giveOut_50 ?_
  refine s_puti (pc := 51) (j := 0) (q := (RX9, TX9, 5)) C rfl (by decide) rfl (Or.inl rfl) wF_X9_16 dX9_giveOut_51 ?_
  exact s_ret (pc := 54) C hr hlk dX9_giveOut_54
end SX9_giveOut
def bsX9_giveOut (b : Nat) (rc : Nat → ox_K) : ox_K := if b = 0 then bX9_giveOut_0 rc else if b = 24 then bX9_giveOut_24 rc else ox_no
theorem mX9_giveOut {dp  : Nat} {f : ox_F} (hf : ∀ as h r, f as h = some r → ox_cs as ≤ 2 ∧ ox_le h r.2 ∧ ∃ n, ox_run (bsX9_giveOut) n 0 (lv_args 0 as) [] h = some r) : ox_Sem yX9_giveOut cX9_giveOut 2 none dp f := by
  refine ox_meth (bs := bsX9_giveOut) (by decide) hf ?_
  intro p l e R s m args below meth c g c0 t0 C hr hlk hnm hR rc hrc b
  unfold bsX9_giveOut
  refine ox_br (kX9_giveOut_0 C hr hlk hnm hR hrc) ?_
  refine ox_br (kX9_giveOut_24 C hr hlk hnm hR hrc) ?_
  exact s_no
