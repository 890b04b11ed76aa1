theorem dX5_init_0 : decode cX5_init 0 = .ok (.aload_n 0, 1) := by decide +kernel
theorem dX5_init_1 : decode cX5_init 1 = .ok (.invokespecial 1, 3) := by decide +kernel
theorem dX5_init_4 : decode cX5_init 4 = .ok (.return_, 1) := by decide +kernel
def bX5_init_0 (rc : Nat → ox_K) : ox_K := o_al 0 (o_obj (o_ret))
section SX5_init
variable {p : Program} {l : Launch} {e : Env} {R : Room} {s : State} {m : MethodId} {args : Array Value} {below : List Frame} {meth : Method} {c : Code} {g : ox_G} {c0 t0 dp  : Nat} {rc : Nat → ox_K}
set_option maxRecDepth 100000 in
theorem kX5_init_0 (C : ox_C p s m args c g 1 cX5_init RX5) (hr : meth.sig.returnType = none) (hlk : meth.locks = false) (hnm : meth.name = "<init>") (hR : R.frames = dp ∧ R.locals = 60 * dp) (e0 : 1 ≤ dp) (hrc : ∀ b, ox_S p l e R s m args below meth c g 1 c0 t0 (ox_QM g below args s c0 t0) b (rc b)) : ox_S p l e R s m args below meth c g 1 c0 t0 (ox_QM g below args s c0 t0) 0 (bX5_init_0 rc) := by
  refine s_aload_n (pc := 0) C dX5_init_0 rfl ?_
  refine s_obj (pc := 1) C wM_X5_1 wO1 wO2 (ox_lv1 hR e0) dX5_init_1 ?_
  exact s_ret (pc := 4) C hr hlk dX5_init_4
end SX5_init
def bsX5_init (b : Nat) (rc : Nat → ox_K) : ox_K := if b = 0 then bX5_init_0 rc else ox_no
theorem mX5_init {dp  : Nat} {f : ox_F} (e0 : 1 ≤ dp) (hf : ∀ as h r, f as h = some r → ox_cs as ≤ 1 ∧ ox_le h r.2 ∧ ∃ n, ox_run (bsX5_init) n 0 (lv_args 0 as) [] h = some r) : ox_Sem yX5_init cX5_init 1 none dp f := by
  refine ox_meth (bs := bsX5_init) (by decide) hf ?_
  intro p l e R s m args below meth c g c0 t0 C hr hlk hnm hR rc hrc b
  unfold bsX5_init
  refine ox_br (kX5_init_0 C hr hlk hnm hR e0 hrc) ?_
  exact s_no
theorem dX5_isEmpty_0 : decode cX5_isEmpty 0 = .ok (.aload_n 0, 1) := by decide +kernel
theorem dX5_isEmpty_1 : decode cX5_isEmpty 1 = .ok (.getfield 7, 3) := by decide +kernel
theorem dX5_isEmpty_4 : decode cX5_isEmpty 4 = .ok (.ifCond .ne 7, 3) := by decide +kernel
theorem dX5_isEmpty_7 : decode cX5_isEmpty 7 = .ok (.iconst 1, 1) := by decide +kernel
theorem dX5_isEmpty_8 : decode cX5_isEmpty 8 = .ok (.goto 4, 3) := by decide +kernel
theorem dX5_isEmpty_11 : decode cX5_isEmpty 11 = .ok (.iconst 0, 1) := by decide +kernel
theorem dX5_isEmpty_12 : decode cX5_isEmpty 12 = .ok (.ireturn, 1) := by decide +kernel
def bX5_isEmpty_0 (rc : Nat → ox_K) : ox_K := o_al 0 (o_geti 5 0 (o_ifne (rc 11) (o_ic (1) (rc 12))))
def bX5_isEmpty_11 (rc : Nat → ox_K) : ox_K := o_ic (0) (rc 12)
def bX5_isEmpty_12 (rc : Nat → ox_K) : ox_K := o_zret
section SX5_isEmpty
variable {p : Program} {l : Launch} {e : Env} {R : Room} {s : State} {m : MethodId} {args : Array Value} {below : List Frame} {meth : Method} {c : Code} {g : ox_G} {c0 t0 dp  : Nat} {rc : Nat → ox_K}
set_option maxRecDepth 100000 in
theorem kX5_isEmpty_0 (C : ox_C p s m args c g 1 cX5_isEmpty RX5) (hr : meth.sig.returnType = (some .boolean)) (hlk : meth.locks = false) (hnm : meth.name = "isEmpty") (hR : R.frames = dp ∧ R.locals = 60 * dp) (hrc : ∀ b, ox_S p l e R s m args below meth c g 1 c0 t0 (ox_QM g below args s c0 t0) b (rc b)) : ox_S p l e R s m args below meth c g 1 c0 t0 (ox_QM g below args s c0 t0) 0 (bX5_isEmpty_0 rc) := by
  refine s_aload_n (pc := 0) C dX5_isEmpty_0 rfl ?_
  refine s_geti (pc := 1) (j := 0) (q := (RX5, TX5, 8)) C rfl (by decide) rfl wF_X5_7 dX5_isEmpty_1 ?_
  refine s_ifne (pc := 4) 11 C dX5_isEmpty_4 (by decide) (hrc 11) ?_
  refine s_iconst (pc := 7) C dX5_isEmpty_7 (by decide) ?_
  exact s_goto (pc := 8) 12 C dX5_isEmpty_8 (by decide) (hrc 12)
set_option maxRecDepth 100000 in
theorem kX5_isEmpty_11 (C : ox_C p s m args c g 1 cX5_isEmpty RX5) (hr : meth.sig.returnType = (some .boolean)) (hlk : meth.locks = false) (hnm : meth.name = "isEmpty") (hR : R.frames = dp ∧ R.locals = 60 * dp) (hrc : ∀ b, ox_S p l e R s m args below meth c g 1 c0 t0 (ox_QM g below args s c0 t0) b (rc b)) : ox_S p l e R s m args below meth c g 1 c0 t0 (ox_QM g below args s c0 t0) 11 (bX5_isEmpty_11 rc) := by
  refine s_iconst (pc := 11) C dX5_isEmpty_11 (by decide) ?_
  exact hrc 12
set_option maxRecDepth 100000 in
theorem kX5_isEmpty_12 (C : ox_C p s m args c g 1 cX5_isEmpty RX5) (hr : meth.sig.returnType = (some .boolean)) (hlk : meth.locks = false) (hnm : meth.name = "isEmpty") (hR : R.frames = dp ∧ R.locals = 60 * dp) (hrc : ∀ b, ox_S p l e R s m args below meth c g 1 c0 t0 (ox_QM g below args s c0 t0) b (rc b)) : ox_S p l e R s m args below meth c g 1 c0 t0 (ox_QM g below args s c0 t0) 12 (bX5_isEmpty_12 rc) := by
  exact s_zret (pc := 12) C hr (by decide) hlk dX5_isEmpty_12
end SX5_isEmpty
def bsX5_isEmpty (b : Nat) (rc : Nat → ox_K) : ox_K := if b = 0 then bX5_isEmpty_0 rc else if b = 11 then bX5_isEmpty_11 rc else if b = 12 then bX5_isEmpty_12 rc else ox_no
theorem mX5_isEmpty {dp  : Nat} {f : ox_F} (hf : ∀ as h r, f as h = some r → ox_cs as ≤ 1 ∧ ox_le h r.2 ∧ ∃ n, ox_run (bsX5_isEmpty) n 0 (lv_args 0 as) [] h = some r) : ox_Sem yX5_isEmpty cX5_isEmpty 1 (some .boolean) dp f := by
  refine ox_meth (bs := bsX5_isEmpty) (by decide) hf ?_
  intro p l e R s m args below meth c g c0 t0 C hr hlk hnm hR rc hrc b
  unfold bsX5_isEmpty
  refine ox_br (kX5_isEmpty_0 C hr hlk hnm hR hrc) ?_
  refine ox_br (kX5_isEmpty_11 C hr hlk hnm hR hrc) ?_
  refine ox_br (kX5_isEmpty_12 C hr hlk hnm hR hrc) ?_
  exact s_no
theorem dX5_takeFrom_0 : decode cX5_takeFrom 0 = .ok (.aload_n 0, 1) := by decide +kernel
theorem dX5_takeFrom_1 : decode cX5_takeFrom 1 = .ok (.iload_n 2, 1) := by decide +kernel
theorem dX5_takeFrom_2 : decode cX5_takeFrom 2 = .ok (.putfield 7, 3) := by decide +kernel
theorem dX5_takeFrom_5 : decode cX5_takeFrom 5 = .ok (.aload_n 0, 1) := by decide +kernel
theorem dX5_takeFrom_6 : decode cX5_takeFrom 6 = .ok (.iconst 0, 1) := by decide +kernel
theorem dX5_takeFrom_7 : decode cX5_takeFrom 7 = .ok (.putfield 13, 3) := by decide +kernel
theorem dX5_takeFrom_10 : decode cX5_takeFrom 10 = .ok (.aload_n 0, 1) := by decide +kernel
theorem dX5_takeFrom_11 : decode cX5_takeFrom 11 = .ok (.aload_n 1, 1) := by decide +kernel
theorem dX5_takeFrom_12 : decode cX5_takeFrom 12 = .ok (.getfield 16, 3) := by decide +kernel
theorem dX5_takeFrom_15 : decode cX5_takeFrom 15 = .ok (.putfield 21, 3) := by decide +kernel
theorem dX5_takeFrom_18 : decode cX5_takeFrom 18 = .ok (.aload_n 0, 1) := by decide +kernel
theorem dX5_takeFrom_19 : decode cX5_takeFrom 19 = .ok (.aload_n 1, 1) := by decide +kernel
theorem dX5_takeFrom_20 : decode cX5_takeFrom 20 = .ok (.getfield 22, 3) := by decide +kernel
theorem dX5_takeFrom_23 : decode cX5_takeFrom 23 = .ok (.putfield 25, 3) := by decide +kernel
theorem dX5_takeFrom_26 : decode cX5_takeFrom 26 = .ok (.aload_n 0, 1) := by decide +kernel
theorem dX5_takeFrom_27 : decode cX5_takeFrom 27 = .ok (.aload_n 1, 1) := by decide +kernel
theorem dX5_takeFrom_28 : decode cX5_takeFrom 28 = .ok (.getfield 26, 3) := by decide +kernel
theorem dX5_takeFrom_31 : decode cX5_takeFrom 31 = .ok (.getfield 30, 3) := by decide +kernel
theorem dX5_takeFrom_34 : decode cX5_takeFrom 34 = .ok (.putfield 35, 3) := by decide +kernel
theorem dX5_takeFrom_37 : decode cX5_takeFrom 37 = .ok (.aload_n 0, 1) := by decide +kernel
theorem dX5_takeFrom_38 : decode cX5_takeFrom 38 = .ok (.aload_n 1, 1) := by decide +kernel
theorem dX5_takeFrom_39 : decode cX5_takeFrom 39 = .ok (.getfield 26, 3) := by decide +kernel
theorem dX5_takeFrom_42 : decode cX5_takeFrom 42 = .ok (.invokevirtual 36, 3) := by decide +kernel
theorem dX5_takeFrom_45 : decode cX5_takeFrom 45 = .ok (.iconst 1, 1) := by decide +kernel
theorem dX5_takeFrom_46 : decode cX5_takeFrom 46 = .ok (.if_icmp .ne 7, 3) := by decide +kernel
theorem dX5_takeFrom_49 : decode cX5_takeFrom 49 = .ok (.iconst 1, 1) := by decide +kernel
theorem dX5_takeFrom_50 : decode cX5_takeFrom 50 = .ok (.goto 4, 3) := by decide +kernel
theorem dX5_takeFrom_53 : decode cX5_takeFrom 53 = .ok (.iconst 0, 1) := by decide +kernel
theorem dX5_takeFrom_54 : decode cX5_takeFrom 54 = .ok (.putfield 40, 3) := by decide +kernel
theorem dX5_takeFrom_57 : decode cX5_takeFrom 57 = .ok (.aload_n 0, 1) := by decide +kernel
theorem dX5_takeFrom_58 : decode cX5_takeFrom 58 = .ok (.iconst 0, 1) := by decide +kernel
theorem dX5_takeFrom_59 : decode cX5_takeFrom 59 = .ok (.putfield 44, 3) := by decide +kernel
theorem dX5_takeFrom_62 : decode cX5_takeFrom 62 = .ok (.aload_n 0, 1) := by decide +kernel
theorem dX5_takeFrom_63 : decode cX5_takeFrom 63 = .ok (.iconst 0, 1) := by decide +kernel
theorem dX5_takeFrom_64 : decode cX5_takeFrom 64 = .ok (.putfield 47, 3) := by decide +kernel
theorem dX5_takeFrom_67 : decode cX5_takeFrom 67 = .ok (.aload_n 1, 1) := by decide +kernel
theorem dX5_takeFrom_68 : decode cX5_takeFrom 68 = .ok (.iload_n 2, 1) := by decide +kernel
theorem dX5_takeFrom_69 : decode cX5_takeFrom 69 = .ok (.invokevirtual 50, 3) := by decide +kernel
theorem dX5_takeFrom_72 : decode cX5_takeFrom 72 = .ok (.return_, 1) := by decide +kernel
def bX5_takeFrom_0 (f1 f2 : ox_F) (rc : Nat → ox_K) : ox_K := o_al 0 (o_il 2 (o_puti 5 0 (o_al 0 (o_ic (0) (o_puti 5 1 (o_al 0 (o_al 1 (o_geti 9 2 (o_puti 5 2 (o_al 0 (o_al 1 (o_geti 9 3 (o_puti 5 3 (o_al 0 (o_al 1 (o_getr 9 4 (o_geti 4 0 (o_puti 5 4 (o_al 0 (o_al 1 (o_getr 9 4 (o_cv f1 4 0 (o_ic (1) (o_icne (rc 53) (o_ic (1) (rc 54))))))))))))))))))))))))))
def bX5_takeFrom_53 (f1 f2 : ox_F) (rc : Nat → ox_K) : ox_K := o_ic (0) (rc 54)
def bX5_takeFrom_54 (f1 f2 : ox_F) (rc : Nat → ox_K) : ox_K := o_putz 5 5 (o_al 0 (o_ic (0) (o_putz 5 6 (o_al 0 (o_ic (0) (o_putz 5 7 (o_al 1 (o_il 2 (o_cv f2 9 1 (o_ret))))))))))
section SX5_takeFrom
variable {p : Program} {l : Launch} {e : Env} {R : Room} {s : State} {m : MethodId} {args : Array Value} {below : List Frame} {meth : Method} {c : Code} {g : ox_G} {c0 t0 dp d1 d2 : Nat} {rc : Nat → ox_K} {f1 f2 : ox_F}
set_option maxRecDepth 100000 in
theorem kX5_takeFrom_0 (C : ox_C p s m args c g 3 cX5_takeFrom RX5) (hr : meth.sig.returnType = none) (hlk : meth.locks = false) (hnm : meth.name = "takeFrom") (hR : R.frames = dp ∧ R.locals = 60 * dp) (h1 : ox_Sem yX4_state cX4_state 1 (some .int) d1 f1) (e1 : d1 + 1 ≤ dp) (h2 : ox_Sem yX9_giveOut cX9_giveOut 2 none d2 f2) (e2 : d2 + 1 ≤ dp) (hrc : ∀ b, ox_S p l e R s m args below meth c g 3 c0 t0 (ox_QM g below args s c0 t0) b (rc b)) : ox_S p l e R s m args below meth c g 3 c0 t0 (ox_QM g below args s c0 t0) 0 (bX5_takeFrom_0 f1 f2 rc) := by
  refine s_aload_n (pc := 0) C dX5_takeFrom_0 rfl ?_
  refine s_iload_n (pc := 1) C dX5_takeFrom_1 rfl ?_
  refine s_puti (pc := 2) (j := 0) (q := (RX5, TX5, 8)) C rfl (by decide) rfl (Or.inl rfl) wF_X5_7 dX5_takeFrom_2 ?_
  refine s_aload_n (pc := 5) C dX5_takeFrom_5 rfl ?_
  refine s_iconst (pc := 6) C dX5_takeFrom_6 (by decide) ?_
  refine s_puti (pc := 7) (j := 1) (q := (RX5, TX5, 8)) C rfl (by decide) rfl (Or.inl rfl) wF_X5_13 dX5_takeFrom_7 ?_
  refine s_aload_n (pc := 10) C dX5_takeFrom_10 rfl ?_
  refine s_aload_n (pc := 11) C dX5_takeFrom_11 rfl ?_
  refine s_geti (pc := 12) (j := 2) (q := (RX9, TX9, 5)) C rfl (by decide) rfl wF_X5_16 dX5_takeFrom_12 ?_
  refine s_puti (pc := 15) (j := 2) (q := (RX5, TX5, 8)) C rfl (by decide) rfl (Or.inl rfl) wF_X5_21 dX5_takeFrom_15 ?_
  refine s_aload_n (pc := 18) C dX5_takeFrom_18 rfl ?_
  refine s_aload_n (pc := 19) C dX5_takeFrom_19 rfl ?_
  refine s_geti (pc := 20) (j := 3) (q := (RX9, TX9, 5)) C rfl (by decide) rfl wF_X5_22 dX5_takeFrom_20 ?_
  refine s_puti (pc := 23) (j := 3) (q := (RX5, TX5, 8)) C rfl (by decide) rfl (Or.inl rfl) wF_X5_25 dX5_takeFrom_23 ?_
  refine s_aload_n (pc := 26) C dX5_takeFrom_26 rfl ?_
  refine s_aload_n (pc := 27) C dX5_takeFrom_27 rfl ?_
  refine s_getr (pc := 28) (j := 4) (q := (RX9, TX9, 5)) C rfl (by decide) rfl wF_X5_26 dX5_takeFrom_28 ?_
  refine s_geti (pc := 31) (j := 0) (q := (RX4, TX4, 2)) C rfl (by decide) rfl wF_X5_30 dX5_takeFrom_31 ?_
  refine s_puti (pc := 34) (j := 4) (q := (RX5, TX5, 8)) C rfl (by decide) rfl (Or.inl rfl) wF_X5_35 dX5_takeFrom_34 ?_
  refine s_aload_n (pc := 37) C dX5_takeFrom_37 rfl ?_
  refine s_aload_n (pc := 38) C dX5_takeFrom_38 rfl ?_
  refine s_getr (pc := 39) (j := 4) (q := (RX9, TX9, 5)) C rfl (by decide) rfl wF_X5_26 dX5_takeFrom_39 ?_
  refine s_cv (pc := 42) (q := (RX4, TX4, 2)) C h1 rfl wM_X5_36 wI_X4_state wS_X4_state wN_X4 wC_X4_state (by decide +kernel) (ox_lv hR e1 (by decide)) dX5_takeFrom_42 ?_
  refine s_iconst (pc := 45) C dX5_takeFrom_45 (by decide) ?_
  refine s_icmpne (pc := 46) 53 C dX5_takeFrom_46 (by decide) (hrc 53) ?_
  refine s_iconst (pc := 49) C dX5_takeFrom_49 (by decide) ?_
  exact s_goto (pc := 50) 54 C dX5_takeFrom_50 (by decide) (hrc 54)
set_option maxRecDepth 100000 in
theorem kX5_takeFrom_53 (C : ox_C p s m args c g 3 cX5_takeFrom RX5) (hr : meth.sig.returnType = none) (hlk : meth.locks = false) (hnm : meth.name = "takeFrom") (hR : R.frames = dp ∧ R.locals = 60 * dp) (h1 : ox_Sem yX4_state cX4_state 1 (some .int) d1 f1) (e1 : d1 + 1 ≤ dp) (h2 : ox_Sem yX9_giveOut cX9_giveOut 2 none d2 f2) (e2 : d2 + 1 ≤ dp) (hrc : ∀ b, ox_S p l e R s m args below meth c g 3 c0 t0 (ox_QM g below args s c0 t0) b (rc b)) : ox_S p l e R s m args below meth c g 3 c0 t0 (ox_QM g below args s c0 t0) 53 (bX5_takeFrom_53 f1 f2 rc) := by
  refine s_iconst (pc := 53) C dX5_takeFrom_53 (by decide) ?_
  exact hrc 54
set_option maxRecDepth 100000 in
theorem kX5_takeFrom_54 (C : ox_C p s m args c g 3 cX5_takeFrom RX5) (hr : meth.sig.returnType = none) (hlk : meth.locks = false) (hnm : meth.name = "takeFrom") (hR : R.frames = dp ∧ R.locals = 60 * dp) (h1 : ox_Sem yX4_state cX4_state 1 (some .int) d1 f1) (e1 : d1 + 1 ≤ dp) (h2 : ox_Sem yX9_giveOut cX9_giveOut 2 none d2 f2) (e2 : d2 + 1 ≤ dp) (hrc : ∀ b, ox_S p l e R s m args below meth c g 3 c0 t0 (ox_QM g below args s c0 t0) b (rc b)) : ox_S p l e R s m args below meth c g 3 c0 t0 (ox_QM g below args s c0 t0) 54 (bX5_takeFrom_54 f1 f2 rc) := by
  refine s_putz (pc := 54) (j := 5) (q := (RX5, TX5, 8)) C rfl (by decide) rfl (Or.inl rfl) wF_X5_40 dX5_takeFrom_54 ?_
  refine s_aload_n (pc := 57) C dX5_takeFrom_57 rfl ?_
  refine s_iconst (pc := 58) C dX5_takeFrom_58 (by decide) ?_
  refine s_putz (pc := 59) (j := 6) (q := (RX5, TX5, 8)) C rfl (by decide) rfl (Or.inl rfl) wF_X5_44 dX5_takeFrom_59 ?_
  refine s_aload_n (pc := 62) C dX5_takeFrom_62 rfl ?_
  refine s_iconst (pc := 63) C dX5_takeFrom_63 (by decide) ?_
  refine s_putz (pc := 64) (j := 7) (q := (RX5, TX5, 8)) C rfl (by decide) rfl (Or.inl rfl) wF_X5_47 dX5_takeFrom_64 ?_
  refine s_aload_n (pc := 67) C dX5_takeFrom_67 rfl ?_
  refine s_iload_n (pc := 68) C dX5_takeFrom_68 rfl ?_
  refine s_cv (pc := 69) (q := (RX9, TX9, 5)) C h2 rfl wM_X5_50 wI_X9_giveOut wS_X9_giveOut wN_X9 wC_X9_giveOut (by decide +kernel) (ox_lv hR e2 (by decide)) dX5_takeFrom_69 ?_
  exact s_ret (pc := 72) C hr hlk dX5_takeFrom_72
end SX5_takeFrom
def bsX5_takeFrom (f1 f2 : ox_F) (b : Nat) (rc : Nat → ox_K) : ox_K := if b = 0 then bX5_takeFrom_0 f1 f2 rc else if b = 53 then bX5_takeFrom_53 f1 f2 rc else if b = 54 then bX5_takeFrom_54 f1 f2 rc else ox_no
theorem mX5_takeFrom {dp d1 d2 : Nat} {f1 f2 f : ox_F} (h1 : ox_Sem yX4_state cX4_state 1 (some .int) d1 f1) (e1 : d1 + 1 ≤ dp) (h2 : ox_Sem yX9_giveOut cX9_giveOut 2 none d2 f2) (e2 : d2 + 1 ≤ dp) (hf : ∀ as h r, f as h = some r → ox_cs as ≤ 3 ∧ ox_le h r.2 ∧ ∃ n, ox_run (bsX5_takeFrom f1 f2) n 0 (lv_args 0 as) [] h = some r) : ox_Sem yX5_takeFrom cX5_takeFrom 3 none dp f := by
  refine ox_meth (bs := bsX5_takeFrom f1 f2) (by decide) hf ?_
  intro p l e R s m args below meth c g c0 t0 C hr hlk hnm hR rc hrc b
  unfold bsX5_takeFrom
  refine ox_br (kX5_takeFrom_0 C hr hlk hnm hR h1 e1 h2 e2 hrc) ?_
  refine ox_br (kX5_takeFrom_53 C hr hlk hnm hR h1 e1 h2 e2 hrc) ?_
  refine ox_br (kX5_takeFrom_54 C hr hlk hnm hR h1 e1 h2 e2 hrc) ?_
  exact s_no
theorem dX5_shake_0 : decode cX5_shake 0 = .ok (.aload_n 0, 1) := by decide +kernel
theorem dX5_shake_1 : decode cX5_shake 1 = .ok (.invokevirtual 54, 3) := by decide +kernel
theorem dX5_shake_4 : decode cX5_shake 4 = .ok (.ifCond .ne 8, 3) := by decide +kernel
theorem dX5_shake_7 : decode cX5_shake 7 = .ok (.aload_n 0, 1) := by decide +kernel
theorem dX5_shake_8 : decode cX5_shake 8 = .ok (.iconst 1, 1) := by decide +kernel
theorem dX5_shake_9 : decode cX5_shake 9 = .ok (.putfield 44, 3) := by decide +kernel
theorem dX5_shake_12 : decode cX5_shake 12 = .ok (.return_, 1) := by decide +kernel
def bX5_shake_0 (f1 : ox_F) (rc : Nat → ox_K) : ox_K := o_al 0 (o_cv f1 5 0 (o_ifne (rc 12) (o_al 0 (o_ic (1) (o_putz 5 6 (rc 12))))))
def bX5_shake_12 (f1 : ox_F) (rc : Nat → ox_K) : ox_K := o_ret
section SX5_shake
variable {p : Program} {l : Launch} {e : Env} {R : Room} {s : State} {m : MethodId} {args : Array Value} {below : List Frame} {meth : Method} {c : Code} {g : ox_G} {c0 t0 dp d1 : Nat} {rc : Nat → ox_K} {f1 : ox_F}
set_option maxRecDepth 100000 in
theorem kX5_shake_0 (C : ox_C p s m args c g 1 cX5_shake RX5) (hr : meth.sig.returnType = none) (hlk : meth.locks = false) (hnm : meth.name = "shake") (hR : R.frames = dp ∧ R.locals = 60 * dp) (h1 : ox_Sem yX5_isEmpty cX5_isEmpty 1 (some .boolean) d1 f1) (e1 : d1 + 1 ≤ dp) (hrc : ∀ b, ox_S p l e R s m args below meth c g 1 c0 t0 (ox_QM g below args s c0 t0) b (rc b)) : ox_S p l e R s m args below meth c g 1 c0 t0 (ox_QM g below args s c0 t0) 0 (bX5_shake_0 f1 rc) := by
  refine s_aload_n (pc := 0) C dX5_shake_0 rfl ?_
  refine s_cv (pc := 1) (q := (RX5, TX5, 8)) C h1 rfl wM_X5_54 wI_X5_isEmpty wS_X5_isEmpty wN_X5 wC_X5_isEmpty (by decide +kernel) (ox_lv hR e1 (by decide)) dX5_shake_1 ?_
  refine s_ifne (pc := 4) 12 C dX5_shake_4 (by decide) (hrc 12) ?_
  refine s_aload_n (pc := 7) C dX5_shake_7 rfl ?_
  refine s_iconst (pc := 8) C dX5_shake_8 (by decide) ?_
  refine s_putz (pc := 9) (j := 6) (q := (RX5, TX5, 8)) C rfl (by decide) rfl (Or.inl rfl) wF_X5_44 dX5_shake_9 ?_
  exact hrc 12
set_option maxRecDepth 100000 in
theorem kX5_shake_12 (C : ox_C p s m args c g 1 cX5_shake RX5) (hr : meth.sig.returnType = none) (hlk : meth.locks = false) (hnm : meth.name = "shake") (hR : R.frames = dp ∧ R.locals = 60 * dp) (h1 : ox_Sem yX5_isEmpty cX5_isEmpty 1 (some .boolean) d1 f1) (e1 : d1 + 1 ≤ dp) (hrc : ∀ b, ox_S p l e R s m args below meth c g 1 c0 t0 (ox_QM g below args s c0 t0) b (rc b)) : ox_S p l e R s m args below meth c g 1 c0 t0 (ox_QM g below args s c0 t0) 12 (bX5_shake_12 f1 rc) := by
  exact s_ret (pc := 12) C hr hlk dX5_shake_12
end SX5_shake
def bsX5_shake (f1 : ox_F) (b : Nat) (rc : Nat → ox_K) : ox_K := if b = 0 then bX5_shake_0 f1 rc else if b = 12 then bX5_shake_12 f1 rc else ox_no
theorem mX5_shake {dp d1 : Nat} {f1 f : ox_F} (h1 : ox_Sem yX5_isEmpty cX5_isEmpty 1 (some .boolean) d1 f1) (e1 : d1 + 1 ≤ dp) (hf : ∀ as h r, f as h = some r → ox_cs as ≤ 1 ∧ ox_le h r.2 ∧ ∃ n, ox_run (bsX5_shake f1) n 0 (lv_args 0 as) [] h = some r) : ox_Sem yX5_shake cX5_shake 1 none dp f := by
  refine ox_meth (bs := bsX5_shake f1) (by decide) hf ?_
  intro p l e R s m args below meth c g c0 t0 C hr hlk hnm hR rc hrc b
  unfold bsX5_shake
  refine ox_br (kX5_shake_0 C hr hlk hnm hR h1 e1 hrc) ?_
  refine ox_br (kX5_shake_12 C hr hlk hnm hR h1 e1 hrc) ?_
  exact s_no
theorem dX5_fillOnce_0 : decode cX5_fillOnce 0 = .ok (.aload_n 0, 1) := by decide +kernel
theorem dX5_fillOnce_1 : decode cX5_fillOnce 1 = .ok (.invokevirtual 54, 3) := by decide +kernel
theorem dX5_fillOnce_4 : decode cX5_fillOnce 4 = .ok (.ifCond .ne 20, 3) := by decide +kernel
theorem dX5_fillOnce_7 : decode cX5_fillOnce 7 = .ok (.aload_n 0, 1) := by decide +kernel
theorem dX5_fillOnce_8 : decode cX5_fillOnce 8 = .ok (.getfield 47, 3) := by decide +kernel
theorem dX5_fillOnce_11 : decode cX5_fillOnce 11 = .ok (.ifCond .ne 13, 3) := by decide +kernel
theorem dX5_fillOnce_14 : decode cX5_fillOnce 14 = .ok (.aload_n 0, 1) := by decide +kernel
theorem dX5_fillOnce_15 : decode cX5_fillOnce 15 = .ok (.iload_n 1, 1) := by decide +kernel
theorem dX5_fillOnce_16 : decode cX5_fillOnce 16 = .ok (.putfield 13, 3) := by decide +kernel
theorem dX5_fillOnce_19 : decode cX5_fillOnce 19 = .ok (.aload_n 0, 1) := by decide +kernel
theorem dX5_fillOnce_20 : decode cX5_fillOnce 20 = .ok (.iconst 1, 1) := by decide +kernel
theorem dX5_fillOnce_21 : decode cX5_fillOnce 21 = .ok (.putfield 47, 3) := by decide +kernel
theorem dX5_fillOnce_24 : decode cX5_fillOnce 24 = .ok (.return_, 1) := by decide +kernel
def bX5_fillOnce_0 (f1 : ox_F) (rc : Nat → ox_K) : ox_K := o_al 0 (o_cv f1 5 0 (o_ifne (rc 24) (o_al 0 (o_geti 5 7 (o_ifne (rc 24) (o_al 0 (o_il 1 (o_puti 5 1 (o_al 0 (o_ic (1) (o_putz 5 7 (rc 24))))))))))))
def bX5_fillOnce_24 (f1 : ox_F) (rc : Nat → ox_K) : ox_K := o_ret
section SX5_fillOnce
variable {p : Program} {l : Launch} {e : Env} {R : Room} {s : State} {m : MethodId} {args : Array Value} {below : List Frame} {meth : Method} {c : Code} {g : ox_G} {c0 t0 dp d1 : Nat} {rc : Nat → ox_K} {f1 : ox_F}
set_option maxRecDepth 100000 in
theorem kX5_fillOnce_0 (C : ox_C p s m args c g 2 cX5_fillOnce RX5) (hr : meth.sig.returnType = none) (hlk : meth.locks = false) (hnm : meth.name = "fillOnce") (hR : R.frames = dp ∧ R.locals = 60 * dp) (h1 : ox_Sem yX5_isEmpty cX5_isEmpty 1 (some .boolean) d1 f1) (e1 : d1 + 1 ≤ dp) (hrc : ∀ b, ox_S p l e R s m args below meth c g 2 c0 t0 (ox_QM g below args s c0 t0) b (rc b)) : ox_S p l e R s m args below meth c g 2 c0 t0 (ox_QM g below args s c0 t0) 0 (bX5_fillOnce_0 f1 rc) := by
  refine s_aload_n (pc := 0) C dX5_fillOnce_0 rfl ?_
  refine s_cv (pc := 1) (q := (RX5, TX5, 8)) C h1 rfl wM_X5_54 wI_X5_isEmpty wS_X5_isEmpty wN_X5 wC_X5_isEmpty (by decide +kernel) (ox_lv hR e1 (by decide)) dX5_fillOnce_1 ?_
  refine s_ifne (pc := 4) 24 C dX5_fillOnce_4 (by decide) (hrc 24) ?_
  refine s_aload_n (pc := 7) C dX5_fillOnce_7 rfl ?_
  refine s_geti (pc := 8) (j := 7) (q := (RX5, TX5, 8)) C rfl (by decide) rfl wF_X5_47 dX5_fillOnce_8 ?_
  refine s_ifne (pc := 11) 24 C dX5_fillOnce_11 (by decide) (hrc 24) ?_
  refine s_aload_n (pc := 14) C dX5_fillOnce_14 rfl ?_
  refine s_iload_n (pc := 15) C dX5_fillOnce_15 rfl ?_
  refine s_puti (pc := 16) (j := 1) (q := (RX5, TX5, 8)) C rfl (by decide) rfl (Or.inl rfl) wF_X5_13 dX5_fillOnce_16 ?_
  refine s_aload_n (pc := 19) C dX5_fillOnce_19 rfl ?_
  refine s_iconst (pc := 20) C dX5_fillOnce_20 (by decide) ?_
  refine s_putz (pc := 21) (j := 7) (q := (RX5, TX5, 8)) C rfl (by decide) rfl (Or.inl rfl) wF_X5_47 dX5_fillOnce_21 ?_
  exact hrc 24
set_option maxRecDepth 100000 in
theorem kX5_fillOnce_24 (C : ox_C p s m args c g 2 cX5_fillOnce RX5) (hr : meth.sig.returnType = none) (hlk : meth.locks = false) (hnm : meth.name = "fillOnce") (hR : R.frames = dp ∧ R.locals = 60 * dp) (h1 : ox_Sem yX5_isEmpty cX5_isEmpty 1 (some .boolean) d1 f1) (e1 : d1 + 1 ≤ dp) (hrc : ∀ b, ox_S p l e R s m args below meth c g 2 c0 t0 (ox_QM g below args s c0 t0) b (rc b)) : ox_S p l e R s m args below meth c g 2 c0 t0 (ox_QM g below args s c0 t0) 24 (bX5_fillOnce_24 f1 rc) := by
  exact s_ret (pc := 24) C hr hlk dX5_fillOnce_24
end SX5_fillOnce
def bsX5_fillOnce (f1 : ox_F) (b : Nat) (rc : Nat → ox_K) : ox_K := if b = 0 then bX5_fillOnce_0 f1 rc else if b = 24 then bX5_fillOnce_24 f1 rc else ox_no
theorem mX5_fillOnce {dp d1 : Nat} {f1 f : ox_F} (h1 : ox_Sem yX5_isEmpty cX5_isEmpty 1 (some .boolean) d1 f1) (e1 : d1 + 1 ≤ dp) (hf : ∀ as h r, f as h = some r → ox_cs as ≤ 2 ∧ ox_le h r.2 ∧ ∃ n, ox_run (bsX5_fillOnce f1) n 0 (lv_args 0 as) [] h = some r) : ox_Sem yX5_fillOnce cX5_fillOnce 2 none dp f := by
  refine ox_meth (bs := bsX5_fillOnce f1) (by decide) hf ?_
  intro p l e R s m args below meth c g c0 t0 C hr hlk hnm hR rc hrc b
  unfold bsX5_fillOnce
  refine ox_br (kX5_fillOnce_0 C hr hlk hnm hR h1 e1 hrc) ?_
  refine ox_br (kX5_fillOnce_24 C hr hlk hnm hR h1 e1 hrc) ?_
  exact s_no
theorem dX5_cool_0 : decode cX5_cool 0 = .ok (.aload_n 0, 1) := by decide +kernel
theorem dX5_cool_1 : decode cX5_cool 1 = .ok (.invokevirtual 54, 3) := by decide +kernel
theorem dX5_cool_4 : decode cX5_cool 4 = .ok (.ifCond .ne 17, 3) := by decide +kernel
theorem dX5_cool_7 : decode cX5_cool 7 = .ok (.aload_n 0, 1) := by decide +kernel
theorem dX5_cool_8 : decode cX5_cool 8 = .ok (.iconst 5, 1) := by decide +kernel
theorem dX5_cool_9 : decode cX5_cool 9 = .ok (.aload_n 0, 1) := by decide +kernel
theorem dX5_cool_10 : decode cX5_cool 10 = .ok (.getfield 35, 3) := by decide +kernel
theorem dX5_cool_13 : decode cX5_cool 13 = .ok (.iload_n 1, 1) := by decide +kernel
theorem dX5_cool_14 : decode cX5_cool 14 = .ok (.isub, 1) := by decide +kernel
theorem dX5_cool_15 : decode cX5_cool 15 = .ok (.invokestatic 58, 3) := by decide +kernel
theorem dX5_cool_18 : decode cX5_cool 18 = .ok (.putfield 35, 3) := by decide +kernel
theorem dX5_cool_21 : decode cX5_cool 21 = .ok (.return_, 1) := by decide +kernel
def bX5_cool_0 (f1 : ox_F) (rc : Nat → ox_K) : ox_K := o_al 0 (o_cv f1 5 0 (o_ifne (rc 21) (o_al 0 (o_ic (5) (o_al 0 (o_geti 5 4 (o_il 1 (o_isub (o_mmax (o_puti 5 4 (rc 21)))))))))))
def bX5_cool_21 (f1 : ox_F) (rc : Nat → ox_K) : ox_K := o_ret
section SX5_cool
variable {p : Program} {l : Launch} {e : Env} {R : Room} {s : State} {m : MethodId} {args : Array Value} {below : List Frame} {meth : Method} {c : Code} {g : ox_G} {c0 t0 dp d1 : Nat} {rc : Nat → ox_K} {f1 : ox_F}
set_option maxRecDepth 100000 in
theorem kX5_cool_0 (C : ox_C p s m args c g 2 cX5_cool RX5) (hr : meth.sig.returnType = none) (hlk : meth.locks = false) (hnm : meth.name = "cool") (hR : R.frames = dp ∧ R.locals = 60 * dp) (e0 : 1 ≤ dp) (h1 : ox_Sem yX5_isEmpty cX5_isEmpty 1 (some .boolean) d1 f1) (e1 : d1 + 1 ≤ dp) (hrc : ∀ b, ox_S p l e R s m args below meth c g 2 c0 t0 (ox_QM g below args s c0 t0) b (rc b)) : ox_S p l e R s m args below meth c g 2 c0 t0 (ox_QM g below args s c0 t0) 0 (bX5_cool_0 f1 rc) := by
  refine s_aload_n (pc := 0) C dX5_cool_0 rfl ?_
  refine s_cv (pc := 1) (q := (RX5, TX5, 8)) C h1 rfl wM_X5_54 wI_X5_isEmpty wS_X5_isEmpty wN_X5 wC_X5_isEmpty (by decide +kernel) (ox_lv hR e1 (by decide)) dX5_cool_1 ?_
  refine s_ifne (pc := 4) 21 C dX5_cool_4 (by decide) (hrc 21) ?_
  refine s_aload_n (pc := 7) C dX5_cool_7 rfl ?_
  refine s_iconst (pc := 8) C dX5_cool_8 (by decide) ?_
  refine s_aload_n (pc := 9) C dX5_cool_9 rfl ?_
  refine s_geti (pc := 10) (j := 4) (q := (RX5, TX5, 8)) C rfl (by decide) rfl wF_X5_35 dX5_cool_10 ?_
  refine s_iload_n (pc := 13) C dX5_cool_13 rfl ?_
  refine s_isub (pc := 14) C dX5_cool_14 ?_
  refine s_mmax (pc := 15) C wM_X5_58 wT_mmax wN_J9 wC_mmax (ox_lv3 hR e0) dX5_cool_15 ?_
  refine s_puti (pc := 18) (j := 4) (q := (RX5, TX5, 8)) C rfl (by decide) rfl (Or.inl rfl) wF_X5_35 dX5_cool_18 ?_
  exact hrc 21
set_option maxRecDepth 100000 in
theorem kX5_cool_21 (C : ox_C p s m args c g 2 cX5_cool RX5) (hr : meth.sig.returnType = none) (hlk : meth.locks = false) (hnm : meth.name = "cool") (hR : R.frames = dp ∧ R.locals = 60 * dp) (e0 : 1 ≤ dp) (h1 : ox_Sem yX5_isEmpty cX5_isEmpty 1 (some .boolean) d1 f1) (e1 : d1 + 1 ≤ dp) (hrc : ∀ b, ox_S p l e R s m args below meth c g 2 c0 t0 (ox_QM g below args s c0 t0) b (rc b)) : ox_S p l e R s m args below meth c g 2 c0 t0 (ox_QM g below args s c0 t0) 21 (bX5_cool_21 f1 rc) := by
  exact s_ret (pc := 21) C hr hlk dX5_cool_21
end SX5_cool
def bsX5_cool (f1 : ox_F) (b : Nat) (rc : Nat → ox_K) : ox_K := if b = 0 then bX5_cool_0 f1 rc else if b = 21 then bX5_cool_21 f1 rc else ox_no
theorem mX5_cool {dp d1 : Nat} {f1 f : ox_F} (e0 : 1 ≤ dp) (h1 : ox_Sem yX5_isEmpty cX5_isEmpty 1 (some .boolean) d1 f1) (e1 : d1 + 1 ≤ dp) (hf : ∀ as h r, f as h = some r → ox_cs as ≤ 2 ∧ ox_le h r.2 ∧ ∃ n, ox_run (bsX5_cool f1) n 0 (lv_args 0 as) [] h = some r) : ox_Sem yX5_cool cX5_cool 2 none dp f := by
  refine ox_meth (bs := bsX5_cool f1) (by decide) hf ?_
  intro p l e R s m args below meth c g c0 t0 C hr hlk hnm hR rc hrc b
  unfold bsX5_cool
  refine ox_br (kX5_cool_0 C hr hlk hnm hR e0 h1 e1 hrc) ?_
  refine ox_br (kX5_cool_21 C hr hlk hnm hR e0 h1 e1 hrc) ?_
  exact s_no
