theorem dX3_init_0 : decode cX3_init 0 = .ok (.aload_n 0, 1) := by decide +kernel
theorem dX3_init_1 : decode cX3_init 1 = .ok (.invokespecial 1, 3) := by decide +kernel
theorem dX3_init_4 : decode cX3_init 4 = .ok (.aload_n 0, 1) := by decide +kernel
theorem dX3_init_5 : decode cX3_init 5 = .ok (.new 7, 3) := by decide +kernel
theorem dX3_init_8 : decode cX3_init 8 = .ok (.dup, 1) := by decide +kernel
theorem dX3_init_9 : decode cX3_init 9 = .ok (.invokespecial 9, 3) := by decide +kernel
theorem dX3_init_12 : decode cX3_init 12 = .ok (.putfield 10, 3) := by decide +kernel
theorem dX3_init_15 : decode cX3_init 15 = .ok (.aload_n 0, 1) := by decide +kernel
theorem dX3_init_16 : decode cX3_init 16 = .ok (.bipush 6, 2) := by decide +kernel
theorem dX3_init_18 : decode cX3_init 18 = .ok (.anewarray 16, 3) := by decide +kernel
theorem dX3_init_21 : decode cX3_init 21 = .ok (.putfield 18, 3) := by decide +kernel
theorem dX3_init_24 : decode cX3_init 24 = .ok (.iconst 0, 1) := by decide +kernel
theorem dX3_init_25 : decode cX3_init 25 = .ok (.istore_n 1, 1) := by decide +kernel
theorem dX3_init_26 : decode cX3_init 26 = .ok (.iload_n 1, 1) := by decide +kernel
theorem dX3_init_27 : decode cX3_init 27 = .ok (.bipush 6, 2) := by decide +kernel
theorem dX3_init_29 : decode cX3_init 29 = .ok (.if_icmp .ge 22, 3) := by decide +kernel
theorem dX3_init_32 : decode cX3_init 32 = .ok (.aload_n 0, 1) := by decide +kernel
theorem dX3_init_33 : decode cX3_init 33 = .ok (.getfield 18, 3) := by decide +kernel
theorem dX3_init_36 : decode cX3_init 36 = .ok (.iload_n 1, 1) := by decide +kernel
theorem dX3_init_37 : decode cX3_init 37 = .ok (.new 16, 3) := by decide +kernel
theorem dX3_init_40 : decode cX3_init 40 = .ok (.dup, 1) := by decide +kernel
theorem dX3_init_41 : decode cX3_init 41 = .ok (.invokespecial 22, 3) := by decide +kernel
theorem dX3_init_44 : decode cX3_init 44 = .ok (.aastore, 1) := by decide +kernel
theorem dX3_init_45 : decode cX3_init 45 = .ok (.iinc 1 1, 3) := by decide +kernel
theorem dX3_init_48 : decode cX3_init 48 = .ok (.goto (-22), 3) := by decide +kernel
theorem dX3_init_51 : decode cX3_init 51 = .ok (.return_, 1) := by decide +kernel
def bX3_init_0 (f1 f2 : ox_F) (rc : Nat → ox_K) : ox_K := o_al 0 (o_obj (o_al 0 (o_new 10 (o_dup (o_cn f1 0 (o_putr 3 0 (o_al 0 (o_ic (6) (o_newr 6 (o_putr 3 1 (o_ic (0) (o_is 1 (rc 26)))))))))))))
def bX3_init_26 (f1 f2 : ox_F) (rc : Nat → ox_K) : ox_K := o_keep [0, 1] (o_il 1 (o_ic (6) (o_icge (rc 51) (o_al 0 (o_getr 3 1 (o_il 1 (o_new 6 (o_dup (o_cn f2 0 (o_aast 6 (o_inc 1 (1) (rc 26))))))))))))
def bX3_init_51 (f1 f2 : ox_F) (rc : Nat → ox_K) : ox_K := o_ret
section SX3_init
variable {p : Program} {l : Launch} {e : Env} {R : Room} {s : State} {m : MethodId} {args : Array Value} {below : List Frame} {meth : Method} {c : Code} {g : ox_G} {c0 t0 dp d1 d2 : Nat} {rc : Nat → ox_K} {f1 f2 : ox_F}
set_option maxRecDepth 100000 in
theorem kX3_init_0 (C : ox_C p s m args c g 2 cX3_init RX3) (hr : meth.sig.returnType = none) (hlk : meth.locks = false) (hnm : meth.name = "<init>") (hR : R.frames = dp ∧ R.locals = 60 * dp) (e0 : 1 ≤ dp) (h1 : ox_Sem yX10_init cX10_init 1 none d1 f1) (e1 : d1 + 1 ≤ dp) (h2 : ox_Sem yX6_init cX6_init 1 none d2 f2) (e2 : d2 + 1 ≤ dp) (hrc : ∀ b, ox_S p l e R s m args below meth c g 2 c0 t0 (ox_QM g below args s c0 t0) b (rc b)) : ox_S p l e R s m args below meth c g 2 c0 t0 (ox_QM g below args s c0 t0) 0 (bX3_init_0 f1 f2 rc) := by
  refine s_aload_n (pc := 0) C dX3_init_0 rfl ?_
  refine s_obj (pc := 1) C wM_X3_1 wO1 wO2 (ox_lv1 hR e0) dX3_init_1 ?_
  refine s_aload_n (pc := 4) C dX3_init_4 rfl ?_
  refine s_new (pc := 5) (q := (RX10, TX10, 6)) C rfl ox_nt10 wX_X3_7 wY_X10 wN_X10 dX3_init_5 ?_
  refine s_dup (pc := 8) C dX3_init_8 ?_
  refine s_cnN (pc := 9) C h1 (by decide +kernel) wI_X10_init wN_X10 wC_X10_init rfl (by decide +kernel) (ox_lv hR e1 (by decide)) dX3_init_9 ?_
  refine s_putr (pc := 12) (j := 0) (q := (RX3, TX3, 6)) C rfl (by decide) rfl (Or.inr ⟨rfl, hnm, rfl⟩) wF_X3_10 dX3_init_12 ?_
  refine s_aload_n (pc := 15) C dX3_init_15 rfl ?_
  refine s_bipush (pc := 16) C dX3_init_16 (by decide) ?_
  refine s_newr (pc := 18) (q := (RX6, TX6, 5)) 5 C rfl rfl wX_X3_16 (by decide +kernel) dX3_init_18 ?_
  refine s_putr (pc := 21) (j := 1) (q := (RX3, TX3, 6)) C rfl (by decide) rfl (Or.inr ⟨rfl, hnm, rfl⟩) wF_X3_18 dX3_init_21 ?_
  refine s_iconst (pc := 24) C dX3_init_24 (by decide) ?_
  refine s_istore_n (pc := 25) C dX3_init_25 rfl (by decide) ?_
  exact hrc 26
set_option maxRecDepth 100000 in
theorem kX3_init_26 (C : ox_C p s m args c g 2 cX3_init RX3) (hr : meth.sig.returnType = none) (hlk : meth.locks = false) (hnm : meth.name = "<init>") (hR : R.frames = dp ∧ R.locals = 60 * dp) (e0 : 1 ≤ dp) (h1 : ox_Sem yX10_init cX10_init 1 none d1 f1) (e1 : d1 + 1 ≤ dp) (h2 : ox_Sem yX6_init cX6_init 1 none d2 f2) (e2 : d2 + 1 ≤ dp) (hrc : ∀ b, ox_S p l e R s m args below meth c g 2 c0 t0 (ox_QM g below args s c0 t0) b (rc b)) : ox_S p l e R s m args below meth c g 2 c0 t0 (ox_QM g below args s c0 t0) 26 (bX3_init_26 f1 f2 rc) := by
  refine s_keep ?_
  refine s_iload_n (pc := 26) C dX3_init_26 rfl ?_
  refine s_bipush (pc := 27) C dX3_init_27 (by decide) ?_
  refine s_icmpge (pc := 29) 51 C dX3_init_29 (by decide) (hrc 51) ?_
  refine s_aload_n (pc := 32) C dX3_init_32 rfl ?_
  refine s_getr (pc := 33) (j := 1) (q := (RX3, TX3, 6)) C rfl (by decide) rfl wF_X3_18 dX3_init_33 ?_
  refine s_iload_n (pc := 36) C dX3_init_36 rfl ?_
  refine s_new (pc := 37) (q := (RX6, TX6, 5)) C rfl ox_nt6 wX_X3_16 wY_X6 wN_X6 dX3_init_37 ?_
  refine s_dup (pc := 40) C dX3_init_40 ?_
  refine s_cnN (pc := 41) C h2 (by decide +kernel) wI_X6_init wN_X6 wC_X6_init rfl (by decide +kernel) (ox_lv hR e2 (by decide)) dX3_init_41 ?_
  refine s_aast (pc := 44) (q := (RX6, TX6, 5)) 5 rfl C rfl dX3_init_44 ?_
  refine s_iinc (pc := 45) C dX3_init_45 (by decide) (by decide) ?_
  exact s_goto (pc := 48) 26 C dX3_init_48 (by decide) (hrc 26)
set_option maxRecDepth 100000 in
theorem kX3_init_51 (C : ox_C p s m args c g 2 cX3_init RX3) (hr : meth.sig.returnType = none) (hlk : meth.locks = false) (hnm : meth.name = "<init>") (hR : R.frames = dp ∧ R.locals = 60 * dp) (e0 : 1 ≤ dp) (h1 : ox_Sem yX10_init cX10_init 1 none d1 f1) (e1 : d1 + 1 ≤ dp) (h2 : ox_Sem yX6_init cX6_init 1 none d2 f2) (e2 : d2 + 1 ≤ dp) (hrc : ∀ b, ox_S p l e R s m args below meth c g 2 c0 t0 (ox_QM g below args s c0 t0) b (rc b)) : ox_S p l e R s m args below meth c g 2 c0 t0 (ox_QM g below args s c0 t0) 51 (bX3_init_51 f1 f2 rc) := by
  exact s_ret (pc := 51) C hr hlk dX3_init_51
end SX3_init
def bsX3_init (f1 f2 : ox_F) (b : Nat) (rc : Nat → ox_K) : ox_K := if b = 0 then bX3_init_0 f1 f2 rc else if b = 26 then bX3_init_26 f1 f2 rc else if b = 51 then bX3_init_51 f1 f2 rc else ox_no
theorem mX3_init {dp d1 d2 : Nat} {f1 f2 f : ox_F} (e0 : 1 ≤ dp) (h1 : ox_Sem yX10_init cX10_init 1 none d1 f1) (e1 : d1 + 1 ≤ dp) (h2 : ox_Sem yX6_init cX6_init 1 none d2 f2) (e2 : d2 + 1 ≤ dp) (hf : ∀ as h r, f as h = some r → ox_cs as ≤ 2 ∧ ox_le h r.2 ∧ ∃ n, ox_run (bsX3_init f1 f2) n 0 (lv_args 0 as) [] h = some r) : ox_Sem yX3_init cX3_init 2 none dp f := by
  refine ox_meth (bs := bsX3_init f1 f2) (by decide) hf ?_
  intro p l e R s m args below meth c g c0 t0 C hr hlk hnm hR rc hrc b
  unfold bsX3_init
  refine ox_br (kX3_init_0 C hr hlk hnm hR e0 h1 e1 h2 e2 hrc) ?_
  refine ox_br (kX3_init_26 C hr hlk hnm hR e0 h1 e1 h2 e2 hrc) ?_
  refine ox_br (kX3_init_51 C hr hlk hnm hR e0 h1 e1 h2 e2 hrc) ?_
  exact s_no
theorem dX3_readTape_0 : decode cX3_readTape 0 = .ok (.aload_n 0, 1) := by decide +kernel
theorem dX3_readTape_1 : decode cX3_readTape 1 = .ok (.getfield 23, 3) := by decide +kernel
theorem dX3_readTape_4 : decode cX3_readTape 4 = .ok (.istore_n 1, 1) := by decide +kernel
theorem dX3_readTape_5 : decode cX3_readTape 5 = .ok (.aload_n 0, 1) := by decide +kernel
theorem dX3_readTape_6 : decode cX3_readTape 6 = .ok (.getfield 10, 3) := by decide +kernel
theorem dX3_readTape_9 : decode cX3_readTape 9 = .ok (.invokevirtual 27, 3) := by decide +kernel
theorem dX3_readTape_12 : decode cX3_readTape 12 = .ok (.iload_n 1, 1) := by decide +kernel
theorem dX3_readTape_13 : decode cX3_readTape 13 = .ok (.bipush 6, 2) := by decide +kernel
theorem dX3_readTape_15 : decode cX3_readTape 15 = .ok (.if_icmp .gt 29, 3) := by decide +kernel
theorem dX3_readTape_18 : decode cX3_readTape 18 = .ok (.aload_n 0, 1) := by decide +kernel
theorem dX3_readTape_19 : decode cX3_readTape 19 = .ok (.getfield 10, 3) := by decide +kernel
theorem dX3_readTape_22 : decode cX3_readTape 22 = .ok (.getfield 30, 3) := by decide +kernel
theorem dX3_readTape_25 : decode cX3_readTape 25 = .ok (.ifCond .eq 19, 3) := by decide +kernel
theorem dX3_readTape_28 : decode cX3_readTape 28 = .ok (.aload_n 0, 1) := by decide +kernel
theorem dX3_readTape_29 : decode cX3_readTape 29 = .ok (.iload_n 1, 1) := by decide +kernel
theorem dX3_readTape_30 : decode cX3_readTape 30 = .ok (.invokevirtual 33, 3) := by decide +kernel
theorem dX3_readTape_33 : decode cX3_readTape 33 = .ok (.ifCond .ne 5, 3) := by decide +kernel
theorem dX3_readTape_36 : decode cX3_readTape 36 = .ok (.iconst 0, 1) := by decide +kernel
theorem dX3_readTape_37 : decode cX3_readTape 37 = .ok (.ireturn, 1) := by decide +kernel
theorem dX3_readTape_38 : decode cX3_readTape 38 = .ok (.iinc 1 1, 3) := by decide +kernel
theorem dX3_readTape_41 : decode cX3_readTape 41 = .ok (.goto (-29), 3) := by decide +kernel
theorem dX3_readTape_44 : decode cX3_readTape 44 = .ok (.aload_n 0, 1) := by decide +kernel
theorem dX3_readTape_45 : decode cX3_readTape 45 = .ok (.iload_n 1, 1) := by decide +kernel
theorem dX3_readTape_46 : decode cX3_readTape 46 = .ok (.putfield 23, 3) := by decide +kernel
theorem dX3_readTape_49 : decode cX3_readTape 49 = .ok (.iconst 1, 1) := by decide +kernel
theorem dX3_readTape_50 : decode cX3_readTape 50 = .ok (.ireturn, 1) := by decide +kernel
def bX3_readTape_0 (f1 f2 : ox_F) (rc : Nat → ox_K) : ox_K := o_al 0 (o_geti 3 2 (o_is 1 (o_al 0 (o_getr 3 0 (o_cv f1 10 0 (rc 12))))))
def bX3_readTape_12 (f1 f2 : ox_F) (rc : Nat → ox_K) : ox_K := o_keep [0, 1] (o_il 1 (o_ic (6) (o_icgt (rc 44) (o_al 0 (o_getr 3 0 (o_geti 10 2 (o_ifeq (rc 44) (o_al 0 (o_il 1 (o_cv f2 3 1 (o_ifne (rc 38) (o_ic (0) (o_zret)))))))))))))
def bX3_readTape_38 (f1 f2 : ox_F) (rc : Nat → ox_K) : ox_K := o_inc 1 (1) (rc 12)
def bX3_readTape_44 (f1 f2 : ox_F) (rc : Nat → ox_K) : ox_K := o_al 0 (o_il 1 (o_puti 3 2 (o_ic (1) (o_zret))))
section SX3_readTape
variable {p : Program} {l : Launch} {e : Env} {R : Room} {s : State} {m : MethodId} {args : Array Value} {below : List Frame} {meth : Method} {c : Code} {g : ox_G} {c0 t0 dp d1 d2 : Nat} {rc : Nat → ox_K} {f1 f2 : ox_F}
set_option maxRecDepth 100000 in
theorem kX3_readTape_0 (C : ox_C p s m args c g 2 cX3_readTape RX3) (hr : meth.sig.returnType = (some .boolean)) (hlk : meth.locks = false) (hnm : meth.name = "readTape") (hR : R.frames = dp ∧ R.locals = 60 * dp) (h1 : ox_Sem yX10_rewind cX10_rewind 1 none d1 f1) (e1 : d1 + 1 ≤ dp) (h2 : ox_Sem yX3_readRecipe cX3_readRecipe 4 (some .boolean) d2 f2) (e2 : d2 + 1 ≤ dp) (hrc : ∀ b, ox_S p l e R s m args below meth c g 2 c0 t0 (ox_QM g below args s c0 t0) b (rc b)) : ox_S p l e R s m args below meth c g 2 c0 t0 (ox_QM g below args s c0 t0) 0 (bX3_readTape_0 f1 f2 rc) := by
  refine s_aload_n (pc := 0) C dX3_readTape_0 rfl ?_
  refine s_geti (pc := 1) (j := 2) (q := (RX3, TX3, 6)) C rfl (by decide) rfl wF_X3_23 dX3_readTape_1 ?_
  refine s_istore_n (pc := 4) C dX3_readTape_4 rfl (by decide) ?_
  refine s_aload_n (pc := 5) C dX3_readTape_5 rfl ?_
  refine s_getr (pc := 6) (j := 0) (q := (RX3, TX3, 6)) C rfl (by decide) rfl wF_X3_10 dX3_readTape_6 ?_
  refine s_cv (pc := 9) (q := (RX10, TX10, 6)) C h1 rfl wM_X3_27 wI_X10_rewind wS_X10_rewind wN_X10 wC_X10_rewind (by decide +kernel) (ox_lv hR e1 (by decide)) dX3_readTape_9 ?_
  exact hrc 12
set_option maxRecDepth 100000 in
theorem kX3_readTape_12 (C : ox_C p s m args c g 2 cX3_readTape RX3) (hr : meth.sig.returnType = (some .boolean)) (hlk : meth.locks = false) (hnm : meth.name = "readTape") (hR : R.frames = dp ∧ R.locals = 60 * dp) (h1 : ox_Sem yX10_rewind cX10_rewind 1 none d1 f1) (e1 : d1 + 1 ≤ dp) (h2 : ox_Sem yX3_readRecipe cX3_readRecipe 4 (some .boolean) d2 f2) (e2 : d2 + 1 ≤ dp) (hrc : ∀ b, ox_S p l e R s m args below meth c g 2 c0 t0 (ox_QM g below args s c0 t0) b (rc b)) : ox_S p l e R s m args below meth c g 2 c0 t0 (ox_QM g below args s c0 t0) 12 (bX3_readTape_12 f1 f2 rc) := by
  refine s_keep ?_
  refine s_iload_n (pc := 12) C dX3_readTape_12 rfl ?_
  refine s_bipush (pc := 13) C dX3_readTape_13 (by decide) ?_
  refine s_icmpgt (pc := 15) 44 C dX3_readTape_15 (by decide) (hrc 44) ?_
  refine s_aload_n (pc := 18) C dX3_readTape_18 rfl ?_
  refine s_getr (pc := 19) (j := 0) (q := (RX3, TX3, 6)) C rfl (by decide) rfl wF_X3_10 dX3_readTape_19 ?_
  refine s_geti (pc := 22) (j := 2) (q := (RX10, TX10, 6)) C rfl (by decide) rfl wF_X3_30 dX3_readTape_22 ?_
  refine s_ifeq (pc := 25) 44 C dX3_readTape_25 (by decide) (hrc 44) ?_
  refine s_aload_n (pc := 28) C dX3_readTape_28 rfl ?_
  refine s_iload_n (pc := 29) C dX3_readTape_29 rfl ?_
  refine s_cv (pc := 30) (q := (RX3, TX3, 6)) C h2 rfl wM_X3_33 wI_X3_readRecipe wS_X3_readRecipe wN_X3 wC_X3_readRecipe (by decide +kernel) (ox_lv hR e2 (by decide)) dX3_readTape_30 ?_
  refine s_ifne (pc := 33) 38 C dX3_readTape_33 (by decide) (hrc 38) ?_
  refine s_iconst (pc := 36) C dX3_readTape_36 (by decide) ?_
  exact s_zret (pc := 37) C hr (by decide) hlk dX3_readTape_37
set_option maxRecDepth 100000 in
theorem kX3_readTape_38 (C : ox_C p s m args c g 2 cX3_readTape RX3) (hr : meth.sig.returnType = (some .boolean)) (hlk : meth.locks = false) (hnm : meth.name = "readTape") (hR : R.frames = dp ∧ R.locals = 60 * dp) (h1 : ox_Sem yX10_rewind cX10_rewind 1 none d1 f1) (e1 : d1 + 1 ≤ dp) (h2 : ox_Sem yX3_readRecipe cX3_readRecipe 4 (some .boolean) d2 f2) (e2 : d2 + 1 ≤ dp) (hrc : ∀ b, ox_S p l e R s m args below meth c g 2 c0 t0 (ox_QM g below args s c0 t0) b (rc b)) : ox_S p l e R s m args below meth c g 2 c0 t0 (ox_QM g below args s c0 t0) 38 (bX3_readTape_38 f1 f2 rc) := by
  refine s_iinc (pc := 38) C dX3_readTape_38 (by decide) (by decide) ?_
  exact s_goto (pc := 41) 12 C dX3_readTape_41 (by decide) (hrc 12)
set_option maxRecDepth 100000 in
theorem kX3_readTape_44 (C : ox_C p s m args c g 2 cX3_readTape RX3) (hr : meth.sig.returnType = (some .boolean)) (hlk : meth.locks = false) (hnm : meth.name = "readTape") (hR : R.frames = dp ∧ R.locals = 60 * dp) (h1 : ox_Sem yX10_rewind cX10_rewind 1 none d1 f1) (e1 : d1 + 1 ≤ dp) (h2 : ox_Sem yX3_readRecipe cX3_readRecipe 4 (some .boolean) d2 f2) (e2 : d2 + 1 ≤ dp) (hrc : ∀ b, ox_S p l e R s m args below meth c g 2 c0 t0 (ox_QM g below args s c0 t0) b (rc b)) : ox_S p l e R s m args below meth c g 2 c0 t0 (ox_QM g below args s c0 t0) 44 (bX3_readTape_44 f1 f2 rc) := by
  refine s_aload_n (pc := 44) C dX3_readTape_44 rfl ?_
  refine s_iload_n (pc := 45) C dX3_readTape_45 rfl ?_
  refine s_puti (pc := 46) (j := 2) (q := (RX3, TX3, 6)) C rfl (by decide) rfl (Or.inl rfl) wF_X3_23 dX3_readTape_46 ?_
  refine s_iconst (pc := 49) C dX3_readTape_49 (by decide) ?_
  exact s_zret (pc := 50) C hr (by decide) hlk dX3_readTape_50
end SX3_readTape
def bsX3_readTape (f1 f2 : ox_F) (b : Nat) (rc : Nat → ox_K) : ox_K := if b = 0 then bX3_readTape_0 f1 f2 rc else if b = 12 then bX3_readTape_12 f1 f2 rc else if b = 38 then bX3_readTape_38 f1 f2 rc else if b = 44 then bX3_readTape_44 f1 f2 rc else ox_no
theorem mX3_readTape {dp d1 d2 : Nat} {f1 f2 f : ox_F} (h1 : ox_Sem yX10_rewind cX10_rewind 1 none d1 f1) (e1 : d1 + 1 ≤ dp) (h2 : ox_Sem yX3_readRecipe cX3_readRecipe 4 (some .boolean) d2 f2) (e2 : d2 + 1 ≤ dp) (hf : ∀ as h r, f as h = some r → ox_cs as ≤ 2 ∧ ox_le h r.2 ∧ ∃ n, ox_run (bsX3_readTape f1 f2) n 0 (lv_args 0 as) [] h = some r) : ox_Sem yX3_readTape cX3_readTape 2 (some .boolean) dp f := by
  refine ox_meth (bs := bsX3_readTape f1 f2) (by decide) hf ?_
  intro p l e R s m args below meth c g c0 t0 C hr hlk hnm hR rc hrc b
  unfold bsX3_readTape
  refine ox_br (kX3_readTape_0 C hr hlk hnm hR h1 e1 h2 e2 hrc) ?_
  refine ox_br (kX3_readTape_12 C hr hlk hnm hR h1 e1 h2 e2 hrc) ?_
  refine ox_br (kX3_readTape_38 C hr hlk hnm hR h1 e1 h2 e2 hrc) ?_
  refine ox_br (kX3_readTape_44 C hr hlk hnm hR h1 e1 h2 e2 hrc) ?_
  exact s_no
theorem dX3_readRecipe_0 : decode cX3_readRecipe 0 = .ok (.aload_n 0, 1) := by decide +kernel
theorem dX3_readRecipe_1 : decode cX3_readRecipe 1 = .ok (.getfield 10, 3) := by decide +kernel
theorem dX3_readRecipe_4 : decode cX3_readRecipe 4 = .ok (.ldc 37, 2) := by decide +kernel
theorem dX3_readRecipe_6 : decode cX3_readRecipe 6 = .ok (.invokevirtual 39, 3) := by decide +kernel
theorem dX3_readRecipe_9 : decode cX3_readRecipe 9 = .ok (.ifCond .ne 9, 3) := by decide +kernel
theorem dX3_readRecipe_12 : decode cX3_readRecipe 12 = .ok (.aload_n 0, 1) := by decide +kernel
theorem dX3_readRecipe_13 : decode cX3_readRecipe 13 = .ok (.iconst 1, 1) := by decide +kernel
theorem dX3_readRecipe_14 : decode cX3_readRecipe 14 = .ok (.invokevirtual 43, 3) := by decide +kernel
theorem dX3_readRecipe_17 : decode cX3_readRecipe 17 = .ok (.ireturn, 1) := by decide +kernel
theorem dX3_readRecipe_18 : decode cX3_readRecipe 18 = .ok (.iload_n 1, 1) := by decide +kernel
theorem dX3_readRecipe_19 : decode cX3_readRecipe 19 = .ok (.bipush 6, 2) := by decide +kernel
theorem dX3_readRecipe_21 : decode cX3_readRecipe 21 = .ok (.if_icmp .lt 9, 3) := by decide +kernel
theorem dX3_readRecipe_24 : decode cX3_readRecipe 24 = .ok (.aload_n 0, 1) := by decide +kernel
theorem dX3_readRecipe_25 : decode cX3_readRecipe 25 = .ok (.iconst 3, 1) := by decide +kernel
theorem dX3_readRecipe_26 : decode cX3_readRecipe 26 = .ok (.invokevirtual 43, 3) := by decide +kernel
theorem dX3_readRecipe_29 : decode cX3_readRecipe 29 = .ok (.ireturn, 1) := by decide +kernel
theorem dX3_readRecipe_30 : decode cX3_readRecipe 30 = .ok (.aload_n 0, 1) := by decide +kernel
theorem dX3_readRecipe_31 : decode cX3_readRecipe 31 = .ok (.getfield 10, 3) := by decide +kernel
theorem dX3_readRecipe_34 : decode cX3_readRecipe 34 = .ok (.invokevirtual 46, 3) := by decide +kernel
theorem dX3_readRecipe_37 : decode cX3_readRecipe 37 = .ok (.aload_n 0, 1) := by decide +kernel
theorem dX3_readRecipe_38 : decode cX3_readRecipe 38 = .ok (.getfield 18, 3) := by decide +kernel
theorem dX3_readRecipe_41 : decode cX3_readRecipe 41 = .ok (.iload_n 1, 1) := by decide +kernel
theorem dX3_readRecipe_42 : decode cX3_readRecipe 42 = .ok (.aaload, 1) := by decide +kernel
theorem dX3_readRecipe_43 : decode cX3_readRecipe 43 = .ok (.astore_n 2, 1) := by decide +kernel
theorem dX3_readRecipe_44 : decode cX3_readRecipe 44 = .ok (.aload_n 2, 1) := by decide +kernel
theorem dX3_readRecipe_45 : decode cX3_readRecipe 45 = .ok (.iconst 0, 1) := by decide +kernel
theorem dX3_readRecipe_46 : decode cX3_readRecipe 46 = .ok (.putfield 49, 3) := by decide +kernel
theorem dX3_readRecipe_49 : decode cX3_readRecipe 49 = .ok (.aload_n 0, 1) := by decide +kernel
theorem dX3_readRecipe_50 : decode cX3_readRecipe 50 = .ok (.iconst 0, 1) := by decide +kernel
theorem dX3_readRecipe_51 : decode cX3_readRecipe 51 = .ok (.bipush 15, 2) := by decide +kernel
theorem dX3_readRecipe_53 : decode cX3_readRecipe 53 = .ok (.invokevirtual 52, 3) := by decide +kernel
theorem dX3_readRecipe_56 : decode cX3_readRecipe 56 = .ok (.ifCond .ne 5, 3) := by decide +kernel
theorem dX3_readRecipe_59 : decode cX3_readRecipe 59 = .ok (.iconst 0, 1) := by decide +kernel
theorem dX3_readRecipe_60 : decode cX3_readRecipe 60 = .ok (.ireturn, 1) := by decide +kernel
theorem dX3_readRecipe_61 : decode cX3_readRecipe 61 = .ok (.aload_n 2, 1) := by decide +kernel
theorem dX3_readRecipe_62 : decode cX3_readRecipe 62 = .ok (.aload_n 0, 1) := by decide +kernel
theorem dX3_readRecipe_63 : decode cX3_readRecipe 63 = .ok (.getfield 56, 3) := by decide +kernel
theorem dX3_readRecipe_66 : decode cX3_readRecipe 66 = .ok (.putfield 59, 3) := by decide +kernel
theorem dX3_readRecipe_69 : decode cX3_readRecipe 69 = .ok (.aload_n 0, 1) := by decide +kernel
theorem dX3_readRecipe_70 : decode cX3_readRecipe 70 = .ok (.iconst 0, 1) := by decide +kernel
theorem dX3_readRecipe_71 : decode cX3_readRecipe 71 = .ok (.bipush 50, 2) := by decide +kernel
theorem dX3_readRecipe_73 : decode cX3_readRecipe 73 = .ok (.invokevirtual 52, 3) := by decide +kernel
theorem dX3_readRecipe_76 : decode cX3_readRecipe 76 = .ok (.ifCond .ne 5, 3) := by decide +kernel
theorem dX3_readRecipe_79 : decode cX3_readRecipe 79 = .ok (.iconst 0, 1) := by decide +kernel
theorem dX3_readRecipe_80 : decode cX3_readRecipe 80 = .ok (.ireturn, 1) := by decide +kernel
theorem dX3_readRecipe_81 : decode cX3_readRecipe 81 = .ok (.aload_n 2, 1) := by decide +kernel
theorem dX3_readRecipe_82 : decode cX3_readRecipe 82 = .ok (.aload_n 0, 1) := by decide +kernel
theorem dX3_readRecipe_83 : decode cX3_readRecipe 83 = .ok (.getfield 56, 3) := by decide +kernel
theorem dX3_readRecipe_86 : decode cX3_readRecipe 86 = .ok (.putfield 62, 3) := by decide +kernel
theorem dX3_readRecipe_89 : decode cX3_readRecipe 89 = .ok (.iconst 0, 1) := by decide +kernel
theorem dX3_readRecipe_90 : decode cX3_readRecipe 90 = .ok (.istore_n 3, 1) := by decide +kernel
theorem dX3_readRecipe_91 : decode cX3_readRecipe 91 = .ok (.iload_n 3, 1) := by decide +kernel
theorem dX3_readRecipe_92 : decode cX3_readRecipe 92 = .ok (.bipush 6, 2) := by decide +kernel
theorem dX3_readRecipe_94 : decode cX3_readRecipe 94 = .ok (.if_icmp .gt 30, 3) := by decide +kernel
theorem dX3_readRecipe_97 : decode cX3_readRecipe 97 = .ok (.aload_n 0, 1) := by decide +kernel
theorem dX3_readRecipe_98 : decode cX3_readRecipe 98 = .ok (.getfield 10, 3) := by decide +kernel
theorem dX3_readRecipe_101 : decode cX3_readRecipe 101 = .ok (.getfield 30, 3) := by decide +kernel
theorem dX3_readRecipe_104 : decode cX3_readRecipe 104 = .ok (.iconst 3, 1) := by decide +kernel
theorem dX3_readRecipe_105 : decode cX3_readRecipe 105 = .ok (.if_icmp .eq 19, 3) := by decide +kernel
theorem dX3_readRecipe_108 : decode cX3_readRecipe 108 = .ok (.aload_n 0, 1) := by decide +kernel
theorem dX3_readRecipe_109 : decode cX3_readRecipe 109 = .ok (.aload_n 2, 1) := by decide +kernel
theorem dX3_readRecipe_110 : decode cX3_readRecipe 110 = .ok (.invokevirtual 65, 3) := by decide +kernel
theorem dX3_readRecipe_113 : decode cX3_readRecipe 113 = .ok (.ifCond .ne 5, 3) := by decide +kernel
theorem dX3_readRecipe_116 : decode cX3_readRecipe 116 = .ok (.iconst 0, 1) := by decide +kernel
theorem dX3_readRecipe_117 : decode cX3_readRecipe 117 = .ok (.ireturn, 1) := by decide +kernel
theorem dX3_readRecipe_118 : decode cX3_readRecipe 118 = .ok (.iinc 3 1, 3) := by decide +kernel
theorem dX3_readRecipe_121 : decode cX3_readRecipe 121 = .ok (.goto (-30), 3) := by decide +kernel
theorem dX3_readRecipe_124 : decode cX3_readRecipe 124 = .ok (.aload_n 0, 1) := by decide +kernel
theorem dX3_readRecipe_125 : decode cX3_readRecipe 125 = .ok (.getfield 10, 3) := by decide +kernel
theorem dX3_readRecipe_128 : decode cX3_readRecipe 128 = .ok (.invokevirtual 46, 3) := by decide +kernel
theorem dX3_readRecipe_131 : decode cX3_readRecipe 131 = .ok (.iconst 1, 1) := by decide +kernel
theorem dX3_readRecipe_132 : decode cX3_readRecipe 132 = .ok (.ireturn, 1) := by decide +kernel
def bX3_readRecipe_0 (f1 f2 f3 f4 f5 : ox_F) (rc : Nat → ox_K) : ox_K := o_al 0 (o_getr 3 0 (o_gs 7 (o_cv f1 10 1 (o_ifne (rc 18) (o_al 0 (o_ic (1) (o_cv f2 3 1 (o_zret))))))))
def bX3_readRecipe_18 (f1 f2 f3 f4 f5 : ox_F) (rc : Nat → ox_K) : ox_K := o_il 1 (o_ic (6) (o_iclt (rc 30) (o_al 0 (o_ic (3) (o_cv f2 3 1 (o_zret))))))
def bX3_readRecipe_30 (f1 f2 f3 f4 f5 : ox_F) (rc : Nat → ox_K) : ox_K := o_al 0 (o_getr 3 0 (o_cv f3 10 0 (o_al 0 (o_getr 3 1 (o_il 1 (o_aa 6 (o_as 2 (o_al 2 (o_ic (0) (o_puti 6 2 (o_al 0 (o_ic (0) (o_ic (15) (o_cv f4 3 2 (o_ifne (rc 61) (o_ic (0) (o_zret)))))))))))))))))
def bX3_readRecipe_61 (f1 f2 f3 f4 f5 : ox_F) (rc : Nat → ox_K) : ox_K := o_al 2 (o_al 0 (o_geti 3 5 (o_puti 6 0 (o_al 0 (o_ic (0) (o_ic (50) (o_cv f4 3 2 (o_ifne (rc 81) (o_ic (0) (o_zret))))))))))
def bX3_readRecipe_81 (f1 f2 f3 f4 f5 : ox_F) (rc : Nat → ox_K) : ox_K := o_al 2 (o_al 0 (o_geti 3 5 (o_puti 6 1 (o_ic (0) (o_is 3 (rc 91))))))
def bX3_readRecipe_91 (f1 f2 f3 f4 f5 : ox_F) (rc : Nat → ox_K) : ox_K := o_keep [0, 2, 3] (o_il 3 (o_ic (6) (o_icgt (rc 124) (o_al 0 (o_getr 3 0 (o_geti 10 2 (o_ic (3) (o_iceq (rc 124) (o_al 0 (o_al 2 (o_cv f5 3 1 (o_ifne (rc 118) (o_ic (0) (o_zret))))))))))))))
def bX3_readRecipe_118 (f1 f2 f3 f4 f5 : ox_F) (rc : Nat → ox_K) : ox_K := o_inc 3 (1) (rc 91)
def bX3_readRecipe_124 (f1 f2 f3 f4 f5 : ox_F) (rc : Nat → ox_K) : ox_K := o_al 0 (o_getr 3 0 (o_cv f3 10 0 (o_ic (1) (o_zret))))
section SX3_readRecipe
variable {p : Program} {l : Launch} {e : Env} {R : Room} {s : State} {m : MethodId} {args : Array Value} {below : List Frame} {meth : Method} {c : Code} {g : ox_G} {c0 t0 dp d1 d2 d3 d4 d5 : Nat} {rc : Nat → ox_K} {f1 f2 f3 f4 f5 : ox_F}
set_option maxRecDepth 100000 in
theorem kX3_readRecipe_0 (C : ox_C p s m args c g 4 cX3_readRecipe RX3) (hr : meth.sig.returnType = (some .boolean)) (hlk : meth.locks = false) (hnm : meth.name = "readRecipe") (hR : R.frames = dp ∧ R.locals = 60 * dp) (h1 : ox_Sem yX10_isWord cX10_isWord 3 (some .boolean) d1 f1) (e1 : d1 + 1 ≤ dp) (h2 : ox_Sem yX3_refuse cX3_refuse 2 (some .boolean) d2 f2) (e2 : d2 + 1 ≤ dp) (h3 : ox_Sem yX10_step cX10_step 3 none d3 f3) (e3 : d3 + 1 ≤ dp) (h4 : ox_Sem yX3_takeNumber cX3_takeNumber 3 (some .boolean) d4 f4) (e4 : d4 + 1 ≤ dp) (h5 : ox_Sem yX3_readStage cX3_readStage 3 (some .boolean) d5 f5) (e5 : d5 + 1 ≤ dp) (hrc : ∀ b, ox_S p l e R s m args below meth c g 4 c0 t0 (ox_QM g below args s c0 t0) b (rc b)) : ox_S p l e R s m args below meth c g 4 c0 t0 (ox_QM g below args s c0 t0) 0 (bX3_readRecipe_0 f1 f2 f3 f4 f5 rc) := by
  refine s_aload_n (pc := 0) C dX3_readRecipe_0 rfl ?_
  refine s_getr (pc := 1) (j := 0) (q := (RX3, TX3, 6)) C rfl (by decide) rfl wF_X3_10 dX3_readRecipe_1 ?_
  refine s_str (pc := 4) (tx := "recipe") C (by decide +kernel) dX3_readRecipe_4 ?_
  refine s_cv (pc := 6) (q := (RX10, TX10, 6)) C h1 rfl wM_X3_39 wI_X10_isWord wS_X10_isWord wN_X10 wC_X10_isWord (by decide +kernel) (ox_lv hR e1 (by decide)) dX3_readRecipe_6 ?_
  refine s_ifne (pc := 9) 18 C dX3_readRecipe_9 (by decide) (hrc 18) ?_
  refine s_aload_n (pc := 12) C dX3_readRecipe_12 rfl ?_
  refine s_iconst (pc := 13) C dX3_readRecipe_13 (by decide) ?_
  refine s_cv (pc := 14) (q := (RX3, TX3, 6)) C h2 rfl wM_X3_43 wI_X3_refuse wS_X3_refuse wN_X3 wC_X3_refuse (by decide +kernel) (ox_lv hR e2 (by decide)) dX3_readRecipe_14 ?_
  exact s_zret (pc := 17) C hr (by decide) hlk dX3_readRecipe_17
set_option maxRecDepth 100000 in
theorem kX3_readRecipe_18 (C : ox_C p s m args c g 4 cX3_readRecipe RX3) (hr : meth.sig.returnType = (some .boolean)) (hlk : meth.locks = false) (hnm : meth.name = "readRecipe") (hR : R.frames = dp ∧ R.locals = 60 * dp) (h1 : ox_Sem yX10_isWord cX10_isWord 3 (some .boolean) d1 f1) (e1 : d1 + 1 ≤ dp) (h2 : ox_Sem yX3_refuse cX3_refuse 2 (some .boolean) d2 f2) (e2 : d2 + 1 ≤ dp) (h3 : ox_Sem yX10_step cX10_step 3 none d3 f3) (e3 : d3 + 1 ≤ dp) (h4 : ox_Sem yX3_takeNumber cX3_takeNumber 3 (some .boolean) d4 f4) (e4 : d4 + 1 ≤ dp) (h5 : ox_Sem yX3_readStage cX3_readStage 3 (some .boolean) d5 f5) (e5 : d5 + 1 ≤ dp) (hrc : ∀ b, ox_S p l e R s m args below meth c g 4 c0 t0 (ox_QM g below args s c0 t0) b (rc b)) : ox_S p l e R s m args below meth c g 4 c0 t0 (ox_QM g below args s c0 t0) 18 (bX3_readRecipe_18 f1 f2 f3 f4 f5 rc) := by
  refine s_iload_n (pc := 18) C dX3_readRecipe_18 rfl ?_
  refine s_bipush (pc := 19) C dX3_readRecipe_19 (by decide) ?_
  refine s_icmplt (pc := 21) 30 C dX3_readRecipe_21 (by decide) (hrc 30) ?_
  refine s_aload_n (pc := 24) C dX3_readRecipe_24 rfl ?_
  refine s_iconst (pc := 25) C dX3_readRecipe_25 (by decide) ?_
  refine s_cv (pc := 26) (q := (RX3, TX3, 6)) C h2 rfl wM_X3_43 wI_X3_refuse wS_X3_refuse wN_X3 wC_X3_refuse (by decide +kernel) (ox_lv hR e2 (by decide)) dX3_readRecipe_26 ?_
  exact s_zret (pc := 29) C hr (by decide) hlk dX3_readRecipe_29
set_option maxRecDepth 100000 in
theorem kX3_readRecipe_30 (C : ox_C p s m args c g 4 cX3_readRecipe RX3) (hr : meth.sig.returnType = (some .boolean)) (hlk : meth.locks = false) (hnm : meth.name = "readRecipe") (hR : R.frames = dp ∧ R.locals = 60 * dp) (h1 : ox_Sem yX10_isWord cX10_isWord 3 (some .boolean) d1 f1) (e1 : d1 + 1 ≤ dp) (h2 : ox_Sem yX3_refuse cX3_refuse 2 (some .boolean) d2 f2) (e2 : d2 + 1 ≤ dp) (h3 : ox_Sem yX10_step cX10_step 3 none d3 f3) (e3 : d3 + 1 ≤ dp) (h4 : ox_Sem yX3_takeNumber cX3_takeNumber 3 (some .boolean) d4 f4) (e4 : d4 + 1 ≤ dp) (h5 : ox_Sem yX3_readStage cX3_readStage 3 (some .boolean) d5 f5) (e5 : d5 + 1 ≤ dp) (hrc : ∀ b, ox_S p l e R s m args below meth c g 4 c0 t0 (ox_QM g below args s c0 t0) b (rc b)) : ox_S p l e R s m args below meth c g 4 c0 t0 (ox_QM g below args s c0 t0) 30 (bX3_readRecipe_30 f1 f2 f3 f4 f5 rc) := by
  refine s_aload_n (pc := 30) C dX3_readRecipe_30 rfl ?_
  refine s_getr (pc := 31) (j := 0) (q := (RX3, TX3, 6)) C rfl (by decide) rfl wF_X3_10 dX3_readRecipe_31 ?_
  refine s_cv (pc := 34) (q := (RX10, TX10, 6)) C h3 rfl wM_X3_46 wI_X10_step wS_X10_step wN_X10 wC_X10_step (by decide +kernel) (ox_lv hR e3 (by decide)) dX3_readRecipe_34 ?_
  refine s_aload_n (pc := 37) C dX3_readRecipe_37 rfl ?_
  refine s_getr (pc := 38) (j := 1) (q := (RX3, TX3, 6)) C rfl (by decide) rfl wF_X3_18 dX3_readRecipe_38 ?_
  refine s_iload_n (pc := 41) C dX3_readRecipe_41 rfl ?_
  refine s_aa (pc := 42) (q := (RX6, TX6, 5)) 5 C rfl dX3_readRecipe_42 ?_
  refine s_astore_n (pc := 43) C dX3_readRecipe_43 rfl (by decide) ?_
  refine s_aload_n (pc := 44) C dX3_readRecipe_44 rfl ?_
  refine s_iconst (pc := 45) C dX3_readRecipe_45 (by decide) ?_
  refine s_puti (pc := 46) (j := 2) (q := (RX6, TX6, 5)) C rfl (by decide) rfl (Or.inl rfl) wF_X3_49 dX3_readRecipe_46 ?_
  refine s_aload_n (pc := 49) C dX3_readRecipe_49 rfl ?_
  refine s_iconst (pc := 50) C dX3_readRecipe_50 (by decide) ?_
  refine s_bipush (pc := 51) C dX3_readRecipe_51 (by decide) ?_
  refine s_cv (pc := 53) (q := (RX3, TX3, 6)) C h4 rfl wM_X3_52 wI_X3_takeNumber wS_X3_takeNumber wN_X3 wC_X3_takeNumber (by decide +kernel) (ox_lv hR e4 (by decide)) dX3_readRecipe_53 ?_
  refine s_ifne (pc := 56) 61 C dX3_readRecipe_56 (by decide) (hrc 61) ?_
  refine s_iconst (pc := 59) C dX3_readRecipe_59 (by decide) ?_
  exact s_zret (pc := 60) C hr (by decide) hlk dX3_readRecipe_60
set_option maxRecDepth 100000 in
theorem kX3_readRecipe_61 (C : ox_C p s m args c g 4 cX3_readRecipe RX3) (hr : meth.sig.returnType = (some .boolean)) (hlk : meth.locks = false) (hnm : meth.name = "readRecipe") (hR : R.frames = dp ∧ R.locals = 60 * dp) (h1 : ox_Sem yX10_isWord cX10_isWord 3 (some .boolean) d1 f1) (e1 : d1 + 1 ≤ dp) (h2 : ox_Sem yX3_refuse cX3_refuse 2 (some .boolean) d2 f2) (e2 : d2 + 1 ≤ dp) (h3 : ox_Sem yX10_step cX10_step 3 none d3 f3) (e3 : d3 + 1 ≤ dp) (h4 : ox_Sem yX3_takeNumber cX3_takeNumber 3 (some .boolean) d4 f4) (e4 : d4 + 1 ≤ dp) (h5 : ox_Sem yX3_readStage cX3_readStage 3 (some .boolean) d5 f5) (e5 : d5 + 1 ≤ dp) (hrc : ∀ b, ox_S p l e R s m args below meth c g 4 c0 t0 (ox_QM g below args s c0 t0) b (rc b)) : ox_S p l e R s m args below meth c g 4 c0 t0 (ox_QM g below args s c0 t0) 61 (bX3_readRecipe_61 f1 f2 f3 f4 f5 rc) := by
  refine s_aload_n (pc := 61) C dX3_readRecipe_61 rfl ?_
  refine s_aload_n (pc := 62) C dX3_readRecipe_62 rfl ?_
  refine s_geti (pc := 63) (j := 5) (q := (RX3, TX3, 6)) C rfl (by decide) rfl wF_X3_56 dX3_readRecipe_63 ?_
  refine s_puti (pc := 66) (j := 0) (q := (RX6, TX6, 5)) C rfl (by decide) rfl (Or.inl rfl) wF_X3_59 dX3_readRecipe_66 ?_
  refine s_aload_n (pc := 69) C dX3_readRecipe_69 rfl ?_
  refine s_iconst (pc := 70) C dX3_readRecipe_70 (by decide) ?_
  refine s_bipush (pc := 71) C dX3_readRecipe_71 (by decide) ?_
  refine s_cv (pc := 73) (q := (RX3, TX3, 6)) C h4 rfl wM_X3_52 wI_X3_takeNumber wS_X3_takeNumber wN_X3 wC_X3_takeNumber (by decide +kernel) (ox_lv hR e4 (by decide)) dX3_readRecipe_73 ?_
  refine s_ifne (pc := 76) 81 C dX3_readRecipe_76 (by decide) (hrc 81) ?_
  refine s_iconst (pc := 79) C dX3_readRecipe_79 (by decide) ?_
  exact s_zret (pc := 80) C hr (by decide) hlk dX3_readRecipe_80
set_option maxRecDepth 100000 in
theorem kX3_readRecipe_81 (C : ox_C p s m args c g 4 cX3_readRecipe RX3) (hr : meth.sig.returnType = (some .boolean)) (hlk : meth.locks = false) (hnm : meth.name = "readRecipe") (hR : R.frames = dp ∧ R.locals = 60 * dp) (h1 : ox_Sem yX10_isWord cX10_isWord 3 (some .boolean) d1 f1) (e1 : d1 + 1 ≤ dp) (h2 : ox_Sem yX3_refuse cX3_refuse 2 (some .boolean) d2 f2) (e2 : d2 + 1 ≤ dp) (h3 : ox_Sem yX10_step cX10_step 3 none d3 f3) (e3 : d3 + 1 ≤ dp) (h4 : ox_Sem yX3_takeNumber cX3_takeNumber 3 (some .boolean) d4 f4) (e4 : d4 + 1 ≤ dp) (h5 : ox_Sem yX3_readStage cX3_readStage 3 (some .boolean) d5 f5) (e5 : d5 + 1 ≤ dp) (hrc : ∀ b, ox_S p l e R s m args below meth c g 4 c0 t0 (ox_QM g below args s c0 t0) b (rc b)) : ox_S p l e R s m args below meth c g 4 c0 t0 (ox_QM g below args s c0 t0) 81 (bX3_readRecipe_81 f1 f2 f3 f4 f5 rc) := by
  refine s_aload_n (pc := 81) C dX3_readRecipe_81 rfl ?_
  refine s_aload_n (pc := 82) C dX3_readRecipe_82 rfl ?_
  refine s_geti (pc := 83) (j := 5) (q := (RX3, TX3, 6)) C rfl (by decide) rfl wF_X3_56 dX3_readRecipe_83 ?_
  refine s_puti (pc := 86) (j := 1) (q := (RX6, TX6, 5)) C rfl (by decide) rfl (Or.inl rfl) wF_X3_62 dX3_readRecipe_86 ?_
  refine s_iconst (pc := 89) C dX3_readRecipe_89 (by decide) ?_
  refine s_istore_n (pc := 90) C dX3_readRecipe_90 rfl (by decide) ?_
  exact hrc 91
set_option maxRecDepth 100000 in
theorem kX3_readRecipe_91 (C : ox_C p s m args c g 4 cX3_readRecipe RX3) (hr : meth.sig.returnType = (some .boolean)) (hlk : meth.locks = false) (hnm : meth.name = "readRecipe") (hR : R.frames = dp ∧ R.locals = 60 * dp) (h1 : ox_Sem yX10_isWord cX10_isWord 3 (some .boolean) d1 f1) (e1 : d1 + 1 ≤ dp) (h2 : ox_Sem yX3_refuse cX3_refuse 2 (some .boolean) d2 f2) (e2 : d2 + 1 ≤ dp) (h3 : ox_Sem yX10_step cX10_step 3 none d3 f3) (e3 : d3 + 1 ≤ dp) (h4 : ox_Sem yX3_takeNumber cX3_takeNumber 3 (some .boolean) d4 f4) (e4 : d4 + 1 ≤ dp) (h5 : ox_Sem yX3_readStage cX3_readStage 3 (some .boolean) d5 f5) (e5 : d5 + 1 ≤ dp) (hrc : ∀ b, ox_S p l e R s m args below meth c g 4 c0 t0 (ox_QM g below args s c0 t0) b (rc b)) : ox_S p l e R s m args below meth c g 4 c0 t0 (ox_QM g below args s c0 t0) 91 (bX3_readRecipe_91 f1 f2 f3 f4 f5 rc) := by
  refine s_keep ?_
  refine s_iload_n (pc := 91) C dX3_readRecipe_91 rfl ?_
  refine s_bipush (pc := 92) C dX3_readRecipe_92 (by decide) ?_
  refine s_icmpgt (pc := 94) 124 C dX3_readRecipe_94 (by decide) (hrc 124) ?_
  refine s_aload_n (pc := 97) C dX3_readRecipe_97 rfl ?_
  refine s_getr (pc := 98) (j := 0) (q := (RX3, TX3, 6)) C rfl (by decide) rfl wF_X3_10 dX3_readRecipe_98 ?_
  refine s_geti (pc := 101) (j := 2) (q := (RX10, TX10, 6)) C rfl (by decide) rfl wF_X3_30 dX3_readRecipe_101 ?_
  refine s_iconst (pc := 104) C dX3_readRecipe_104 (by decide) ?_
  refine s_icmpeq (pc := 105) 124 C dX3_readRecipe_105 (by decide) (hrc 124) ?_
  refine s_aload_n (pc := 108) C dX3_readRecipe_108 rfl ?_
  refine s_aload_n (pc := 109) C dX3_readRecipe_109 rfl ?_
  refine s_cv (pc := 110) (q := (RX3, TX3, 6)) C h5 rfl wM_X3_65 wI_X3_readStage wS_X3_readStage wN_X3 wC_X3_readStage (by decide +kernel) (ox_lv hR e5 (by decide)) dX3_readRecipe_110 ?_
  refine s_ifne (pc := 113) 118 C dX3_readRecipe_113 (by decide) (hrc 118) ?_
  refine s_iconst (pc := 116) C dX3_readRecipe_116 (by decide) ?_
  exact s_zret (pc := 117) C hr (by decide) hlk dX3_readRecipe_117
set_option maxRecDepth 100000 in
theorem kX3_readRecipe_118 (C : ox_C p s m args c g 4 cX3_readRecipe RX3) (hr : meth.sig.returnType = (some .boolean)) (hlk : meth.locks = false) (hnm : meth.name = "readRecipe") (hR : R.frames = dp ∧ R.locals = 60 * dp) (h1 : ox_Sem yX10_isWord cX10_isWord 3 (some .boolean) d1 f1) (e1 : d1 + 1 ≤ dp) (h2 : ox_Sem yX3_refuse cX3_refuse 2 (some .boolean) d2 f2) (e2 : d2 + 1 ≤ dp) (h3 : ox_Sem yX10_step cX10_step 3 none d3 f3) (e3 : d3 + 1 ≤ dp) (h4 : ox_Sem yX3_takeNumber cX3_takeNumber 3 (some .boolean) d4 f4) (e4 : d4 + 1 ≤ dp) (h5 : ox_Sem yX3_readStage cX3_readStage 3 (some .boolean) d5 f5) (e5 : d5 + 1 ≤ dp) (hrc : ∀ b, ox_S p l e R s m args below meth c g 4 c0 t0 (ox_QM g below args s c0 t0) b (rc b)) : ox_S p l e R s m args below meth c g 4 c0 t0 (ox_QM g below args s c0 t0) 118 (bX3_readRecipe_118 f1 f2 f3 f4 f5 rc) := by
  refine s_iinc (pc := 118) C dX3_readRecipe_118 (by decide) (by decide) ?_
  exact s_goto (pc := 121) 91 C dX3_readRecipe_121 (by decide) (hrc 91)
set_option maxRecDepth 100000 in
theorem kX3_readRecipe_124 (C : ox_C p s m args c g 4 cX3_readRecipe RX3) (hr : meth.sig.returnType = (some .boolean)) (hlk : meth.locks = false) (hnm : meth.name = "readRecipe") (hR : R.frames = dp ∧ R.locals = 60 * dp) (h1 : ox_Sem yX10_isWord cX10_isWord 3 (some .boolean) d1 f1) (e1 : d1 + 1 ≤ dp) (h2 : ox_Sem yX3_refuse cX3_refuse 2 (some .boolean) d2 f2) (e2 : d2 + 1 ≤ dp) (h3 : ox_Sem yX10_step cX10_step 3 none d3 f3) (e3 : d3 + 1 ≤ dp) (h4 : ox_Sem yX3_takeNumber cX3_takeNumber 3 (some .boolean) d4 f4) (e4 : d4 + 1 ≤ dp) (h5 : ox_Sem yX3_readStage cX3_readStage 3 (some .boolean) d5 f5) (e5 : d5 + 1 ≤ dp) (hrc : ∀ b, ox_S p l e R s m args below meth c g 4 c0 t0 (ox_QM g below args s c0 t0) b (rc b)) : ox_S p l e R s m args below meth c g 4 c0 t0 (ox_QM g below args s c0 t0) 124 (bX3_readRecipe_124 f1 f2 f3 f4 f5 rc) := by
  refine s_aload_n (pc := 124) C dX3_readRecipe_124 rfl ?_
  refine s_getr (pc := 125) (j := 0) (q := (RX3, TX3, 6)) C rfl (by decide) rfl wF_X3_10 dX3_readRecipe_125 ?_
  refine s_cv (pc := 128) (q := (RX10, TX10, 6)) C h3 rfl wM_X3_46 wI_X10_step wS_X10_step wN_X10 wC_X10_step (by decide +kernel) (ox_lv hR e3 (by decide)) dX3_readRecipe_128 ?_
  refine s_iconst (pc := 131) C dX3_readRecipe_131 (by decide) ?_
  exact s_zret (pc := 132) C hr (by decide) hlk dX3_readRecipe_132
end SX3_readRecipe
def bsX3_readRecipe (f1 f2 f3 f4 f5 : ox_F) (b : Nat) (rc : Nat → ox_K) : ox_K := if b = 0 then bX3_readRecipe_0 f1 f2 f3 f4 f5 rc else if b = 18 then bX3_readRecipe_18 f1 f2 f3 f4 f5 rc else if b = 30 then bX3_readRecipe_30 f1 f2 f3 f4 f5 rc else if b = 61 then bX3_readRecipe_61 f1 f2 f3 f4 f5 rc else if b = 81 then bX3_readRecipe_81 f1 f2 f3 f4 f5 rc else if b = 91 then bX3_readRecipe_91 f1 f2 f3 f4 f5 rc else if b = 118 then bX3_readRecipe_118 f1 f2 f3 f4 f5 rc else if b = 124 then bX3_readRecipe_124 f1 f2 f3 f4 f5 rc else ox_no
theorem mX3_readRecipe {dp d1 d2 d3 d4 d5 : Nat} {f1 f2 f3 f4 f5 f : ox_F} (h1 : ox_Sem yX10_isWord cX10_isWord 3 (some .boolean) d1 f1) (e1 : d1 + 1 ≤ dp) (h2 : ox_Sem yX3_refuse cX3_refuse 2 (some .boolean) d2 f2) (e2 : d2 + 1 ≤ dp) (h3 : ox_Sem yX10_step cX10_step 3 none d3 f3) (e3 : d3 + 1 ≤ dp) (h4 : ox_Sem yX3_takeNumber cX3_takeNumber 3 (some .boolean) d4 f4) (e4 : d4 + 1 ≤ dp) (h5 : ox_Sem yX3_readStage cX3_readStage 3 (some .boolean) d5 f5) (e5 : d5 + 1 ≤ dp) (hf : ∀ as h r, f as h = some r → ox_cs as ≤ 4 ∧ ox_le h r.2 ∧ ∃ n, ox_run (bsX3_readRecipe f1 f2 f3 f4 f5) n 0 (lv_args 0 as) [] h = some r) : ox_Sem yX3_readRecipe cX3_readRecipe 4 (some .boolean) dp f := by
  refine ox_meth (bs := bsX3_readRecipe f1 f2 f3 f4 f5) (by decide) hf ?_
  intro p l e R s m args below meth c g c0 t0 C hr hlk hnm hR rc hrc b
  unfold bsX3_readRecipe
  refine ox_br (kX3_readRecipe_0 C hr hlk hnm hR h1 e1 h2 e2 h3 e3 h4 e4 h5 e5 hrc) ?_
  refine ox_br (kX3_readRecipe_18 C hr hlk hnm hR h1 e1 h2 e2 h3 e3 h4 e4 h5 e5 hrc) ?_
  refine ox_br (kX3_readRecipe_30 C hr hlk hnm hR h1 e1 h2 e2 h3 e3 h4 e4 h5 e5 hrc) ?_
  refine ox_br (kX3_readRecipe_61 C hr hlk hnm hR h1 e1 h2 e2 h3 e3 h4 e4 h5 e5 hrc) ?_
  refine ox_br (kX3_readRecipe_81 C hr hlk hnm hR h1 e1 h2 e2 h3 e3 h4 e4 h5 e5 hrc) ?_
  refine ox_br (kX3_readRecipe_91 C hr hlk hnm hR h1 e1 h2 e2 h3 e3 h4 e4 h5 e5 hrc) ?_
  refine ox_br (kX3_readRecipe_118 C hr hlk hnm hR h1 e1 h2 e2 h3 e3 h4 e4 h5 e5 hrc) ?_
  refine ox_br (kX3_readRecipe_124 C hr hlk hnm hR h1 e1 h2 e2 h3 e3 h4 e4 h5 e5 hrc) ?_
  exact s_no
theorem dX3_readStage_0 : decode cX3_readStage 0 = .ok (.aload_n 0, 1) := by decide +kernel
theorem dX3_readStage_1 : decode cX3_readStage 1 = .ok (.getfield 10, 3) := by decide +kernel
theorem dX3_readStage_4 : decode cX3_readStage 4 = .ok (.ldc 69, 2) := by decide +kernel
theorem dX3_readStage_6 : decode cX3_readStage 6 = .ok (.invokevirtual 39, 3) := by decide +kernel
theorem dX3_readStage_9 : decode cX3_readStage 9 = .ok (.istore_n 2, 1) := by decide +kernel
theorem dX3_readStage_10 : decode cX3_readStage 10 = .ok (.iload_n 2, 1) := by decide +kernel
theorem dX3_readStage_11 : decode cX3_readStage 11 = .ok (.ifCond .ne 21, 3) := by decide +kernel
theorem dX3_readStage_14 : decode cX3_readStage 14 = .ok (.aload_n 0, 1) := by decide +kernel
theorem dX3_readStage_15 : decode cX3_readStage 15 = .ok (.getfield 10, 3) := by decide +kernel
theorem dX3_readStage_18 : decode cX3_readStage 18 = .ok (.ldc 71, 2) := by decide +kernel
theorem dX3_readStage_20 : decode cX3_readStage 20 = .ok (.invokevirtual 39, 3) := by decide +kernel
theorem dX3_readStage_23 : decode cX3_readStage 23 = .ok (.ifCond .ne 9, 3) := by decide +kernel
theorem dX3_readStage_26 : decode cX3_readStage 26 = .ok (.aload_n 0, 1) := by decide +kernel
theorem dX3_readStage_27 : decode cX3_readStage 27 = .ok (.iconst 1, 1) := by decide +kernel
theorem dX3_readStage_28 : decode cX3_readStage 28 = .ok (.invokevirtual 43, 3) := by decide +kernel
theorem dX3_readStage_31 : decode cX3_readStage 31 = .ok (.ireturn, 1) := by decide +kernel
theorem dX3_readStage_32 : decode cX3_readStage 32 = .ok (.aload_n 1, 1) := by decide +kernel
theorem dX3_readStage_33 : decode cX3_readStage 33 = .ok (.getfield 49, 3) := by decide +kernel
theorem dX3_readStage_36 : decode cX3_readStage 36 = .ok (.bipush 6, 2) := by decide +kernel
theorem dX3_readStage_38 : decode cX3_readStage 38 = .ok (.if_icmp .lt 9, 3) := by decide +kernel
theorem dX3_readStage_41 : decode cX3_readStage 41 = .ok (.aload_n 0, 1) := by decide +kernel
theorem dX3_readStage_42 : decode cX3_readStage 42 = .ok (.iconst 3, 1) := by decide +kernel
theorem dX3_readStage_43 : decode cX3_readStage 43 = .ok (.invokevirtual 43, 3) := by decide +kernel
theorem dX3_readStage_46 : decode cX3_readStage 46 = .ok (.ireturn, 1) := by decide +kernel
theorem dX3_readStage_47 : decode cX3_readStage 47 = .ok (.aload_n 0, 1) := by decide +kernel
theorem dX3_readStage_48 : decode cX3_readStage 48 = .ok (.getfield 10, 3) := by decide +kernel
theorem dX3_readStage_51 : decode cX3_readStage 51 = .ok (.invokevirtual 46, 3) := by decide +kernel
theorem dX3_readStage_54 : decode cX3_readStage 54 = .ok (.iload_n 2, 1) := by decide +kernel
theorem dX3_readStage_55 : decode cX3_readStage 55 = .ok (.ifCond .eq 16, 3) := by decide +kernel
theorem dX3_readStage_58 : decode cX3_readStage 58 = .ok (.aload_n 0, 1) := by decide +kernel
theorem dX3_readStage_59 : decode cX3_readStage 59 = .ok (.iconst 0, 1) := by decide +kernel
theorem dX3_readStage_60 : decode cX3_readStage 60 = .ok (.bipush 60, 2) := by decide +kernel
theorem dX3_readStage_62 : decode cX3_readStage 62 = .ok (.invokevirtual 52, 3) := by decide +kernel
theorem dX3_readStage_65 : decode cX3_readStage 65 = .ok (.ifCond .eq 16, 3) := by decide +kernel
theorem dX3_readStage_68 : decode cX3_readStage 68 = .ok (.goto 15, 3) := by decide +kernel
theorem dX3_readStage_71 : decode cX3_readStage 71 = .ok (.aload_n 0, 1) := by decide +kernel
theorem dX3_readStage_72 : decode cX3_readStage 72 = .ok (.iconst 1, 1) := by decide +kernel
theorem dX3_readStage_73 : decode cX3_readStage 73 = .ok (.bipush 50, 2) := by decide +kernel
theorem dX3_readStage_75 : decode cX3_readStage 75 = .ok (.invokevirtual 52, 3) := by decide +kernel
theorem dX3_readStage_78 : decode cX3_readStage 78 = .ok (.ifCond .ne 5, 3) := by decide +kernel
theorem dX3_readStage_81 : decode cX3_readStage 81 = .ok (.iconst 0, 1) := by decide +kernel
theorem dX3_readStage_82 : decode cX3_readStage 82 = .ok (.ireturn, 1) := by decide +kernel
theorem dX3_readStage_83 : decode cX3_readStage 83 = .ok (.aload_n 1, 1) := by decide +kernel
theorem dX3_readStage_84 : decode cX3_readStage 84 = .ok (.getfield 73, 3) := by decide +kernel
theorem dX3_readStage_87 : decode cX3_readStage 87 = .ok (.aload_n 1, 1) := by decide +kernel
theorem dX3_readStage_88 : decode cX3_readStage 88 = .ok (.getfield 49, 3) := by decide +kernel
theorem dX3_readStage_91 : decode cX3_readStage 91 = .ok (.aload_n 0, 1) := by decide +kernel
theorem dX3_readStage_92 : decode cX3_readStage 92 = .ok (.getfield 56, 3) := by decide +kernel
theorem dX3_readStage_95 : decode cX3_readStage 95 = .ok (.iastore, 1) := by decide +kernel
theorem dX3_readStage_96 : decode cX3_readStage 96 = .ok (.iload_n 2, 1) := by decide +kernel
theorem dX3_readStage_97 : decode cX3_readStage 97 = .ok (.ifCond .eq 15, 3) := by decide +kernel
theorem dX3_readStage_100 : decode cX3_readStage 100 = .ok (.aload_n 0, 1) := by decide +kernel
theorem dX3_readStage_101 : decode cX3_readStage 101 = .ok (.iconst 1, 1) := by decide +kernel
theorem dX3_readStage_102 : decode cX3_readStage 102 = .ok (.bipush 60, 2) := by decide +kernel
theorem dX3_readStage_104 : decode cX3_readStage 104 = .ok (.invokevirtual 52, 3) := by decide +kernel
theorem dX3_readStage_107 : decode cX3_readStage 107 = .ok (.ifCond .ne 5, 3) := by decide +kernel
theorem dX3_readStage_110 : decode cX3_readStage 110 = .ok (.iconst 0, 1) := by decide +kernel
theorem dX3_readStage_111 : decode cX3_readStage 111 = .ok (.ireturn, 1) := by decide +kernel
theorem dX3_readStage_112 : decode cX3_readStage 112 = .ok (.aload_n 1, 1) := by decide +kernel
theorem dX3_readStage_113 : decode cX3_readStage 113 = .ok (.getfield 77, 3) := by decide +kernel
theorem dX3_readStage_116 : decode cX3_readStage 116 = .ok (.aload_n 1, 1) := by decide +kernel
theorem dX3_readStage_117 : decode cX3_readStage 117 = .ok (.getfield 49, 3) := by decide +kernel
theorem dX3_readStage_120 : decode cX3_readStage 120 = .ok (.iload_n 2, 1) := by decide +kernel
theorem dX3_readStage_121 : decode cX3_readStage 121 = .ok (.ifCond .eq 10, 3) := by decide +kernel
theorem dX3_readStage_124 : decode cX3_readStage 124 = .ok (.aload_n 0, 1) := by decide +kernel
theorem dX3_readStage_125 : decode cX3_readStage 125 = .ok (.getfield 56, 3) := by decide +kernel
theorem dX3_readStage_128 : decode cX3_readStage 128 = .ok (.goto 4, 3) := by decide +kernel
theorem dX3_readStage_131 : decode cX3_readStage 131 = .ok (.iconst 0, 1) := by decide +kernel
theorem dX3_readStage_132 : decode cX3_readStage 132 = .ok (.iastore, 1) := by decide +kernel
theorem dX3_readStage_133 : decode cX3_readStage 133 = .ok (.aload_n 1, 1) := by decide +kernel
theorem dX3_readStage_134 : decode cX3_readStage 134 = .ok (.dup, 1) := by decide +kernel
theorem dX3_readStage_135 : decode cX3_readStage 135 = .ok (.getfield 49, 3) := by decide +kernel
theorem dX3_readStage_138 : decode cX3_readStage 138 = .ok (.iconst 1, 1) := by decide +kernel
theorem dX3_readStage_139 : decode cX3_readStage 139 = .ok (.iadd, 1) := by decide +kernel
theorem dX3_readStage_140 : decode cX3_readStage 140 = .ok (.putfield 49, 3) := by decide +kernel
theorem dX3_readStage_143 : decode cX3_readStage 143 = .ok (.iconst 1, 1) := by decide +kernel
theorem dX3_readStage_144 : decode cX3_readStage 144 = .ok (.ireturn, 1) := by decide +kernel
def bX3_readStage_0 (f1 f2 f3 f4 : ox_F) (rc : Nat → ox_K) : ox_K := o_al 0 (o_getr 3 0 (o_gs 8 (o_cv f1 10 1 (o_is 2 (o_il 2 (o_ifne (rc 32) (o_al 0 (o_getr 3 0 (o_gs 9 (o_cv f1 10 1 (o_ifne (rc 32) (o_al 0 (o_ic (1) (o_cv f2 3 1 (o_zret)))))))))))))))
def bX3_readStage_32 (f1 f2 f3 f4 : ox_F) (rc : Nat → ox_K) : ox_K := o_al 1 (o_geti 6 2 (o_ic (6) (o_iclt (rc 47) (o_al 0 (o_ic (3) (o_cv f2 3 1 (o_zret)))))))
def bX3_readStage_47 (f1 f2 f3 f4 : ox_F) (rc : Nat → ox_K) : ox_K := o_al 0 (o_getr 3 0 (o_cv f3 10 0 (o_il 2 (o_ifeq (rc 71) (o_al 0 (o_ic (0) (o_ic (60) (o_cv f4 3 2 (o_ifeq (rc 81) (rc 83))))))))))
def bX3_readStage_71 (f1 f2 f3 f4 : ox_F) (rc : Nat → ox_K) : ox_K := o_al 0 (o_ic (1) (o_ic (50) (o_cv f4 3 2 (o_ifne (rc 83) (rc 81)))))
def bX3_readStage_81 (f1 f2 f3 f4 : ox_F) (rc : Nat → ox_K) : ox_K := o_ic (0) (o_zret)
def bX3_readStage_83 (f1 f2 f3 f4 : ox_F) (rc : Nat → ox_K) : ox_K := o_al 1 (o_getr 6 3 (o_al 1 (o_geti 6 2 (o_al 0 (o_geti 3 5 (o_iast (o_il 2 (o_ifeq (rc 112) (o_al 0 (o_ic (1) (o_ic (60) (o_cv f4 3 2 (o_ifne (rc 112) (o_ic (0) (o_zret)))))))))))))))
def bX3_readStage_112 (f1 f2 f3 f4 : ox_F) (rc : Nat → ox_K) : ox_K := o_al 1 (o_getr 6 4 (o_al 1 (o_geti 6 2 (o_il 2 (o_ifeq (rc 131) (o_al 0 (o_geti 3 5 (rc 132))))))))
def bX3_readStage_131 (f1 f2 f3 f4 : ox_F) (rc : Nat → ox_K) : ox_K := o_ic (0) (rc 132)
def bX3_readStage_132 (f1 f2 f3 f4 : ox_F) (rc : Nat → ox_K) : ox_K := o_iast (o_al 1 (o_dup (o_geti 6 2 (o_ic (1) (o_iadd (o_puti 6 2 (o_ic (1) (o_zret))))))))
section SX3_readStage
variable {p : Program} {l : Launch} {e : Env} {R : Room} {s : State} {m : MethodId} {args : Array Value} {below : List Frame} {meth : Method} {c : Code} {g : ox_G} {c0 t0 dp d1 d2 d3 d4 : Nat} {rc : Nat → ox_K} {f1 f2 f3 f4 : ox_F}
set_option maxRecDepth 100000 in
theorem kX3_readStage_0 (C : ox_C p s m args c g 3 cX3_readStage RX3) (hr : meth.sig.returnType = (some .boolean)) (hlk : meth.locks = false) (hnm : meth.name = "readStage") (hR : R.frames = dp ∧ R.locals = 60 * dp) (h1 : ox_Sem yX10_isWord cX10_isWord 3 (some .boolean) d1 f1) (e1 : d1 + 1 ≤ dp) (h2 : ox_Sem yX3_refuse cX3_refuse 2 (some .boolean) d2 f2) (e2 : d2 + 1 ≤ dp) (h3 : ox_Sem yX10_step cX10_step 3 none d3 f3) (e3 : d3 + 1 ≤ dp) (h4 : ox_Sem yX3_takeNumber cX3_takeNumber 3 (some .boolean) d4 f4) (e4 : d4 + 1 ≤ dp) (hrc : ∀ b, ox_S p l e R s m args below meth c g 3 c0 t0 (ox_QM g below args s c0 t0) b (rc b)) : ox_S p l e R s m args below meth c g 3 c0 t0 (ox_QM g below args s c0 t0) 0 (bX3_readStage_0 f1 f2 f3 f4 rc) := by
  refine s_aload_n (pc := 0) C dX3_readStage_0 rfl ?_
  refine s_getr (pc := 1) (j := 0) (q := (RX3, TX3, 6)) C rfl (by decide) rfl wF_X3_10 dX3_readStage_1 ?_
  refine s_str (pc := 4) (tx := "warm") C (by decide +kernel) dX3_readStage_4 ?_
  refine s_cv (pc := 6) (q := (RX10, TX10, 6)) C h1 rfl wM_X3_39 wI_X10_isWord wS_X10_isWord wN_X10 wC_X10_isWord (by decide +kernel) (ox_lv hR e1 (by decide)) dX3_readStage_6 ?_
  refine s_istore_n (pc := 9) C dX3_readStage_9 rfl (by decide) ?_
  refine s_iload_n (pc := 10) C dX3_readStage_10 rfl ?_
  refine s_ifne (pc := 11) 32 C dX3_readStage_11 (by decide) (hrc 32) ?_
  refine s_aload_n (pc := 14) C dX3_readStage_14 rfl ?_
  refine s_getr (pc := 15) (j := 0) (q := (RX3, TX3, 6)) C rfl (by decide) rfl wF_X3_10 dX3_readStage_15 ?_
  refine s_str (pc := 18) (tx := "seed") C (by decide +kernel) dX3_readStage_18 ?_
  refine s_cv (pc := 20) (q := (RX10, TX10, 6)) C h1 rfl wM_X3_39 wI_X10_isWord wS_X10_isWord wN_X10 wC_X10_isWord (by decide +kernel) (ox_lv hR e1 (by decide)) dX3_readStage_20 ?_
  refine s_ifne (pc := 23) 32 C dX3_readStage_23 (by decide) (hrc 32) ?_
  refine s_aload_n (pc := 26) C dX3_readStage_26 rfl ?_
  refine s_iconst (pc := 27) C dX3_readStage_27 (by decide) ?_
  refine s_cv (pc := 28) (q := (RX3, TX3, 6)) C h2 rfl wM_X3_43 wI_X3_refuse wS_X3_refuse wN_X3 wC_X3_refuse (by decide +kernel) (ox_lv hR e2 (by decide)) dX3_readStage_28 ?_
  exact s_zret (pc := 31) C hr (by decide) hlk dX3_readStage_31
set_option maxRecDepth 100000 in
theorem kX3_readStage_32 (C : ox_C p s m args c g 3 cX3_readStage RX3) (hr : meth.sig.returnType = (some .boolean)) (hlk : meth.locks = false) (hnm : meth.name = "readStage") (hR : R.frames = dp ∧ R.locals = 60 * dp) (h1 : ox_Sem yX10_isWord cX10_isWord 3 (some .boolean) d1 f1) (e1 : d1 + 1 ≤ dp) (h2 : ox_Sem yX3_refuse cX3_refuse 2 (some .boolean) d2 f2) (e2 : d2 + 1 ≤ dp) (h3 : ox_Sem yX10_step cX10_step 3 none d3 f3) (e3 : d3 + 1 ≤ dp) (h4 : ox_Sem yX3_takeNumber cX3_takeNumber 3 (some .boolean) d4 f4) (e4 : d4 + 1 ≤ dp) (hrc : ∀ b, ox_S p l e R s m args below meth c g 3 c0 t0 (ox_QM g below args s c0 t0) b (rc b)) : ox_S p l e R s m args below meth c g 3 c0 t0 (ox_QM g below args s c0 t0) 32 (bX3_readStage_32 f1 f2 f3 f4 rc) := by
  refine s_aload_n (pc := 32) C dX3_readStage_32 rfl ?_
  refine s_geti (pc := 33) (j := 2) (q := (RX6, TX6, 5)) C rfl (by decide) rfl wF_X3_49 dX3_readStage_33 ?_
  refine s_bipush (pc := 36) C dX3_readStage_36 (by decide) ?_
  refine s_icmplt (pc := 38) 47 C dX3_readStage_38 (by decide) (hrc 47) ?_
  refine s_aload_n (pc := 41) C dX3_readStage_41 rfl ?_
  refine s_iconst (pc := 42) C dX3_readStage_42 (by decide) ?_
  refine s_cv (pc := 43) (q := (RX3, TX3, 6)) C h2 rfl wM_X3_43 wI_X3_refuse wS_X3_refuse wN_X3 wC_X3_refuse (by decide +kernel) (ox_lv hR e2 (by decide)) dX3_readStage_43 ?_
  exact s_zret (pc := 46) C hr (by decide) hlk dX3_readStage_46
set_option maxRecDepth 100000 in
theorem kX3_readStage_47 (C : ox_C p s m args c g 3 cX3_readStage RX3) (hr : meth.sig.returnType = (some .boolean)) (hlk : meth.locks = false) (hnm : meth.name = "readStage") (hR : R.frames = dp ∧ R.locals = 60 * dp) (h1 : ox_Sem yX10_isWord cX10_isWord 3 (some .boolean) d1 f1) (e1 : d1 + 1 ≤ dp) (h2 : ox_Sem yX3_refuse cX3_refuse 2 (some .boolean) d2 f2) (e2 : d2 + 1 ≤ dp) (h3 : ox_Sem yX10_step cX10_step 3 none d3 f3) (e3 : d3 + 1 ≤ dp) (h4 : ox_Sem yX3_takeNumber cX3_takeNumber 3 (some .boolean) d4 f4) (e4 : d4 + 1 ≤ dp) (hrc : ∀ b, ox_S p l e R s m args below meth c g 3 c0 t0 (ox_QM g below args s c0 t0) b (rc b)) : ox_S p l e R s m args below meth c g 3 c0 t0 (ox_QM g below args s c0 t0) 47 (bX3_readStage_47 f1 f2 f3 f4 rc) := by
  refine s_aload_n (pc := 47) C dX3_readStage_47 rfl ?_
  refine s_getr (pc := 48) (j := 0) (q := (RX3, TX3, 6)) C rfl (by decide) rfl wF_X3_10 dX3_readStage_48 ?_
  refine s_cv (pc := 51) (q := (RX10, TX10, 6)) C h3 rfl wM_X3_46 wI_X10_step wS_X10_step wN_X10 wC_X10_step (by decide +kernel) (ox_lv hR e3 (by decide)) dX3_readStage_51 ?_
  refine s_iload_n (pc := 54) C dX3_readStage_54 rfl ?_
  refine s_ifeq (pc := 55) 71 C dX3_readStage_55 (by decide) (hrc 71) ?_
  refine s_aload_n (pc := 58) C dX3_readStage_58 rfl ?_
  refine s_iconst (pc := 59) C dX3_readStage_59 (by decide) ?_
  refine s_bipush (pc := 60) C dX3_readStage_60 (by decide) ?_
  refine s_cv (pc := 62) (q := (RX3, TX3, 6)) C h4 rfl wM_X3_52 wI_X3_takeNumber wS_X3_takeNumber wN_X3 wC_X3_takeNumber (by decide +kernel) (ox_lv hR e4 (by decide)) dX3_readStage_62 ?_
  refine s_ifeq (pc := 65) 81 C dX3_readStage_65 (by decide) (hrc 81) ?_
  exact s_goto (pc := 68) 83 C dX3_readStage_68 (by decide) (hrc 83)
set_option maxRecDepth 100000 in
theorem kX3_readStage_71 (C : ox_C p s m args c g 3 cX3_readStage RX3) (hr : meth.sig.returnType = (some .boolean)) (hlk : meth.locks = false) (hnm : meth.name = "readStage") (hR : R.frames = dp ∧ R.locals = 60 * dp) (h1 : ox_Sem yX10_isWord cX10_isWord 3 (some .boolean) d1 f1) (e1 : d1 + 1 ≤ dp) (h2 : ox_Sem yX3_refuse cX3_refuse 2 (some .boolean) d2 f2) (e2 : d2 + 1 ≤ dp) (h3 : ox_Sem yX10_step cX10_step 3 none d3 f3) (e3 : d3 + 1 ≤ dp) (h4 : ox_Sem yX3_takeNumber cX3_takeNumber 3 (some .boolean) d4 f4) (e4 : d4 + 1 ≤ dp) (hrc : ∀ b, ox_S p l e R s m args below meth c g 3 c0 t0 (ox_QM g below args s c0 t0) b (rc b)) : ox_S p l e R s m args below meth c g 3 c0 t0 (ox_QM g below args s c0 t0) 71 (bX3_readStage_71 f1 f2 f3 f4 rc) := by
  refine s_aload_n (pc := 71) C dX3_readStage_71 rfl ?_
  refine s_iconst (pc := 72) C dX3_readStage_72 (by decide) ?_
  refine s_bipush (pc := 73) C dX3_readStage_73 (by decide) ?_
  refine s_cv (pc := 75) (q := (RX3, TX3, 6)) C h4 rfl wM_X3_52 wI_X3_takeNumber wS_X3_takeNumber wN_X3 wC_X3_takeNumber (by decide +kernel) (ox_lv hR e4 (by decide)) dX3_readStage_75 ?_
  refine s_ifne (pc := 78) 83 C dX3_readStage_78 (by decide) (hrc 83) ?_
  exact hrc 81
set_option maxRecDepth 100000 in
theorem kX3_readStage_81 (C : ox_C p s m args c g 3 cX3_readStage RX3) (hr : meth.sig.returnType = (some .boolean)) (hlk : meth.locks = false) (hnm : meth.name = "readStage") (hR : R.frames = dp ∧ R.locals = 60 * dp) (h1 : ox_Sem yX10_isWord cX10_isWord 3 (some .boolean) d1 f1) (e1 : d1 + 1 ≤ dp) (h2 : ox_Sem yX3_refuse cX3_refuse 2 (some .boolean) d2 f2) (e2 : d2 + 1 ≤ dp) (h3 : ox_Sem yX10_step cX10_step 3 none d3 f3) (e3 : d3 + 1 ≤ dp) (h4 : ox_Sem yX3_takeNumber cX3_takeNumber 3 (some .boolean) d4 f4) (e4 : d4 + 1 ≤ dp) (hrc : ∀ b, ox_S p l e R s m args below meth c g 3 c0 t0 (ox_QM g below args s c0 t0) b (rc b)) : ox_S p l e R s m args below meth c g 3 c0 t0 (ox_QM g below args s c0 t0) 81 (bX3_readStage_81 f1 f2 f3 f4 rc) := by
  refine s_iconst (pc := 81) C dX3_readStage_81 (by decide) ?_
  exact s_zret (pc := 82) C hr (by decide) hlk dX3_readStage_82
set_option maxRecDepth 100000 in
theorem kX3_readStage_83 (C : ox_C p s m args c g 3 cX3_readStage RX3) (hr : meth.sig.returnType = (some .boolean)) (hlk : meth.locks = false) (hnm : meth.name = "readStage") (hR : R.frames = dp ∧ R.locals = 60 * dp) (h1 : ox_Sem yX10_isWord cX10_isWord 3 (some .boolean) d1 f1) (e1 : d1 + 1 ≤ dp) (h2 : ox_Sem yX3_refuse cX3_refuse 2 (some .boolean) d2 f2) (e2 : d2 + 1 ≤ dp) (h3 : ox_Sem yX10_step cX10_step 3 none d3 f3) (e3 : d3 + 1 ≤ dp) (h4 : ox_Sem yX3_takeNumber cX3_takeNumber 3 (some .boolean) d4 f4) (e4 : d4 + 1 ≤ dp) (hrc : ∀ b, ox_S p l e R s m args below meth c g 3 c0 t0 (ox_QM g below args s c0 t0) b (rc b)) : ox_S p l e R s m args below meth c g 3 c0 t0 (ox_QM g below args s c0 t0) 83 (bX3_readStage_83 f1 f2 f3 f4 rc) := by
  refine s_aload_n (pc := 83) C dX3_readStage_83 rfl ?_
  refine s_getr (pc := 84) (j := 3) (q := (RX6, TX6, 5)) C rfl (by decide) rfl wF_X3_73 dX3_readStage_84 ?_
  refine s_aload_n (pc := 87) C dX3_readStage_87 rfl ?_
  refine s_geti (pc := 88) (j := 2) (q := (RX6, TX6, 5)) C rfl (by decide) rfl wF_X3_49 dX3_readStage_88 ?_
  refine s_aload_n (pc := 91) C dX3_readStage_91 rfl ?_
  refine s_geti (pc := 92) (j := 5) (q := (RX3, TX3, 6)) C rfl (by decide) rfl wF_X3_56 dX3_readStage_92 ?_
  refine s_iast (pc := 95) C dX3_readStage_95 ?_
  refine s_iload_n (pc := 96) C dX3_readStage_96 rfl ?_
  refine s_ifeq (pc := 97) 112 C dX3_readStage_97 (by decide) (hrc 112) ?_
  refine s_aload_n (pc := 100) C dX3_readStage_100 rfl ?_
  refine s_iconst (pc := 101) C dX3_readStage_101 (by decide) ?_
  refine s_bipush (pc := 102) C dX3_readStage_102 (by decide) ?_
  refine s_cv (pc := 104) (q := (RX3, TX3, 6)) C h4 rfl wM_X3_52 wI_X3_takeNumber wS_X3_takeNumber wN_X3 wC_X3_takeNumber (by decide +kernel) (ox_lv hR e4 (by decide)) dX3_readStage_104 ?_
  refine s_ifne (pc := 107) 112 C dX3_readStage_107 (by decide) (hrc 112) ?_
  refine s_iconst (pc := 110) C dX3_readStage_110 (by decide) ?_
  exact s_zret (pc := 111) C hr (by decide) hlk dX3_readStage_111
set_option maxRecDepth 100000 in
theorem kX3_readStage_112 (C : ox_C p s m args c g 3 cX3_readStage RX3) (hr : meth.sig.returnType = (some .boolean)) (hlk : meth.locks = false) (hnm : meth.name = "readStage") (hR : R.frames = dp ∧ R.locals = 60 * dp) (h1 : ox_Sem yX10_isWord cX10_isWord 3 (some .boolean) d1 f1) (e1 : d1 + 1 ≤ dp) (h2 : ox_Sem yX3_refuse cX3_refuse 2 (some .boolean) d2 f2) (e2 : d2 + 1 ≤ dp) (h3 : ox_Sem yX10_step cX10_step 3 none d3 f3) (e3 : d3 + 1 ≤ dp) (h4 : ox_Sem yX3_takeNumber cX3_takeNumber 3 (some .boolean) d4 f4) (e4 : d4 + 1 ≤ dp) (hrc : ∀ b, ox_S p l e R s m args below meth c g 3 c0 t0 (ox_QM g below args s c0 t0) b (rc b)) : ox_S p l e R s m args below meth c g 3 c0 t0 (ox_QM g below args s c0 t0) 112 (bX3_readStage_112 f1 f2 f3 f4 rc) := by
  refine s_aload_n (pc := 112) C dX3_readStage_112 rfl ?_
  refine s_getr (pc := 113) (j := 4) (q := (RX6, TX6, 5)) C rfl (by decide) rfl wF_X3_77 dX3_readStage_113 ?_
  refine s_aload_n (pc := 116) C dX3_readStage_116 rfl ?_
  refine s_geti (pc := 117) (j := 2) (q := (RX6, TX6, 5)) C rfl (by decide) rfl wF_X3_49 dX3_readStage_117 ?_
  refine s_iload_n (pc := 120) C dX3_readStage_120 rfl ?_
  refine s_ifeq (pc := 121) 131 C dX3_readStage_121 (by decide) (hrc 131) ?_
  refine s_aload_n (pc := 124) C dX3_readStage_124 rfl ?_
  refine s_geti (pc := 125) (j := 5) (q := (RX3, TX3, 6)) C rfl (by decide) rfl wF_X3_56 dX3_readStage_125 ?_
  exact s_goto (pc := 128) 132 C dX3_readStage_128 (by decide) (hrc 132)
set_option maxRecDepth 100000 in
theorem kX3_readStage_131 (C : ox_C p s m args c g 3 cX3_readStage RX3) (hr : meth.sig.returnType = (some .boolean)) (hlk : meth.locks = false) (hnm : meth.name = "readStage") (hR : R.frames = dp ∧ R.locals = 60 * dp) (h1 : ox_Sem yX10_isWord cX10_isWord 3 (some .boolean) d1 f1) (e1 : d1 + 1 ≤ dp) (h2 : ox_Sem yX3_refuse cX3_refuse 2 (some .boolean) d2 f2) (e2 : d2 + 1 ≤ dp) (h3 : ox_Sem yX10_step cX10_step 3 none d3 f3) (e3 : d3 + 1 ≤ dp) (h4 : ox_Sem yX3_takeNumber cX3_takeNumber 3 (some .boolean) d4 f4) (e4 : d4 + 1 ≤ dp) (hrc : ∀ b, ox_S p l e R s m args below meth c g 3 c0 t0 (ox_QM g below args s c0 t0) b (rc b)) : ox_S p l e R s m args below meth c g 3 c0 t0 (ox_QM g below args s c0 t0) 131 (bX3_readStage_131 f1 f2 f3 f4 rc) := by
  refine s_iconst (pc := 131) C dX3_readStage_131 (by decide) ?_
  exact hrc 132
set_option maxRecDepth 100000 in
theorem kX3_readStage_132 (C : ox_C p s m args c g 3 cX3_readStage RX3) (hr : meth.sig.returnType = (some .boolean)) (hlk : meth.locks = false) (hnm : meth.name = "readStage") (hR : R.frames = dp ∧ R.locals = 60 * dp) (h1 : ox_Sem yX10_isWord cX10_isWord 3 (some .boolean) d1 f1) (e1 : d1 + 1 ≤ dp) (h2 : ox_Sem yX3_refuse cX3_refuse 2 (some .boolean) d2 f2) (e2 : d2 + 1 ≤ dp) (h3 : ox_Sem yX10_step cX10_step 3 none d3 f3) (e3 : d3 + 1 ≤ dp) (h4 : ox_Sem yX3_takeNumber cX3_takeNumber 3 (some .boolean) d4 f4) (e4 : d4 + 1 ≤ dp) (hrc : ∀ b, ox_S p l e R s m args below meth c g 3 c0 t0 (ox_QM g below args s c0 t0) b (rc b)) : ox_S p l e R s m args below meth c g 3 c0 t0 (ox_QM g below args s c0 t0) 132 (bX3_readStage_132 f1 f2 f3 f4 rc) := by
  refine s_iast (pc := 132) C dX3_readStage_132 ?_
  refine s_aload_n (pc := 133) C dX3_readStage_133 rfl ?_
  refine s_dup (pc := 134) C dX3_readStage_134 ?_
  refine s_geti (pc := 135) (j := 2) (q := (RX6, TX6, 5)) C rfl (by decide) rfl wF_X3_49 dX3_readStage_135 ?_
  refine s_iconst (pc := 138) C dX3_readStage_138 (by decide) ?_
  refine s_iadd (pc := 139) C dX3_readStage_139 ?_
  refine s_puti (pc := 140) (j := 2) (q := (RX6, TX6, 5)) C rfl (by decide) rfl (Or.inl rfl) wF_X3_49 dX3_readStage_140 ?_
  refine s_iconst (pc := 143) C dX3_readStage_143 (by decide) ?_
  exact s_zret (pc := 144) C hr (by decide) hlk dX3_readStage_144
end SX3_readStage
def bsX3_readStage (f1 f2 f3 f4 : ox_F) (b : Nat) (rc : Nat → ox_K) : ox_K := if b = 0 then bX3_readStage_0 f1 f2 f3 f4 rc else if b = 32 then bX3_readStage_32 f1 f2 f3 f4 rc else if b = 47 then bX3_readStage_47 f1 f2 f3 f4 rc else if b = 71 then bX3_readStage_71 f1 f2 f3 f4 rc else if b = 81 then bX3_readStage_81 f1 f2 f3 f4 rc else if b = 83 then bX3_readStage_83 f1 f2 f3 f4 rc else if b = 112 then bX3_readStage_112 f1 f2 f3 f4 rc else if b = 131 then bX3_readStage_131 f1 f2 f3 f4 rc else if b = 132 then bX3_readStage_132 f1 f2 f3 f4 rc else ox_no
theorem mX3_readStage {dp d1 d2 d3 d4 : Nat} {f1 f2 f3 f4 f : ox_F} (h1 : ox_Sem yX10_isWord cX10_isWord 3 (some .boolean) d1 f1) (e1 : d1 + 1 ≤ dp) (h2 : ox_Sem yX3_refuse cX3_refuse 2 (some .boolean) d2 f2) (e2 : d2 + 1 ≤ dp) (h3 : ox_Sem yX10_step cX10_step 3 none d3 f3) (e3 : d3 + 1 ≤ dp) (h4 : ox_Sem yX3_takeNumber cX3_takeNumber 3 (some .boolean) d4 f4) (e4 : d4 + 1 ≤ dp) (hf : ∀ as h r, f as h = some r → ox_cs as ≤ 3 ∧ ox_le h r.2 ∧ ∃ n, ox_run (bsX3_readStage f1 f2 f3 f4) n 0 (lv_args 0 as) [] h = some r) : ox_Sem yX3_readStage cX3_readStage 3 (some .boolean) dp f := by
  refine ox_meth (bs := bsX3_readStage f1 f2 f3 f4) (by decide) hf ?_
  intro p l e R s m args below meth c g c0 t0 C hr hlk hnm hR rc hrc b
  unfold bsX3_readStage
  refine ox_br (kX3_readStage_0 C hr hlk hnm hR h1 e1 h2 e2 h3 e3 h4 e4 hrc) ?_
  refine ox_br (kX3_readStage_32 C hr hlk hnm hR h1 e1 h2 e2 h3 e3 h4 e4 hrc) ?_
  refine ox_br (kX3_readStage_47 C hr hlk hnm hR h1 e1 h2 e2 h3 e3 h4 e4 hrc) ?_
  refine ox_br (kX3_readStage_71 C hr hlk hnm hR h1 e1 h2 e2 h3 e3 h4 e4 hrc) ?_
  refine ox_br (kX3_readStage_81 C hr hlk hnm hR h1 e1 h2 e2 h3 e3 h4 e4 hrc) ?_
  refine ox_br (kX3_readStage_83 C hr hlk hnm hR h1 e1 h2 e2 h3 e3 h4 e4 hrc) ?_
  refine ox_br (kX3_readStage_112 C hr hlk hnm hR h1 e1 h2 e2 h3 e3 h4 e4 hrc) ?_
  refine ox_br (kX3_readStage_131 C hr hlk hnm hR h1 e1 h2 e2 h3 e3 h4 e4 hrc) ?_
  refine ox_br (kX3_readStage_132 C hr hlk hnm hR h1 e1 h2 e2 h3 e3 h4 e4 hrc) ?_
  exact s_no
theorem dX3_takeNumber_0 : decode cX3_takeNumber 0 = .ok (.aload_n 0, 1) := by decide +kernel
theorem dX3_takeNumber_1 : decode cX3_takeNumber 1 = .ok (.getfield 10, 3) := by decide +kernel
theorem dX3_takeNumber_4 : decode cX3_takeNumber 4 = .ok (.getfield 30, 3) := by decide +kernel
theorem dX3_takeNumber_7 : decode cX3_takeNumber 7 = .ok (.iconst 2, 1) := by decide +kernel
theorem dX3_takeNumber_8 : decode cX3_takeNumber 8 = .ok (.if_icmp .eq 9, 3) := by decide +kernel
theorem dX3_takeNumber_11 : decode cX3_takeNumber 11 = .ok (.aload_n 0, 1) := by decide +kernel
theorem dX3_takeNumber_12 : decode cX3_takeNumber 12 = .ok (.iconst 1, 1) := by decide +kernel
theorem dX3_takeNumber_13 : decode cX3_takeNumber 13 = .ok (.invokevirtual 43, 3) := by decide +kernel
theorem dX3_takeNumber_16 : decode cX3_takeNumber 16 = .ok (.ireturn, 1) := by decide +kernel
theorem dX3_takeNumber_17 : decode cX3_takeNumber 17 = .ok (.aload_n 0, 1) := by decide +kernel
theorem dX3_takeNumber_18 : decode cX3_takeNumber 18 = .ok (.getfield 10, 3) := by decide +kernel
theorem dX3_takeNumber_21 : decode cX3_takeNumber 21 = .ok (.getfield 80, 3) := by decide +kernel
theorem dX3_takeNumber_24 : decode cX3_takeNumber 24 = .ok (.iload_n 1, 1) := by decide +kernel
theorem dX3_takeNumber_25 : decode cX3_takeNumber 25 = .ok (.iload_n 2, 1) := by decide +kernel
theorem dX3_takeNumber_26 : decode cX3_takeNumber 26 = .ok (.invokestatic 83, 3) := by decide +kernel
theorem dX3_takeNumber_29 : decode cX3_takeNumber 29 = .ok (.ifCond .ne 9, 3) := by decide +kernel
theorem dX3_takeNumber_32 : decode cX3_takeNumber 32 = .ok (.aload_n 0, 1) := by decide +kernel
theorem dX3_takeNumber_33 : decode cX3_takeNumber 33 = .ok (.iconst 2, 1) := by decide +kernel
theorem dX3_takeNumber_34 : decode cX3_takeNumber 34 = .ok (.invokevirtual 43, 3) := by decide +kernel
theorem dX3_takeNumber_37 : decode cX3_takeNumber 37 = .ok (.ireturn, 1) := by decide +kernel
theorem dX3_takeNumber_38 : decode cX3_takeNumber 38 = .ok (.aload_n 0, 1) := by decide +kernel
theorem dX3_takeNumber_39 : decode cX3_takeNumber 39 = .ok (.aload_n 0, 1) := by decide +kernel
theorem dX3_takeNumber_40 : decode cX3_takeNumber 40 = .ok (.getfield 10, 3) := by decide +kernel
theorem dX3_takeNumber_43 : decode cX3_takeNumber 43 = .ok (.getfield 80, 3) := by decide +kernel
theorem dX3_takeNumber_46 : decode cX3_takeNumber 46 = .ok (.putfield 56, 3) := by decide +kernel
theorem dX3_takeNumber_49 : decode cX3_takeNumber 49 = .ok (.aload_n 0, 1) := by decide +kernel
theorem dX3_takeNumber_50 : decode cX3_takeNumber 50 = .ok (.getfield 10, 3) := by decide +kernel
theorem dX3_takeNumber_53 : decode cX3_takeNumber 53 = .ok (.invokevirtual 46, 3) := by decide +kernel
theorem dX3_takeNumber_56 : decode cX3_takeNumber 56 = .ok (.iconst 1, 1) := by decide +kernel
theorem dX3_takeNumber_57 : decode cX3_takeNumber 57 = .ok (.ireturn, 1) := by decide +kernel
def bX3_takeNumber_0 (f1 f2 f3 : ox_F) (rc : Nat → ox_K) : ox_K := o_al 0 (o_getr 3 0 (o_geti 10 2 (o_ic (2) (o_iceq (rc 17) (o_al 0 (o_ic (1) (o_cv f1 3 1 (o_zret))))))))
def bX3_takeNumber_17 (f1 f2 f3 : ox_F) (rc : Nat → ox_K) : ox_K := o_al 0 (o_getr 3 0 (o_geti 10 5 (o_il 1 (o_il 2 (o_ct f2 3 (o_ifne (rc 38) (o_al 0 (o_ic (2) (o_cv f1 3 1 (o_zret))))))))))
def bX3_takeNumber_38 (f1 f2 f3 : ox_F) (rc : Nat → ox_K) : ox_K := o_al 0 (o_al 0 (o_getr 3 0 (o_geti 10 5 (o_puti 3 5 (o_al 0 (o_getr 3 0 (o_cv f3 10 0 (o_ic (1) (o_zret)))))))))
section SX3_takeNumber
variable {p : Program} {l : Launch} {e : Env} {R : Room} {s : State} {m : MethodId} {args : Array Value} {below : List Frame} {meth : Method} {c : Code} {g : ox_G} {c0 t0 dp d1 d2 d3 : Nat} {rc : Nat → ox_K} {f1 f2 f3 : ox_F}
set_option maxRecDepth 100000 in
theorem kX3_takeNumber_0 (C : ox_C p s m args c g 3 cX3_takeNumber RX3) (hr : meth.sig.returnType = (some .boolean)) (hlk : meth.locks = false) (hnm : meth.name = "takeNumber") (hR : R.frames = dp ∧ R.locals = 60 * dp) (h1 : ox_Sem yX3_refuse cX3_refuse 2 (some .boolean) d1 f1) (e1 : d1 + 1 ≤ dp) (h2 : ox_Sem yX11_within cX11_within 3 (some .boolean) d2 f2) (e2 : d2 + 1 ≤ dp) (h3 : ox_Sem yX10_step cX10_step 3 none d3 f3) (e3 : d3 + 1 ≤ dp) (hrc : ∀ b, ox_S p l e R s m args below meth c g 3 c0 t0 (ox_QM g below args s c0 t0) b (rc b)) : ox_S p l e R s m args below meth c g 3 c0 t0 (ox_QM g below args s c0 t0) 0 (bX3_takeNumber_0 f1 f2 f3 rc) := by
  refine s_aload_n (pc := 0) C dX3_takeNumber_0 rfl ?_
  refine s_getr (pc := 1) (j := 0) (q := (RX3, TX3, 6)) C rfl (by decide) rfl wF_X3_10 dX3_takeNumber_1 ?_
  refine s_geti (pc := 4) (j := 2) (q := (RX10, TX10, 6)) C rfl (by decide) rfl wF_X3_30 dX3_takeNumber_4 ?_
  refine s_iconst (pc := 7) C dX3_takeNumber_7 (by decide) ?_
  refine s_icmpeq (pc := 8) 17 C dX3_takeNumber_8 (by decide) (hrc 17) ?_
  refine s_aload_n (pc := 11) C dX3_takeNumber_11 rfl ?_
  refine s_iconst (pc := 12) C dX3_takeNumber_12 (by decide) ?_
  refine s_cv (pc := 13) (q := (RX3, TX3, 6)) C h1 rfl wM_X3_43 wI_X3_refuse wS_X3_refuse wN_X3 wC_X3_refuse (by decide +kernel) (ox_lv hR e1 (by decide)) dX3_takeNumber_13 ?_
  exact s_zret (pc := 16) C hr (by decide) hlk dX3_takeNumber_16
set_option maxRecDepth 100000 in
theorem kX3_takeNumber_17 (C : ox_C p s m args c g 3 cX3_takeNumber RX3) (hr : meth.sig.returnType = (some .boolean)) (hlk : meth.locks = false) (hnm : meth.name = "takeNumber") (hR : R.frames = dp ∧ R.locals = 60 * dp) (h1 : ox_Sem yX3_refuse cX3_refuse 2 (some .boolean) d1 f1) (e1 : d1 + 1 ≤ dp) (h2 : ox_Sem yX11_within cX11_within 3 (some .boolean) d2 f2) (e2 : d2 + 1 ≤ dp) (h3 : ox_Sem yX10_step cX10_step 3 none d3 f3) (e3 : d3 + 1 ≤ dp) (hrc : ∀ b, ox_S p l e R s m args below meth c g 3 c0 t0 (ox_QM g below args s c0 t0) b (rc b)) : ox_S p l e R s m args below meth c g 3 c0 t0 (ox_QM g below args s c0 t0) 17 (bX3_takeNumber_17 f1 f2 f3 rc) := by
  refine s_aload_n (pc := 17) C dX3_takeNumber_17 rfl ?_
  refine s_getr (pc := 18) (j := 0) (q := (RX3, TX3, 6)) C rfl (by decide) rfl wF_X3_10 dX3_takeNumber_18 ?_
  refine s_geti (pc := 21) (j := 5) (q := (RX10, TX10, 6)) C rfl (by decide) rfl wF_X3_80 dX3_takeNumber_21 ?_
  refine s_iload_n (pc := 24) C dX3_takeNumber_24 rfl ?_
  refine s_iload_n (pc := 25) C dX3_takeNumber_25 rfl ?_
  refine s_ctN (pc := 26) C h2 (by decide +kernel) wT_X11_within wN_X11 wC_X11_within (by decide +kernel) (ox_lv hR e2 (by decide)) dX3_takeNumber_26 ?_
  refine s_ifne (pc := 29) 38 C dX3_takeNumber_29 (by decide) (hrc 38) ?_
  refine s_aload_n (pc := 32) C dX3_takeNumber_32 rfl ?_
  refine s_iconst (pc := 33) C dX3_takeNumber_33 (by decide) ?_
  refine s_cv (pc := 34) (q := (RX3, TX3, 6)) C h1 rfl wM_X3_43 wI_X3_refuse wS_X3_refuse wN_X3 wC_X3_refuse (by decide +kernel) (ox_lv hR e1 (by decide)) dX3_takeNumber_34 ?_
  exact s_zret (pc := 37) C hr (by decide) hlk dX3_takeNumber_37
set_option maxRecDepth 100000 in
theorem kX3_takeNumber_38 (C : ox_C p s m args c g 3 cX3_takeNumber RX3) (hr : meth.sig.returnType = (some .boolean)) (hlk : meth.locks = false) (hnm : meth.name = "takeNumber") (hR : R.frames = dp ∧ R.locals = 60 * dp) (h1 : ox_Sem yX3_refuse cX3_refuse 2 (some .boolean) d1 f1) (e1 : d1 + 1 ≤ dp) (h2 : ox_Sem yX11_within cX11_within 3 (some .boolean) d2 f2) (e2 : d2 + 1 ≤ dp) (h3 : ox_Sem yX10_step cX10_step 3 none d3 f3) (e3 : d3 + 1 ≤ dp) (hrc : ∀ b, ox_S p l e R s m args below meth c g 3 c0 t0 (ox_QM g below args s c0 t0) b (rc b)) : ox_S p l e R s m args below meth c g 3 c0 t0 (ox_QM g below args s c0 t0) 38 (bX3_takeNumber_38 f1 f2 f3 rc) := by
  refine s_aload_n (pc := 38) C dX3_takeNumber_38 rfl ?_
  refine s_aload_n (pc := 39) C dX3_takeNumber_39 rfl ?_
  refine s_getr (pc := 40) (j := 0) (q := (RX3, TX3, 6)) C rfl (by decide) rfl wF_X3_10 dX3_takeNumber_40 ?_
  refine s_geti (pc := 43) (j := 5) (q := (RX10, TX10, 6)) C rfl (by decide) rfl wF_X3_80 dX3_takeNumber_43 ?_
  refine s_puti (pc := 46) (j := 5) (q := (RX3, TX3, 6)) C rfl (by decide) rfl (Or.inl rfl) wF_X3_56 dX3_takeNumber_46 ?_
  refine s_aload_n (pc := 49) C dX3_takeNumber_49 rfl ?_
  refine s_getr (pc := 50) (j := 0) (q := (RX3, TX3, 6)) C rfl (by decide) rfl wF_X3_10 dX3_takeNumber_50 ?_
  refine s_cv (pc := 53) (q := (RX10, TX10, 6)) C h3 rfl wM_X3_46 wI_X10_step wS_X10_step wN_X10 wC_X10_step (by decide +kernel) (ox_lv hR e3 (by decide)) dX3_takeNumber_53 ?_
  refine s_iconst (pc := 56) C dX3_takeNumber_56 (by decide) ?_
  exact s_zret (pc := 57) C hr (by decide) hlk dX3_takeNumber_57
end SX3_takeNumber
def bsX3_takeNumber (f1 f2 f3 : ox_F) (b : Nat) (rc : Nat → ox_K) : ox_K := if b = 0 then bX3_takeNumber_0 f1 f2 f3 rc else if b = 17 then bX3_takeNumber_17 f1 f2 f3 rc else if b = 38 then bX3_takeNumber_38 f1 f2 f3 rc else ox_no
theorem mX3_takeNumber {dp d1 d2 d3 : Nat} {f1 f2 f3 f : ox_F} (h1 : ox_Sem yX3_refuse cX3_refuse 2 (some .boolean) d1 f1) (e1 : d1 + 1 ≤ dp) (h2 : ox_Sem yX11_within cX11_within 3 (some .boolean) d2 f2) (e2 : d2 + 1 ≤ dp) (h3 : ox_Sem yX10_step cX10_step 3 none d3 f3) (e3 : d3 + 1 ≤ dp) (hf : ∀ as h r, f as h = some r → ox_cs as ≤ 3 ∧ ox_le h r.2 ∧ ∃ n, ox_run (bsX3_takeNumber f1 f2 f3) n 0 (lv_args 0 as) [] h = some r) : ox_Sem yX3_takeNumber cX3_takeNumber 3 (some .boolean) dp f := by
  refine ox_meth (bs := bsX3_takeNumber f1 f2 f3) (by decide) hf ?_
  intro p l e R s m args below meth c g c0 t0 C hr hlk hnm hR rc hrc b
  unfold bsX3_takeNumber
  refine ox_br (kX3_takeNumber_0 C hr hlk hnm hR h1 e1 h2 e2 h3 e3 hrc) ?_
  refine ox_br (kX3_takeNumber_17 C hr hlk hnm hR h1 e1 h2 e2 h3 e3 hrc) ?_
  refine ox_br (kX3_takeNumber_38 C hr hlk hnm hR h1 e1 h2 e2 h3 e3 hrc) ?_
  exact s_no
theorem dX3_refuse_0 : decode cX3_refuse 0 = .ok (.aload_n 0, 1) := by decide +kernel
theorem dX3_refuse_1 : decode cX3_refuse 1 = .ok (.iload_n 1, 1) := by decide +kernel
theorem dX3_refuse_2 : decode cX3_refuse 2 = .ok (.putfield 89, 3) := by decide +kernel
theorem dX3_refuse_5 : decode cX3_refuse 5 = .ok (.aload_n 0, 1) := by decide +kernel
theorem dX3_refuse_6 : decode cX3_refuse 6 = .ok (.aload_n 0, 1) := by decide +kernel
theorem dX3_refuse_7 : decode cX3_refuse 7 = .ok (.getfield 10, 3) := by decide +kernel
theorem dX3_refuse_10 : decode cX3_refuse 10 = .ok (.getfield 92, 3) := by decide +kernel
theorem dX3_refuse_13 : decode cX3_refuse 13 = .ok (.putfield 95, 3) := by decide +kernel
theorem dX3_refuse_16 : decode cX3_refuse 16 = .ok (.iconst 0, 1) := by decide +kernel
theorem dX3_refuse_17 : decode cX3_refuse 17 = .ok (.ireturn, 1) := by decide +kernel
def bX3_refuse_0 (rc : Nat → ox_K) : ox_K := o_al 0 (o_il 1 (o_puti 3 3 (o_al 0 (o_al 0 (o_getr 3 0 (o_geti 10 3 (o_puti 3 4 (o_ic (0) (o_zret)))))))))
section SX3_refuse
variable {p : Program} {l : Launch} {e : Env} {R : Room} {s : State} {m : MethodId} {args : Array Value} {below : List Frame} {meth : Method} {c : Code} {g : ox_G} {c0 t0 dp  : Nat} {rc : Nat → ox_K}
set_option maxRecDepth 100000 in
theorem kX3_refuse_0 (C : ox_C p s m args c g 2 cX3_refuse RX3) (hr : meth.sig.returnType = (some .boolean)) (hlk : meth.locks = false) (hnm : meth.name = "refuse") (hR : R.frames = dp ∧ R.locals = 60 * dp) (hrc : ∀ b, ox_S p l e R s m args below meth c g 2 c0 t0 (ox_QM g below args s c0 t0) b (rc b)) : ox_S p l e R s m args below meth c g 2 c0 t0 (ox_QM g below args s c0 t0) 0 (bX3_refuse_0 rc) := by
  refine s_aload_n (pc := 0) C dX3_refuse_0 rfl ?_
  refine s_iload_n (pc := 1) C dX3_refuse_1 rfl ?_
  refine s_puti (pc := 2) (j := 3) (q := (RX3, TX3, 6)) C rfl (by decide) rfl (Or.inl rfl) wF_X3_89 dX3_refuse_2 ?_
  refine s_aload_n (pc := 5) C dX3_refuse_5 rfl ?_
  refine s_aload_n (pc := 6) C dX3_refuse_6 rfl ?_
  refine s_getr (pc := 7) (j := 0) (q := (RX3, TX3, 6)) C rfl (by decide) rfl wF_X3_10 dX3_refuse_7 ?_
  refine s_geti (pc := 10) (j := 3) (q := (RX10, TX10, 6)) C rfl (by decide) rfl wF_X3_92 dX3_refuse_10 ?_
  refine s_puti (pc := 13) (j := 4) (q := (RX3, TX3, 6)) C rfl (by decide) rfl (Or.inl rfl) wF_X3_95 dX3_refuse_13 ?_
  refine s_iconst (pc := 16) C dX3_refuse_16 (by decide) ?_
  exact s_zret (pc := 17) C hr (by decide) hlk dX3_refuse_17
end SX3_refuse
def bsX3_refuse (b : Nat) (rc : Nat → ox_K) : ox_K := if b = 0 then bX3_refuse_0 rc else ox_no
theorem mX3_refuse {dp  : Nat} {f : ox_F} (hf : ∀ as h r, f as h = some r → ox_cs as ≤ 2 ∧ ox_le h r.2 ∧ ∃ n, ox_run (bsX3_refuse) n 0 (lv_args 0 as) [] h = some r) : ox_Sem yX3_refuse cX3_refuse 2 (some .boolean) dp f := by
  refine ox_meth (bs := bsX3_refuse) (by decide) hf ?_
  intro p l e R s m args below meth c g c0 t0 C hr hlk hnm hR rc hrc b
  unfold bsX3_refuse
  refine ox_br (kX3_refuse_0 C hr hlk hnm hR hrc) ?_
  exact s_no
