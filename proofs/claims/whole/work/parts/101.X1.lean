theorem dX1_init_0 : decode cX1_init 0 = .ok (.aload_n 0, 1) := by decide +kernel
theorem dX1_init_1 : decode cX1_init 1 = .ok (.invokespecial 1, 3) := by decide +kernel
theorem dX1_init_4 : decode cX1_init 4 = .ok (.aload_n 0, 1) := by decide +kernel
theorem dX1_init_5 : decode cX1_init 5 = .ok (.bipush 40, 2) := by decide +kernel
theorem dX1_init_7 : decode cX1_init 7 = .ok (.anewarray 9, 3) := by decide +kernel
theorem dX1_init_10 : decode cX1_init 10 = .ok (.putfield 11, 3) := by decide +kernel
theorem dX1_init_13 : decode cX1_init 13 = .ok (.aload_n 0, 1) := by decide +kernel
theorem dX1_init_14 : decode cX1_init 14 = .ok (.iconst 4, 1) := by decide +kernel
theorem dX1_init_15 : decode cX1_init 15 = .ok (.newarray .int, 2) := by decide +kernel
theorem dX1_init_17 : decode cX1_init 17 = .ok (.putfield 15, 3) := by decide +kernel
theorem dX1_init_20 : decode cX1_init 20 = .ok (.iconst 0, 1) := by decide +kernel
theorem dX1_init_21 : decode cX1_init 21 = .ok (.istore_n 1, 1) := by decide +kernel
theorem dX1_init_22 : decode cX1_init 22 = .ok (.iload_n 1, 1) := by decide +kernel
theorem dX1_init_23 : decode cX1_init 23 = .ok (.bipush 40, 2) := by decide +kernel
theorem dX1_init_25 : decode cX1_init 25 = .ok (.if_icmp .ge 22, 3) := by decide +kernel
theorem dX1_init_28 : decode cX1_init 28 = .ok (.aload_n 0, 1) := by decide +kernel
theorem dX1_init_29 : decode cX1_init 29 = .ok (.getfield 11, 3) := by decide +kernel
theorem dX1_init_32 : decode cX1_init 32 = .ok (.iload_n 1, 1) := by decide +kernel
theorem dX1_init_33 : decode cX1_init 33 = .ok (.new 9, 3) := by decide +kernel
theorem dX1_init_36 : decode cX1_init 36 = .ok (.dup, 1) := by decide +kernel
theorem dX1_init_37 : decode cX1_init 37 = .ok (.invokespecial 19, 3) := by decide +kernel
theorem dX1_init_40 : decode cX1_init 40 = .ok (.aastore, 1) := by decide +kernel
theorem dX1_init_41 : decode cX1_init 41 = .ok (.iinc 1 1, 3) := by decide +kernel
theorem dX1_init_44 : decode cX1_init 44 = .ok (.goto (-22), 3) := by decide +kernel
theorem dX1_init_47 : decode cX1_init 47 = .ok (.return_, 1) := by decide +kernel
def bX1_init_0 (f1 : ox_F) (rc : Nat → ox_K) : ox_K := o_al 0 (o_obj (o_al 0 (o_ic (40) (o_newr 0 (o_putr 1 0 (o_al 0 (o_ic (4) (o_newa 1 (o_putr 1 6 (o_ic (0) (o_is 1 (rc 22))))))))))))
def bX1_init_22 (f1 : ox_F) (rc : Nat → ox_K) : ox_K := o_keep [0, 1] (o_il 1 (o_ic (40) (o_icge (rc 47) (o_al 0 (o_getr 1 0 (o_il 1 (o_new 0 (o_dup (o_cn f1 0 (o_aast 0 (o_inc 1 (1) (rc 22))))))))))))
def bX1_init_47 (f1 : ox_F) (rc : Nat → ox_K) : ox_K := o_ret
section SX1_init
variable {p : Program} {l : Launch} {e : Env} {R : Room} {s : State} {m : MethodId} {args : Array Value} {below : List Frame} {meth : Method} {c : Code} {g : ox_G} {c0 t0 dp d1 : Nat} {rc : Nat → ox_K} {f1 : ox_F}
set_option maxRecDepth 100000 in
theorem kX1_init_0 (C : ox_C p s m args c g 2 cX1_init RX1) (hr : meth.sig.returnType = none) (hlk : meth.locks = false) (hnm : meth.name = "<init>") (hR : R.frames = dp ∧ R.locals = 60 * dp) (e0 : 1 ≤ dp) (h1 : ox_Sem yX0_init cX0_init 1 none d1 f1) (e1 : d1 + 1 ≤ dp) (hrc : ∀ b, ox_S p l e R s m args below meth c g 2 c0 t0 (ox_QM g below args s c0 t0) b (rc b)) : ox_S p l e R s m args below meth c g 2 c0 t0 (ox_QM g below args s c0 t0) 0 (bX1_init_0 f1 rc) := by
  refine s_aload_n (pc := 0) C dX1_init_0 rfl ?_
  refine s_obj (pc := 1) C wM_X1_1 wO1 wO2 (ox_lv1 hR e0) dX1_init_1 ?_
  refine s_aload_n (pc := 4) C dX1_init_4 rfl ?_
  refine s_bipush (pc := 5) C dX1_init_5 (by decide) ?_
  refine s_newr (pc := 7) (q := (RX0, TX0, 7)) 3 C rfl rfl wX_X1_9 (by decide +kernel) dX1_init_7 ?_
  refine s_putr (pc := 10) (j := 0) (q := (RX1, TX1, 7)) C rfl (by decide) rfl (Or.inr ⟨rfl, hnm, rfl⟩) wF_X1_11 dX1_init_10 ?_
  refine s_aload_n (pc := 13) C dX1_init_13 rfl ?_
  refine s_iconst (pc := 14) C dX1_init_14 (by decide) ?_
  refine s_newa (pc := 15) (ty := .int) C rfl (Or.inl ⟨rfl, rfl⟩) wA_int dX1_init_15 ?_
  refine s_putr (pc := 17) (j := 6) (q := (RX1, TX1, 7)) C rfl (by decide) rfl (Or.inr ⟨rfl, hnm, rfl⟩) wF_X1_15 dX1_init_17 ?_
  refine s_iconst (pc := 20) C dX1_init_20 (by decide) ?_
  refine s_istore_n (pc := 21) C dX1_init_21 rfl (by decide) ?_
  exact hrc 22
set_option maxRecDepth 100000 in
theorem kX1_init_22 (C : ox_C p s m args c g 2 cX1_init RX1) (hr : meth.sig.returnType = none) (hlk : meth.locks = false) (hnm : meth.name = "<init>") (hR : R.frames = dp ∧ R.locals = 60 * dp) (e0 : 1 ≤ dp) (h1 : ox_Sem yX0_init cX0_init 1 none d1 f1) (e1 : d1 + 1 ≤ dp) (hrc : ∀ b, ox_S p l e R s m args below meth c g 2 c0 t0 (ox_QM g below args s c0 t0) b (rc b)) : ox_S p l e R s m args below meth c g 2 c0 t0 (ox_QM g below args s c0 t0) 22 (bX1_init_22 f1 rc) := by
  refine s_keep ?_
  refine s_iload_n (pc := 22) C dX1_init_22 rfl ?_
  refine s_bipush (pc := 23) C dX1_init_23 (by decide) ?_
  refine s_icmpge (pc := 25) 47 C dX1_init_25 (by decide) (hrc 47) ?_
  refine s_aload_n (pc := 28) C dX1_init_28 rfl ?_
  refine s_getr (pc := 29) (j := 0) (q := (RX1, TX1, 7)) C rfl (by decide) rfl wF_X1_11 dX1_init_29 ?_
  refine s_iload_n (pc := 32) C dX1_init_32 rfl ?_
  refine s_new (pc := 33) (q := (RX0, TX0, 7)) C rfl ox_nt0 wX_X1_9 wY_X0 wN_X0 dX1_init_33 ?_
  refine s_dup (pc := 36) C dX1_init_36 ?_
  refine s_cnN (pc := 37) C h1 (by decide +kernel) wI_X0_init wN_X0 wC_X0_init rfl (by decide +kernel) (ox_lv hR e1 (by decide)) dX1_init_37 ?_
  refine s_aast (pc := 40) (q := (RX0, TX0, 7)) 3 rfl C rfl dX1_init_40 ?_
  refine s_iinc (pc := 41) C dX1_init_41 (by decide) (by decide) ?_
  exact s_goto (pc := 44) 22 C dX1_init_44 (by decide) (hrc 22)
set_option maxRecDepth 100000 in
theorem kX1_init_47 (C : ox_C p s m args c g 2 cX1_init RX1) (hr : meth.sig.returnType = none) (hlk : meth.locks = false) (hnm : meth.name = "<init>") (hR : R.frames = dp ∧ R.locals = 60 * dp) (e0 : 1 ≤ dp) (h1 : ox_Sem yX0_init cX0_init 1 none d1 f1) (e1 : d1 + 1 ≤ dp) (hrc : ∀ b, ox_S p l e R s m args below meth c g 2 c0 t0 (ox_QM g below args s c0 t0) b (rc b)) : ox_S p l e R s m args below meth c g 2 c0 t0 (ox_QM g below args s c0 t0) 47 (bX1_init_47 f1 rc) := by
  exact s_ret (pc := 47) C hr hlk dX1_init_47
end SX1_init
def bsX1_init (f1 : ox_F) (b : Nat) (rc : Nat → ox_K) : ox_K := if b = 0 then bX1_init_0 f1 rc else if b = 22 then bX1_init_22 f1 rc else if b = 47 then bX1_init_47 f1 rc else ox_no
theorem mX1_init {dp d1 : Nat} {f1 f : ox_F} (e0 : 1 ≤ dp) (h1 : ox_Sem yX0_init cX0_init 1 none d1 f1) (e1 : d1 + 1 ≤ dp) (hf : ∀ as h r, f as h = some r → ox_cs as ≤ 2 ∧ ox_le h r.2 ∧ ∃ n, ox_run (bsX1_init f1) n 0 (lv_args 0 as) [] h = some r) : ox_Sem yX1_init cX1_init 2 none dp f := by
  refine ox_meth (bs := bsX1_init f1) (by decide) hf ?_
  intro p l e R s m args below meth c g c0 t0 C hr hlk hnm hR rc hrc b
  unfold bsX1_init
  refine ox_br (kX1_init_0 C hr hlk hnm hR e0 h1 e1 hrc) ?_
  refine ox_br (kX1_init_22 C hr hlk hnm hR e0 h1 e1 hrc) ?_
  refine ox_br (kX1_init_47 C hr hlk hnm hR e0 h1 e1 hrc) ?_
  exact s_no
theorem dX1_take_0 : decode cX1_take 0 = .ok (.aload_n 0, 1) := by decide +kernel
theorem dX1_take_1 : decode cX1_take 1 = .ok (.getfield 20, 3) := by decide +kernel
theorem dX1_take_4 : decode cX1_take 4 = .ok (.bipush 40, 2) := by decide +kernel
theorem dX1_take_6 : decode cX1_take 6 = .ok (.if_icmp .ge 27, 3) := by decide +kernel
theorem dX1_take_9 : decode cX1_take 9 = .ok (.aload_n 0, 1) := by decide +kernel
theorem dX1_take_10 : decode cX1_take 10 = .ok (.getfield 11, 3) := by decide +kernel
theorem dX1_take_13 : decode cX1_take 13 = .ok (.aload_n 0, 1) := by decide +kernel
theorem dX1_take_14 : decode cX1_take 14 = .ok (.getfield 20, 3) := by decide +kernel
theorem dX1_take_17 : decode cX1_take 17 = .ok (.aaload, 1) := by decide +kernel
theorem dX1_take_18 : decode cX1_take 18 = .ok (.aload_n 1, 1) := by decide +kernel
theorem dX1_take_19 : decode cX1_take 19 = .ok (.iload_n 2, 1) := by decide +kernel
theorem dX1_take_20 : decode cX1_take 20 = .ok (.invokevirtual 24, 3) := by decide +kernel
theorem dX1_take_23 : decode cX1_take 23 = .ok (.aload_n 0, 1) := by decide +kernel
theorem dX1_take_24 : decode cX1_take 24 = .ok (.dup, 1) := by decide +kernel
theorem dX1_take_25 : decode cX1_take 25 = .ok (.getfield 20, 3) := by decide +kernel
theorem dX1_take_28 : decode cX1_take 28 = .ok (.iconst 1, 1) := by decide +kernel
theorem dX1_take_29 : decode cX1_take 29 = .ok (.iadd, 1) := by decide +kernel
theorem dX1_take_30 : decode cX1_take 30 = .ok (.putfield 20, 3) := by decide +kernel
theorem dX1_take_33 : decode cX1_take 33 = .ok (.aload_n 0, 1) := by decide +kernel
theorem dX1_take_34 : decode cX1_take 34 = .ok (.getfield 15, 3) := by decide +kernel
theorem dX1_take_37 : decode cX1_take 37 = .ok (.aload_n 0, 1) := by decide +kernel
theorem dX1_take_38 : decode cX1_take 38 = .ok (.getfield 28, 3) := by decide +kernel
theorem dX1_take_41 : decode cX1_take 41 = .ok (.iconst 3, 1) := by decide +kernel
theorem dX1_take_42 : decode cX1_take 42 = .ok (.iand, 1) := by decide +kernel
theorem dX1_take_43 : decode cX1_take 43 = .ok (.aload_n 1, 1) := by decide +kernel
theorem dX1_take_44 : decode cX1_take 44 = .ok (.getfield 31, 3) := by decide +kernel
theorem dX1_take_47 : decode cX1_take 47 = .ok (.iastore, 1) := by decide +kernel
theorem dX1_take_48 : decode cX1_take 48 = .ok (.aload_n 0, 1) := by decide +kernel
theorem dX1_take_49 : decode cX1_take 49 = .ok (.dup, 1) := by decide +kernel
theorem dX1_take_50 : decode cX1_take 50 = .ok (.getfield 28, 3) := by decide +kernel
theorem dX1_take_53 : decode cX1_take 53 = .ok (.iconst 1, 1) := by decide +kernel
theorem dX1_take_54 : decode cX1_take 54 = .ok (.iadd, 1) := by decide +kernel
theorem dX1_take_55 : decode cX1_take 55 = .ok (.putfield 28, 3) := by decide +kernel
theorem dX1_take_58 : decode cX1_take 58 = .ok (.aload_n 0, 1) := by decide +kernel
theorem dX1_take_59 : decode cX1_take 59 = .ok (.dup, 1) := by decide +kernel
theorem dX1_take_60 : decode cX1_take 60 = .ok (.getfield 36, 3) := by decide +kernel
theorem dX1_take_63 : decode cX1_take 63 = .ok (.aload_n 1, 1) := by decide +kernel
theorem dX1_take_64 : decode cX1_take 64 = .ok (.getfield 31, 3) := by decide +kernel
theorem dX1_take_67 : decode cX1_take 67 = .ok (.iadd, 1) := by decide +kernel
theorem dX1_take_68 : decode cX1_take 68 = .ok (.putfield 36, 3) := by decide +kernel
theorem dX1_take_71 : decode cX1_take 71 = .ok (.aload_n 0, 1) := by decide +kernel
theorem dX1_take_72 : decode cX1_take 72 = .ok (.dup, 1) := by decide +kernel
theorem dX1_take_73 : decode cX1_take 73 = .ok (.getfield 39, 3) := by decide +kernel
theorem dX1_take_76 : decode cX1_take 76 = .ok (.iconst 0, 1) := by decide +kernel
theorem dX1_take_77 : decode cX1_take 77 = .ok (.aload_n 1, 1) := by decide +kernel
theorem dX1_take_78 : decode cX1_take 78 = .ok (.getfield 31, 3) := by decide +kernel
theorem dX1_take_81 : decode cX1_take 81 = .ok (.iload_n 3, 1) := by decide +kernel
theorem dX1_take_82 : decode cX1_take 82 = .ok (.isub, 1) := by decide +kernel
theorem dX1_take_83 : decode cX1_take 83 = .ok (.invokestatic 42, 3) := by decide +kernel
theorem dX1_take_86 : decode cX1_take 86 = .ok (.iadd, 1) := by decide +kernel
theorem dX1_take_87 : decode cX1_take 87 = .ok (.putfield 39, 3) := by decide +kernel
theorem dX1_take_90 : decode cX1_take 90 = .ok (.return_, 1) := by decide +kernel
def bX1_take_0 (f1 : ox_F) (rc : Nat → ox_K) : ox_K := o_al 0 (o_geti 1 1 (o_ic (40) (o_icge (rc 33) (o_al 0 (o_getr 1 0 (o_al 0 (o_geti 1 1 (o_aa 0 (o_al 1 (o_il 2 (o_cv f1 0 2 (o_al 0 (o_dup (o_geti 1 1 (o_ic (1) (o_iadd (o_puti 1 1 (rc 33))))))))))))))))))
def bX1_take_33 (f1 : ox_F) (rc : Nat → ox_K) : ox_K := o_al 0 (o_getr 1 6 (o_al 0 (o_geti 1 2 (o_ic (3) (o_iand (o_al 1 (o_geti 5 0 (o_iast (o_al 0 (o_dup (o_geti 1 2 (o_ic (1) (o_iadd (o_puti 1 2 (o_al 0 (o_dup (o_geti 1 3 (o_al 1 (o_geti 5 0 (o_iadd (o_puti 1 3 (o_al 0 (o_dup (o_geti 1 4 (o_ic (0) (o_al 1 (o_geti 5 0 (o_il 3 (o_isub (o_mmax (o_iadd (o_puti 1 4 (o_ret)))))))))))))))))))))))))))))))))
section SX1_take
variable {p : Program} {l : Launch} {e : Env} {R : Room} {s : State} {m : MethodId} {args : Array Value} {below : List Frame} {meth : Method} {c : Code} {g : ox_G} {c0 t0 dp d1 : Nat} {rc : Nat → ox_K} {f1 : ox_F}
set_option maxRecDepth 100000 in
theorem kX1_take_0 (C : ox_C p s m args c g 4 cX1_take RX1) (hr : meth.sig.returnType = none) (hlk : meth.locks = false) (hnm : meth.name = "take") (hR : R.frames = dp ∧ R.locals = 60 * dp) (e0 : 1 ≤ dp) (h1 : ox_Sem yX0_become cX0_become 3 none d1 f1) (e1 : d1 + 1 ≤ dp) (hrc : ∀ b, ox_S p l e R s m args below meth c g 4 c0 t0 (ox_QM g below args s c0 t0) b (rc b)) : ox_S p l e R s m args below meth c g 4 c0 t0 (ox_QM g below args s c0 t0) 0 (bX1_take_0 f1 rc) := by
  refine s_aload_n (pc := 0) C dX1_take_0 rfl ?_
  refine s_geti (pc := 1) (j := 1) (q := (RX1, TX1, 7)) C rfl (by decide) rfl wF_X1_20 dX1_take_1 ?_
  refine s_bipush (pc := 4) C dX1_take_4 (by decide) ?_
  refine s_icmpge (pc := 6) 33 C dX1_take_6 (by decide) (hrc 33) ?_
  refine s_aload_n (pc := 9) C dX1_take_9 rfl ?_
  refine s_getr (pc := 10) (j := 0) (q := (RX1, TX1, 7)) C rfl (by decide) rfl wF_X1_11 dX1_take_10 ?_
  refine s_aload_n (pc := 13) C dX1_take_13 rfl ?_
  refine s_geti (pc := 14) (j := 1) (q := (RX1, TX1, 7)) C rfl (by decide) rfl wF_X1_20 dX1_take_14 ?_
  refine s_aa (pc := 17) (q := (RX0, TX0, 7)) 3 C rfl dX1_take_17 ?_
  refine s_aload_n (pc := 18) C dX1_take_18 rfl ?_
  refine s_iload_n (pc := 19) C dX1_take_19 rfl ?_
  refine s_cv (pc := 20) (q := (RX0, TX0, 7)) C h1 rfl wM_X1_24 wI_X0_become wS_X0_become wN_X0 wC_X0_become (by decide +kernel) (ox_lv hR e1 (by decide)) dX1_take_20 ?_
  refine s_aload_n (pc := 23) C dX1_take_23 rfl ?_
  refine s_dup (pc := 24) C dX1_take_24 ?_
  refine s_geti (pc := 25) (j := 1) (q := (RX1, TX1, 7)) C rfl (by decide) rfl wF_X1_20 dX1_take_25 ?_
  refine s_iconst (pc := 28) C dX1_take_28 (by decide) ?_
  refine s_iadd (pc := 29) C dX1_take_29 ?_
  refine s_puti (pc := 30) (j := 1) (q := (RX1, TX1, 7)) C rfl (by decide) rfl (Or.inl rfl) wF_X1_20 dX1_take_30 ?_
  exact hrc 33
set_option maxRecDepth 100000 in
theorem kX1_take_33 (C : ox_C p s m args c g 4 cX1_take RX1) (hr : meth.sig.returnType = none) (hlk : meth.locks = false) (hnm : meth.name = "take") (hR : R.frames = dp ∧ R.locals = 60 * dp) (e0 : 1 ≤ dp) (h1 : ox_Sem yX0_become cX0_become 3 none d1 f1) (e1 : d1 + 1 ≤ dp) (hrc : ∀ b, ox_S p l e R s m args below meth c g 4 c0 t0 (ox_QM g below args s c0 t0) b (rc b)) : ox_S p l e R s m args below meth c g 4 c0 t0 (ox_QM g below args s c0 t0) 33 (bX1_take_33 f1 rc) := by
  refine s_aload_n (pc := 33) C dX1_take_33 rfl ?_
  refine s_getr (pc := 34) (j := 6) (q := (RX1, TX1, 7)) C rfl (by decide) rfl wF_X1_15 dX1_take_34 ?_
  refine s_aload_n (pc := 37) C dX1_take_37 rfl ?_
  refine s_geti (pc := 38) (j := 2) (q := (RX1, TX1, 7)) C rfl (by decide) rfl wF_X1_28 dX1_take_38 ?_
  refine s_iconst (pc := 41) C dX1_take_41 (by decide) ?_
  refine s_iand (pc := 42) C dX1_take_42 ?_
  refine s_aload_n (pc := 43) C dX1_take_43 rfl ?_
  refine s_geti (pc := 44) (j := 0) (q := (RX5, TX5, 8)) C rfl (by decide) rfl wF_X1_31 dX1_take_44 ?_
  refine s_iast (pc := 47) C dX1_take_47 ?_
  refine s_aload_n (pc := 48) C dX1_take_48 rfl ?_
  refine s_dup (pc := 49) C dX1_take_49 ?_
  refine s_geti (pc := 50) (j := 2) (q := (RX1, TX1, 7)) C rfl (by decide) rfl wF_X1_28 dX1_take_50 ?_
  refine s_iconst (pc := 53) C dX1_take_53 (by decide) ?_
  refine s_iadd (pc := 54) C dX1_take_54 ?_
  refine s_puti (pc := 55) (j := 2) (q := (RX1, TX1, 7)) C rfl (by decide) rfl (Or.inl rfl) wF_X1_28 dX1_take_55 ?_
  refine s_aload_n (pc := 58) C dX1_take_58 rfl ?_
  refine s_dup (pc := 59) C dX1_take_59 ?_
  refine s_geti (pc := 60) (j := 3) (q := (RX1, TX1, 7)) C rfl (by decide) rfl wF_X1_36 dX1_take_60 ?_
  refine s_aload_n (pc := 63) C dX1_take_63 rfl ?_
  refine s_geti (pc := 64) (j := 0) (q := (RX5, TX5, 8)) C rfl (by decide) rfl wF_X1_31 dX1_take_64 ?_
  refine s_iadd (pc := 67) C dX1_take_67 ?_
  refine s_puti (pc := 68) (j := 3) (q := (RX1, TX1, 7)) C rfl (by decide) rfl (Or.inl rfl) wF_X1_36 dX1_take_68 ?_
  refine s_aload_n (pc := 71) C dX1_take_71 rfl ?_
  refine s_dup (pc := 72) C dX1_take_72 ?_
  refine s_geti (pc := 73) (j := 4) (q := (RX1, TX1, 7)) C rfl (by decide) rfl wF_X1_39 dX1_take_73 ?_
  refine s_iconst (pc := 76) C dX1_take_76 (by decide) ?_
  refine s_aload_n (pc := 77) C dX1_take_77 rfl ?_
  refine s_geti (pc := 78) (j := 0) (q := (RX5, TX5, 8)) C rfl (by decide) rfl wF_X1_31 dX1_take_78 ?_
  refine s_iload_n (pc := 81) C dX1_take_81 rfl ?_
  refine s_isub (pc := 82) C dX1_take_82 ?_
  refine s_mmax (pc := 83) C wM_X1_42 wT_mmax wN_J9 wC_mmax (ox_lv3 hR e0) dX1_take_83 ?_
  refine s_iadd (pc := 86) C dX1_take_86 ?_
  refine s_puti (pc := 87) (j := 4) (q := (RX1, TX1, 7)) C rfl (by decide) rfl (Or.inl rfl) wF_X1_39 dX1_take_87 ?_
  exact s_ret (pc := 90) C hr hlk dX1_take_90
end SX1_take
def bsX1_take (f1 : ox_F) (b : Nat) (rc : Nat → ox_K) : ox_K := if b = 0 then bX1_take_0 f1 rc else if b = 33 then bX1_take_33 f1 rc else ox_no
theorem mX1_take {dp d1 : Nat} {f1 f : ox_F} (e0 : 1 ≤ dp) (h1 : ox_Sem yX0_become cX0_become 3 none d1 f1) (e1 : d1 + 1 ≤ dp) (hf : ∀ as h r, f as h = some r → ox_cs as ≤ 4 ∧ ox_le h r.2 ∧ ∃ n, ox_run (bsX1_take f1) n 0 (lv_args 0 as) [] h = some r) : ox_Sem yX1_take cX1_take 4 none dp f := by
  refine ox_meth (bs := bsX1_take f1) (by decide) hf ?_
  intro p l e R s m args below meth c g c0 t0 C hr hlk hnm hR rc hrc b
  unfold bsX1_take
  refine ox_br (kX1_take_0 C hr hlk hnm hR e0 h1 e1 hrc) ?_
  refine ox_br (kX1_take_33 C hr hlk hnm hR e0 h1 e1 hrc) ?_
  exact s_no
theorem dX1_recentMean_0 : decode cX1_recentMean 0 = .ok (.iconst 0, 1) := by decide +kernel
theorem dX1_recentMean_1 : decode cX1_recentMean 1 = .ok (.istore_n 1, 1) := by decide +kernel
theorem dX1_recentMean_2 : decode cX1_recentMean 2 = .ok (.iconst 0, 1) := by decide +kernel
theorem dX1_recentMean_3 : decode cX1_recentMean 3 = .ok (.istore_n 2, 1) := by decide +kernel
theorem dX1_recentMean_4 : decode cX1_recentMean 4 = .ok (.iload_n 2, 1) := by decide +kernel
theorem dX1_recentMean_5 : decode cX1_recentMean 5 = .ok (.iconst 4, 1) := by decide +kernel
theorem dX1_recentMean_6 : decode cX1_recentMean 6 = .ok (.if_icmp .ge 18, 3) := by decide +kernel
theorem dX1_recentMean_9 : decode cX1_recentMean 9 = .ok (.iload_n 1, 1) := by decide +kernel
theorem dX1_recentMean_10 : decode cX1_recentMean 10 = .ok (.aload_n 0, 1) := by decide +kernel
theorem dX1_recentMean_11 : decode cX1_recentMean 11 = .ok (.getfield 15, 3) := by decide +kernel
theorem dX1_recentMean_14 : decode cX1_recentMean 14 = .ok (.iload_n 2, 1) := by decide +kernel
theorem dX1_recentMean_15 : decode cX1_recentMean 15 = .ok (.iaload, 1) := by decide +kernel
theorem dX1_recentMean_16 : decode cX1_recentMean 16 = .ok (.iadd, 1) := by decide +kernel
theorem dX1_recentMean_17 : decode cX1_recentMean 17 = .ok (.istore_n 1, 1) := by decide +kernel
theorem dX1_recentMean_18 : decode cX1_recentMean 18 = .ok (.iinc 2 1, 3) := by decide +kernel
theorem dX1_recentMean_21 : decode cX1_recentMean 21 = .ok (.goto (-17), 3) := by decide +kernel
theorem dX1_recentMean_24 : decode cX1_recentMean 24 = .ok (.iload_n 1, 1) := by decide +kernel
theorem dX1_recentMean_25 : decode cX1_recentMean 25 = .ok (.iconst 1, 1) := by decide +kernel
theorem dX1_recentMean_26 : decode cX1_recentMean 26 = .ok (.aload_n 0, 1) := by decide +kernel
theorem dX1_recentMean_27 : decode cX1_recentMean 27 = .ok (.getfield 28, 3) := by decide +kernel
theorem dX1_recentMean_30 : decode cX1_recentMean 30 = .ok (.iconst 4, 1) := by decide +kernel
theorem dX1_recentMean_31 : decode cX1_recentMean 31 = .ok (.invokestatic 48, 3) := by decide +kernel
theorem dX1_recentMean_34 : decode cX1_recentMean 34 = .ok (.invokestatic 42, 3) := by decide +kernel
theorem dX1_recentMean_37 : decode cX1_recentMean 37 = .ok (.idiv, 1) := by decide +kernel
theorem dX1_recentMean_38 : decode cX1_recentMean 38 = .ok (.ireturn, 1) := by decide +kernel
def bX1_recentMean_0 (rc : Nat → ox_K) : ox_K := o_ic (0) (o_is 1 (o_ic (0) (o_is 2 (rc 4))))
def bX1_recentMean_4 (rc : Nat → ox_K) : ox_K := o_keep [0, 1, 2] (o_il 2 (o_ic (4) (o_icge (rc 24) (o_il 1 (o_al 0 (o_getr 1 6 (o_il 2 (o_ia (o_iadd (o_is 1 (o_inc 2 (1) (rc 4))))))))))))
def bX1_recentMean_24 (rc : Nat → ox_K) : ox_K := o_il 1 (o_ic (1) (o_al 0 (o_geti 1 2 (o_ic (4) (o_mmin (o_mmax (o_idiv (o_iret))))))))
section SX1_recentMean
variable {p : Program} {l : Launch} {e : Env} {R : Room} {s : State} {m : MethodId} {args : Array Value} {below : List Frame} {meth : Method} {c : Code} {g : ox_G} {c0 t0 dp  : Nat} {rc : Nat → ox_K}
set_option maxRecDepth 100000 in
theorem kX1_recentMean_0 (C : ox_C p s m args c g 3 cX1_recentMean RX1) (hr : meth.sig.returnType = (some .int)) (hlk : meth.locks = false) (hnm : meth.name = "recentMean") (hR : R.frames = dp ∧ R.locals = 60 * dp) (e0 : 1 ≤ dp) (hrc : ∀ b, ox_S p l e R s m args below meth c g 3 c0 t0 (ox_QM g below args s c0 t0) b (rc b)) : ox_S p l e R s m args below meth c g 3 c0 t0 (ox_QM g below args s c0 t0) 0 (bX1_recentMean_0 rc) := by
  refine s_iconst (pc := 0) C dX1_recentMean_0 (by decide) ?_
  refine s_istore_n (pc := 1) C dX1_recentMean_1 rfl (by decide) ?_
  refine s_iconst (pc := 2) C dX1_recentMean_2 (by decide) ?_
  refine s_istore_n (pc := 3) C dX1_recentMean_3 rfl (by decide) ?_
  exact hrc 4
set_option maxRecDepth 100000 in
theorem kX1_recentMean_4 (C : ox_C p s m args c g 3 cX1_recentMean RX1) (hr : meth.sig.returnType = (some .int)) (hlk : meth.locks = false) (hnm : meth.name = "recentMean") (hR : R.frames = dp ∧ R.locals = 60 * dp) (e0 : 1 ≤ dp) (hrc : ∀ b, ox_S p l e R s m args below meth c g 3 c0 t0 (ox_QM g below args s c0 t0) b (rc b)) : ox_S p l e R s m args below meth c g 3 c0 t0 (ox_QM g below args s c0 t0) 4 (bX1_recentMean_4 rc) := by
  refine s_keep ?_
  refine s_iload_n (pc := 4) C dX1_recentMean_4 rfl ?_
  refine s_iconst (pc := 5) C dX1_recentMean_5 (by decide) ?_
  refine s_icmpge (pc := 6) 24 C dX1_recentMean_6 (by decide) (hrc 24) ?_
  refine s_iload_n (pc := 9) C dX1_recentMean_9 rfl ?_
  refine s_aload_n (pc := 10) C dX1_recentMean_10 rfl ?_
  refine s_getr (pc := 11) (j := 6) (q := (RX1, TX1, 7)) C rfl (by decide) rfl wF_X1_15 dX1_recentMean_11 ?_
  refine s_iload_n (pc := 14) C dX1_recentMean_14 rfl ?_
  refine s_ia (pc := 15) C dX1_recentMean_15 ?_
  refine s_iadd (pc := 16) C dX1_recentMean_16 ?_
  refine s_istore_n (pc := 17) C dX1_recentMean_17 rfl (by decide) ?_
  refine s_iinc (pc := 18) C dX1_recentMean_18 (by decide) (by decide) ?_
  exact s_goto (pc := 21) 4 C dX1_recentMean_21 (by decide) (hrc 4)
set_option maxRecDepth 100000 in
theorem kX1_recentMean_24 (C : ox_C p s m args c g 3 cX1_recentMean RX1) (hr : meth.sig.returnType = (some .int)) (hlk : meth.locks = false) (hnm : meth.name = "recentMean") (hR : R.frames = dp ∧ R.locals = 60 * dp) (e0 : 1 ≤ dp) (hrc : ∀ b, ox_S p l e R s m args below meth c g 3 c0 t0 (ox_QM g below args s c0 t0) b (rc b)) : ox_S p l e R s m args below meth c g 3 c0 t0 (ox_QM g below args s c0 t0) 24 (bX1_recentMean_24 rc) := by
  refine s_iload_n (pc := 24) C dX1_recentMean_24 rfl ?_
  refine s_iconst (pc := 25) C dX1_recentMean_25 (by decide) ?_
  refine s_aload_n (pc := 26) C dX1_recentMean_26 rfl ?_
  refine s_geti (pc := 27) (j := 2) (q := (RX1, TX1, 7)) C rfl (by decide) rfl wF_X1_28 dX1_recentMean_27 ?_
  refine s_iconst (pc := 30) C dX1_recentMean_30 (by decide) ?_
  refine s_mmin (pc := 31) C wM_X1_48 wT_mmin wN_J9 wC_mmin (ox_lv3 hR e0) dX1_recentMean_31 ?_
  refine s_mmax (pc := 34) C wM_X1_42 wT_mmax wN_J9 wC_mmax (ox_lv3 hR e0) dX1_recentMean_34 ?_
  refine s_idiv (pc := 37) C dX1_recentMean_37 ?_
  exact s_iret (pc := 38) C hr hlk dX1_recentMean_38
end SX1_recentMean
def bsX1_recentMean (b : Nat) (rc : Nat → ox_K) : ox_K := if b = 0 then bX1_recentMean_0 rc else if b = 4 then bX1_recentMean_4 rc else if b = 24 then bX1_recentMean_24 rc else ox_no
theorem mX1_recentMean {dp  : Nat} {f : ox_F} (e0 : 1 ≤ dp) (hf : ∀ as h r, f as h = some r → ox_cs as ≤ 3 ∧ ox_le h r.2 ∧ ∃ n, ox_run (bsX1_recentMean) n 0 (lv_args 0 as) [] h = some r) : ox_Sem yX1_recentMean cX1_recentMean 3 (some .int) dp f := by
  refine ox_meth (bs := bsX1_recentMean) (by decide) hf ?_
  intro p l e R s m args below meth c g c0 t0 C hr hlk hnm hR rc hrc b
  unfold bsX1_recentMean
  refine ox_br (kX1_recentMean_0 C hr hlk hnm hR e0 hrc) ?_
  refine ox_br (kX1_recentMean_4 C hr hlk hnm hR e0 hrc) ?_
  refine ox_br (kX1_recentMean_24 C hr hlk hnm hR e0 hrc) ?_
  exact s_no
theorem dX1_keptWith_0 : decode cX1_keptWith 0 = .ok (.iconst 0, 1) := by decide +kernel
theorem dX1_keptWith_1 : decode cX1_keptWith 1 = .ok (.istore_n 2, 1) := by decide +kernel
theorem dX1_keptWith_2 : decode cX1_keptWith 2 = .ok (.iconst 0, 1) := by decide +kernel
theorem dX1_keptWith_3 : decode cX1_keptWith 3 = .ok (.istore_n 3, 1) := by decide +kernel
theorem dX1_keptWith_4 : decode cX1_keptWith 4 = .ok (.iload_n 3, 1) := by decide +kernel
theorem dX1_keptWith_5 : decode cX1_keptWith 5 = .ok (.aload_n 0, 1) := by decide +kernel
theorem dX1_keptWith_6 : decode cX1_keptWith 6 = .ok (.getfield 20, 3) := by decide +kernel
theorem dX1_keptWith_9 : decode cX1_keptWith 9 = .ok (.if_icmp .ge 32, 3) := by decide +kernel
theorem dX1_keptWith_12 : decode cX1_keptWith 12 = .ok (.iload_n 3, 1) := by decide +kernel
theorem dX1_keptWith_13 : decode cX1_keptWith 13 = .ok (.bipush 40, 2) := by decide +kernel
theorem dX1_keptWith_15 : decode cX1_keptWith 15 = .ok (.if_icmp .ge 26, 3) := by decide +kernel
theorem dX1_keptWith_18 : decode cX1_keptWith 18 = .ok (.aload_n 0, 1) := by decide +kernel
theorem dX1_keptWith_19 : decode cX1_keptWith 19 = .ok (.getfield 11, 3) := by decide +kernel
theorem dX1_keptWith_22 : decode cX1_keptWith 22 = .ok (.iload_n 3, 1) := by decide +kernel
theorem dX1_keptWith_23 : decode cX1_keptWith 23 = .ok (.aaload, 1) := by decide +kernel
theorem dX1_keptWith_24 : decode cX1_keptWith 24 = .ok (.getfield 51, 3) := by decide +kernel
theorem dX1_keptWith_27 : decode cX1_keptWith 27 = .ok (.iload_n 1, 1) := by decide +kernel
theorem dX1_keptWith_28 : decode cX1_keptWith 28 = .ok (.iand, 1) := by decide +kernel
theorem dX1_keptWith_29 : decode cX1_keptWith 29 = .ok (.ifCond .eq 6, 3) := by decide +kernel
theorem dX1_keptWith_32 : decode cX1_keptWith 32 = .ok (.iinc 2 1, 3) := by decide +kernel
theorem dX1_keptWith_35 : decode cX1_keptWith 35 = .ok (.iinc 3 1, 3) := by decide +kernel
theorem dX1_keptWith_38 : decode cX1_keptWith 38 = .ok (.goto (-34), 3) := by decide +kernel
theorem dX1_keptWith_41 : decode cX1_keptWith 41 = .ok (.iload_n 2, 1) := by decide +kernel
theorem dX1_keptWith_42 : decode cX1_keptWith 42 = .ok (.ireturn, 1) := by decide +kernel
def bX1_keptWith_0 (rc : Nat → ox_K) : ox_K := o_ic (0) (o_is 2 (o_ic (0) (o_is 3 (rc 4))))
def bX1_keptWith_4 (rc : Nat → ox_K) : ox_K := o_keep [0, 1, 2, 3] (o_il 3 (o_al 0 (o_geti 1 1 (o_icge (rc 41) (o_il 3 (o_ic (40) (o_icge (rc 41) (o_al 0 (o_getr 1 0 (o_il 3 (o_aa 0 (o_geti 0 3 (o_il 1 (o_iand (o_ifeq (rc 35) (o_inc 2 (1) (rc 35)))))))))))))))))
def bX1_keptWith_35 (rc : Nat → ox_K) : ox_K := o_inc 3 (1) (rc 4)
def bX1_keptWith_41 (rc : Nat → ox_K) : ox_K := o_il 2 (o_iret)
section SX1_keptWith
variable {p : Program} {l : Launch} {e : Env} {R : Room} {s : State} {m : MethodId} {args : Array Value} {below : List Frame} {meth : Method} {c : Code} {g : ox_G} {c0 t0 dp  : Nat} {rc : Nat → ox_K}
set_option maxRecDepth 100000 in
theorem kX1_keptWith_0 (C : ox_C p s m args c g 4 cX1_keptWith RX1) (hr : meth.sig.returnType = (some .int)) (hlk : meth.locks = false) (hnm : meth.name = "keptWith") (hR : R.frames = dp ∧ R.locals = 60 * dp) (hrc : ∀ b, ox_S p l e R s m args below meth c g 4 c0 t0 (ox_QM g below args s c0 t0) b (rc b)) : ox_S p l e R s m args below meth c g 4 c0 t0 (ox_QM g below args s c0 t0) 0 (bX1_keptWith_0 rc) := by
  refine s_iconst (pc := 0) C dX1_keptWith_0 (by decide) ?_
  refine s_istore_n (pc := 1) C dX1_keptWith_1 rfl (by decide) ?_
  refine s_iconst (pc := 2) C dX1_keptWith_2 (by decide) ?_
  refine s_istore_n (pc := 3) C dX1_keptWith_3 rfl (by decide) ?_
  exact hrc 4
set_option maxRecDepth 100000 in
theorem kX1_keptWith_4 (C : ox_C p s m args c g 4 cX1_keptWith RX1) (hr : meth.sig.returnType = (some .int)) (hlk : meth.locks = false) (hnm : meth.name = "keptWith") (hR : R.frames = dp ∧ R.locals = 60 * dp) (hrc : ∀ b, ox_S p l e R s m args below meth c g 4 c0 t0 (ox_QM g below args s c0 t0) b (rc b)) : ox_S p l e R s m args below meth c g 4 c0 t0 (ox_QM g below args s c0 t0) 4 (bX1_keptWith_4 rc) := by
  refine s_keep ?_
  refine s_iload_n (pc := 4) C dX1_keptWith_4 rfl ?_
  refine s_aload_n (pc := 5) C dX1_keptWith_5 rfl ?_
  refine s_geti (pc := 6) (j := 1) (q := (RX1, TX1, 7)) C rfl (by decide) rfl wF_X1_20 dX1_keptWith_6 ?_
  refine s_icmpge (pc := 9) 41 C dX1_keptWith_9 (by decide) (hrc 41) ?_
  refine s_iload_n (pc := 12) C dX1_keptWith_12 rfl ?_
  refine s_bipush (pc := 13) C dX1_keptWith_13 (by decide) ?_
  refine s_icmpge (pc := 15) 41 C dX1_keptWith_15 (by decide) (hrc 41) ?_
  refine s_aload_n (pc := 18) C dX1_keptWith_18 rfl ?_
  refine s_getr (pc := 19) (j := 0) (q := (RX1, TX1, 7)) C rfl (by decide) rfl wF_X1_11 dX1_keptWith_19 ?_
  refine s_iload_n (pc := 22) C dX1_keptWith_22 rfl ?_
  refine s_aa (pc := 23) (q := (RX0, TX0, 7)) 3 C rfl dX1_keptWith_23 ?_
  refine s_geti (pc := 24) (j := 3) (q := (RX0, TX0, 7)) C rfl (by decide) rfl wF_X1_51 dX1_keptWith_24 ?_
  refine s_iload_n (pc := 27) C dX1_keptWith_27 rfl ?_
  refine s_iand (pc := 28) C dX1_keptWith_28 ?_
  refine s_ifeq (pc := 29) 35 C dX1_keptWith_29 (by decide) (hrc 35) ?_
  refine s_iinc (pc := 32) C dX1_keptWith_32 (by decide) (by decide) ?_
  exact hrc 35
set_option maxRecDepth 100000 in
theorem kX1_keptWith_35 (C : ox_C p s m args c g 4 cX1_keptWith RX1) (hr : meth.sig.returnType = (some .int)) (hlk : meth.locks = false) (hnm : meth.name = "keptWith") (hR : R.frames = dp ∧ R.locals = 60 * dp) (hrc : ∀ b, ox_S p l e R s m args below meth c g 4 c0 t0 (ox_QM g below args s c0 t0) b (rc b)) : ox_S p l e R s m args below meth c g 4 c0 t0 (ox_QM g below args s c0 t0) 35 (bX1_keptWith_35 rc) := by
  refine s_iinc (pc := 35) C dX1_keptWith_35 (by decide) (by decide) ?_
  exact s_goto (pc := 38) 4 C dX1_keptWith_38 (by decide) (hrc 4)
set_option maxRecDepth 100000 in
theorem kX1_keptWith_41 (C : ox_C p s m args c g 4 cX1_keptWith RX1) (hr : meth.sig.returnType = (some .int)) (hlk : meth.locks = false) (hnm : meth.name = "keptWith") (hR : R.frames = dp ∧ R.locals = 60 * dp) (hrc : ∀ b, ox_S p l e R s m args below meth c g 4 c0 t0 (ox_QM g below args s c0 t0) b (rc b)) : ox_S p l e R s m args below meth c g 4 c0 t0 (ox_QM g below args s c0 t0) 41 (bX1_keptWith_41 rc) := by
  refine s_iload_n (pc := 41) C dX1_keptWith_41 rfl ?_
  exact s_iret (pc := 42) C hr hlk dX1_keptWith_42
end SX1_keptWith
def bsX1_keptWith (b : Nat) (rc : Nat → ox_K) : ox_K := if b = 0 then bX1_keptWith_0 rc else if b = 4 then bX1_keptWith_4 rc else if b = 35 then bX1_keptWith_35 rc else if b = 41 then bX1_keptWith_41 rc else ox_no
theorem mX1_keptWith {dp  : Nat} {f : ox_F} (hf : ∀ as h r, f as h = some r → ox_cs as ≤ 4 ∧ ox_le h r.2 ∧ ∃ n, ox_run (bsX1_keptWith) n 0 (lv_args 0 as) [] h = some r) : ox_Sem yX1_keptWith cX1_keptWith 4 (some .int) dp f := by
  refine ox_meth (bs := bsX1_keptWith) (by decide) hf ?_
  intro p l e R s m args below meth c g c0 t0 C hr hlk hnm hR rc hrc b
  unfold bsX1_keptWith
  refine ox_br (kX1_keptWith_0 C hr hlk hnm hR hrc) ?_
  refine ox_br (kX1_keptWith_4 C hr hlk hnm hR hrc) ?_
  refine ox_br (kX1_keptWith_35 C hr hlk hnm hR hrc) ?_
  refine ox_br (kX1_keptWith_41 C hr hlk hnm hR hrc) ?_
  exact s_no
