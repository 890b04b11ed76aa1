theorem dX11_init_0 : decode cX11_init 0 = .ok (.aload_n 0, 1) := by decide +kernel
theorem dX11_init_1 : decode cX11_init 1 = .ok (.invokespecial 1, 3) := by decide +kernel
theorem dX11_init_4 : decode cX11_init 4 = .ok (.aload_n 0, 1) := by decide +kernel
theorem dX11_init_5 : decode cX11_init 5 = .ok (.bipush 8, 2) := by decide +kernel
theorem dX11_init_7 : decode cX11_init 7 = .ok (.anewarray 9, 3) := by decide +kernel
theorem dX11_init_10 : decode cX11_init 10 = .ok (.putfield 11, 3) := by decide +kernel
theorem dX11_init_13 : decode cX11_init 13 = .ok (.aload_n 0, 1) := by decide +kernel
theorem dX11_init_14 : decode cX11_init 14 = .ok (.new 15, 3) := by decide +kernel
theorem dX11_init_17 : decode cX11_init 17 = .ok (.dup, 1) := by decide +kernel
theorem dX11_init_18 : decode cX11_init 18 = .ok (.invokespecial 17, 3) := by decide +kernel
theorem dX11_init_21 : decode cX11_init 21 = .ok (.putfield 18, 3) := by decide +kernel
theorem dX11_init_24 : decode cX11_init 24 = .ok (.aload_n 0, 1) := by decide +kernel
theorem dX11_init_25 : decode cX11_init 25 = .ok (.new 22, 3) := by decide +kernel
theorem dX11_init_28 : decode cX11_init 28 = .ok (.dup, 1) := by decide +kernel
theorem dX11_init_29 : decode cX11_init 29 = .ok (.invokespecial 24, 3) := by decide +kernel
theorem dX11_init_32 : decode cX11_init 32 = .ok (.putfield 25, 3) := by decide +kernel
theorem dX11_init_35 : decode cX11_init 35 = .ok (.aload_n 0, 1) := by decide +kernel
theorem dX11_init_36 : decode cX11_init 36 = .ok (.iconst 4, 1) := by decide +kernel
theorem dX11_init_37 : decode cX11_init 37 = .ok (.anewarray 29, 3) := by decide +kernel
theorem dX11_init_40 : decode cX11_init 40 = .ok (.putfield 31, 3) := by decide +kernel
theorem dX11_init_43 : decode cX11_init 43 = .ok (.aload_n 0, 1) := by decide +kernel
theorem dX11_init_44 : decode cX11_init 44 = .ok (.bipush 6, 2) := by decide +kernel
theorem dX11_init_46 : decode cX11_init 46 = .ok (.newarray .int, 2) := by decide +kernel
theorem dX11_init_48 : decode cX11_init 48 = .ok (.putfield 35, 3) := by decide +kernel
theorem dX11_init_51 : decode cX11_init 51 = .ok (.aload_n 0, 1) := by decide +kernel
theorem dX11_init_52 : decode cX11_init 52 = .ok (.new 39, 3) := by decide +kernel
theorem dX11_init_55 : decode cX11_init 55 = .ok (.dup, 1) := by decide +kernel
theorem dX11_init_56 : decode cX11_init 56 = .ok (.invokespecial 41, 3) := by decide +kernel
theorem dX11_init_59 : decode cX11_init 59 = .ok (.putfield 42, 3) := by decide +kernel
theorem dX11_init_62 : decode cX11_init 62 = .ok (.aload_n 0, 1) := by decide +kernel
theorem dX11_init_63 : decode cX11_init 63 = .ok (.new 46, 3) := by decide +kernel
theorem dX11_init_66 : decode cX11_init 66 = .ok (.dup, 1) := by decide +kernel
theorem dX11_init_67 : decode cX11_init 67 = .ok (.invokespecial 48, 3) := by decide +kernel
theorem dX11_init_70 : decode cX11_init 70 = .ok (.putfield 49, 3) := by decide +kernel
theorem dX11_init_73 : decode cX11_init 73 = .ok (.aload_n 0, 1) := by decide +kernel
theorem dX11_init_74 : decode cX11_init 74 = .ok (.new 53, 3) := by decide +kernel
theorem dX11_init_77 : decode cX11_init 77 = .ok (.dup, 1) := by decide +kernel
theorem dX11_init_78 : decode cX11_init 78 = .ok (.invokespecial 55, 3) := by decide +kernel
theorem dX11_init_81 : decode cX11_init 81 = .ok (.putfield 56, 3) := by decide +kernel
theorem dX11_init_84 : decode cX11_init 84 = .ok (.aload_n 0, 1) := by decide +kernel
theorem dX11_init_85 : decode cX11_init 85 = .ok (.bipush 16, 2) := by decide +kernel
theorem dX11_init_87 : decode cX11_init 87 = .ok (.newarray .int, 2) := by decide +kernel
theorem dX11_init_89 : decode cX11_init 89 = .ok (.putfield 60, 3) := by decide +kernel
theorem dX11_init_92 : decode cX11_init 92 = .ok (.iconst 0, 1) := by decide +kernel
theorem dX11_init_93 : decode cX11_init 93 = .ok (.istore_n 1, 1) := by decide +kernel
theorem dX11_init_94 : decode cX11_init 94 = .ok (.iload_n 1, 1) := by decide +kernel
theorem dX11_init_95 : decode cX11_init 95 = .ok (.bipush 8, 2) := by decide +kernel
theorem dX11_init_97 : decode cX11_init 97 = .ok (.if_icmp .ge 22, 3) := by decide +kernel
theorem dX11_init_100 : decode cX11_init 100 = .ok (.aload_n 0, 1) := by decide +kernel
theorem dX11_init_101 : decode cX11_init 101 = .ok (.getfield 11, 3) := by decide +kernel
theorem dX11_init_104 : decode cX11_init 104 = .ok (.iload_n 1, 1) := by decide +kernel
theorem dX11_init_105 : decode cX11_init 105 = .ok (.new 9, 3) := by decide +kernel
theorem dX11_init_108 : decode cX11_init 108 = .ok (.dup, 1) := by decide +kernel
theorem dX11_init_109 : decode cX11_init 109 = .ok (.invokespecial 63, 3) := by decide +kernel
theorem dX11_init_112 : decode cX11_init 112 = .ok (.aastore, 1) := by decide +kernel
theorem dX11_init_113 : decode cX11_init 113 = .ok (.iinc 1 1, 3) := by decide +kernel
theorem dX11_init_116 : decode cX11_init 116 = .ok (.goto (-22), 3) := by decide +kernel
theorem dX11_init_119 : decode cX11_init 119 = .ok (.iconst 0, 1) := by decide +kernel
theorem dX11_init_120 : decode cX11_init 120 = .ok (.istore_n 1, 1) := by decide +kernel
theorem dX11_init_121 : decode cX11_init 121 = .ok (.iload_n 1, 1) := by decide +kernel
theorem dX11_init_122 : decode cX11_init 122 = .ok (.iconst 4, 1) := by decide +kernel
theorem dX11_init_123 : decode cX11_init 123 = .ok (.if_icmp .ge 22, 3) := by decide +kernel
theorem dX11_init_126 : decode cX11_init 126 = .ok (.aload_n 0, 1) := by decide +kernel
theorem dX11_init_127 : decode cX11_init 127 = .ok (.getfield 31, 3) := by decide +kernel
theorem dX11_init_130 : decode cX11_init 130 = .ok (.iload_n 1, 1) := by decide +kernel
theorem dX11_init_131 : decode cX11_init 131 = .ok (.new 29, 3) := by decide +kernel
theorem dX11_init_134 : decode cX11_init 134 = .ok (.dup, 1) := by decide +kernel
theorem dX11_init_135 : decode cX11_init 135 = .ok (.invokespecial 64, 3) := by decide +kernel
theorem dX11_init_138 : decode cX11_init 138 = .ok (.aastore, 1) := by decide +kernel
theorem dX11_init_139 : decode cX11_init 139 = .ok (.iinc 1 1, 3) := by decide +kernel
theorem dX11_init_142 : decode cX11_init 142 = .ok (.goto (-21), 3) := by decide +kernel
theorem dX11_init_145 : decode cX11_init 145 = .ok (.return_, 1) := by decide +kernel
def bX11_init_0 (f1 f2 f3 f4 f5 f6 f7 : ox_F) (rc : Nat → ox_K) : ox_K := o_al 0 (o_obj (o_al 0 (o_ic (8) (o_newr 8 (o_putr 11 0 (o_al 0 (o_new 3 (o_dup (o_cn f1 0 (o_putr 11 1 (o_al 0 (o_new 4 (o_dup (o_cn f2 0 (o_putr 11 2 (o_al 0 (o_ic (4) (o_newr 9 (o_putr 11 3 (o_al 0 (o_ic (6) (o_newa 1 (o_putr 11 4 (o_al 0 (o_new 2 (o_dup (o_cn f3 0 (o_putr 11 5 (o_al 0 (o_new 1 (o_dup (o_cn f4 0 (o_putr 11 6 (o_al 0 (o_new 7 (o_dup (o_cn f5 0 (o_putr 11 7 (o_al 0 (o_ic (16) (o_newa 1 (o_putr 11 8 (o_ic (0) (o_is 1 (rc 94)))))))))))))))))))))))))))))))))))))))))))))
def bX11_init_94 (f1 f2 f3 f4 f5 f6 f7 : ox_F) (rc : Nat → ox_K) : ox_K := o_keep [0, 1] (o_il 1 (o_ic (8) (o_icge (rc 119) (o_al 0 (o_getr 11 0 (o_il 1 (o_new 8 (o_dup (o_cn f6 0 (o_aast 8 (o_inc 1 (1) (rc 94))))))))))))
def bX11_init_119 (f1 f2 f3 f4 f5 f6 f7 : ox_F) (rc : Nat → ox_K) : ox_K := o_ic (0) (o_is 1 (rc 121))
def bX11_init_121 (f1 f2 f3 f4 f5 f6 f7 : ox_F) (rc : Nat → ox_K) : ox_K := o_keep [0, 1] (o_il 1 (o_ic (4) (o_icge (rc 145) (o_al 0 (o_getr 11 3 (o_il 1 (o_new 9 (o_dup (o_cn f7 0 (o_aast 9 (o_inc 1 (1) (rc 121))))))))))))
def bX11_init_145 (f1 f2 f3 f4 f5 f6 f7 : ox_F) (rc : Nat → ox_K) : ox_K := o_ret
section SX11_init
variable {p : Program} {l : Launch} {e : Env} {R : Room} {s : State} {m : MethodId} {args : Array Value} {below : List Frame} {meth : Method} {c : Code} {g : ox_G} {c0 t0 dp d1 d2 d3 d4 d5 d6 d7 : Nat} {rc : Nat → ox_K} {f1 f2 f3 f4 f5 f6 f7 : ox_F}
set_option maxRecDepth 100000 in
theorem kX11_init_0 (C : ox_C p s m args c g 2 cX11_init RX11) (hr : meth.sig.returnType = none) (hlk : meth.locks = false) (hnm : meth.name = "<init>") (hR : R.frames = dp ∧ R.locals = 60 * dp) (e0 : 1 ≤ dp) (h1 : ox_Sem yX3_init cX3_init 2 none d1 f1) (e1 : d1 + 1 ≤ dp) (h2 : ox_Sem yX4_init cX4_init 1 none d2 f2) (e2 : d2 + 1 ≤ dp) (h3 : ox_Sem yX2_init cX2_init 2 none d3 f3) (e3 : d3 + 1 ≤ dp) (h4 : ox_Sem yX1_init cX1_init 2 none d4 f4) (e4 : d4 + 1 ≤ dp) (h5 : ox_Sem yX7_init cX7_init 1 none d5 f5) (e5 : d5 + 1 ≤ dp) (h6 : ox_Sem yX8_init cX8_init 1 none d6 f6) (e6 : d6 + 1 ≤ dp) (h7 : ox_Sem yX9_init cX9_init 1 none d7 f7) (e7 : d7 + 1 ≤ dp) (hrc : ∀ b, ox_S p l e R s m args below meth c g 2 c0 t0 (ox_QM g below args s c0 t0) b (rc b)) : ox_S p l e R s m args below meth c g 2 c0 t0 (ox_QM g below args s c0 t0) 0 (bX11_init_0 f1 f2 f3 f4 f5 f6 f7 rc) := by
  refine s_aload_n (pc := 0) C dX11_init_0 rfl ?_
  refine s_obj (pc := 1) C wM_X11_1 wO1 wO2 (ox_lv1 hR e0) dX11_init_1 ?_
  refine s_aload_n (pc := 4) C dX11_init_4 rfl ?_
  refine s_bipush (pc := 5) C dX11_init_5 (by decide) ?_
  refine s_newr (pc := 7) (q := (RX8, TX8, 4)) 6 C rfl rfl wX_X11_9 (by decide +kernel) dX11_init_7 ?_
  refine s_putr (pc := 10) (j := 0) (q := (RX11, TX11, 13)) C rfl (by decide) rfl (Or.inr ⟨rfl, hnm, rfl⟩) wF_X11_11 dX11_init_10 ?_
  refine s_aload_n (pc := 13) C dX11_init_13 rfl ?_
  refine s_new (pc := 14) (q := (RX3, TX3, 6)) C rfl ox_nt3 wX_X11_15 wY_X3 wN_X3 dX11_init_14 ?_
  refine s_dup (pc := 17) C dX11_init_17 ?_
  refine s_cn (pc := 18) C h1 wM_X11_17 wI_X3_init wN_X3 wC_X3_init rfl (by decide +kernel) (ox_lv hR e1 (by decide)) dX11_init_18 ?_
  refine s_putr (pc := 21) (j := 1) (q := (RX11, TX11, 13)) C rfl (by decide) rfl (Or.inr ⟨rfl, hnm, rfl⟩) wF_X11_18 dX11_init_21 ?_
  refine s_aload_n (pc := 24) C dX11_init_24 rfl ?_
  refine s_new (pc := 25) (q := (RX4, TX4, 2)) C rfl ox_nt4 wX_X11_22 wY_X4 wN_X4 dX11_init_25 ?_
  refine s_dup (pc := 28) C dX11_init_28 ?_
  refine s_cnN (pc := 29) C h2 (by decide +kernel) wI_X4_init wN_X4 wC_X4_init rfl (by decide +kernel) (ox_lv hR e2 (by decide)) dX11_init_29 ?_
  refine s_putr (pc := 32) (j := 2) (q := (RX11, TX11, 13)) C rfl (by decide) rfl (Or.inr ⟨rfl, hnm, rfl⟩) wF_X11_25 dX11_init_32 ?_
  refine s_aload_n (pc := 35) C dX11_init_35 rfl ?_
  refine s_iconst (pc := 36) C dX11_init_36 (by decide) ?_
  refine s_newr (pc := 37) (q := (RX9, TX9, 5)) 7 C rfl rfl wX_X11_29 (by decide +kernel) dX11_init_37 ?_
  refine s_putr (pc := 40) (j := 3) (q := (RX11, TX11, 13)) C rfl (by decide) rfl (Or.inr ⟨rfl, hnm, rfl⟩) wF_X11_31 dX11_init_40 ?_
  refine s_aload_n (pc := 43) C dX11_init_43 rfl ?_
  refine s_bipush (pc := 44) C dX11_init_44 (by decide) ?_
  refine s_newa (pc := 46) (ty := .int) C rfl (Or.inl ⟨rfl, rfl⟩) wA_int dX11_init_46 ?_
  refine s_putr (pc := 48) (j := 4) (q := (RX11, TX11, 13)) C rfl (by decide) rfl (Or.inr ⟨rfl, hnm, rfl⟩) wF_X11_35 dX11_init_48 ?_
  refine s_aload_n (pc := 51) C dX11_init_51 rfl ?_
  refine s_new (pc := 52) (q := (RX2, TX2, 6)) C rfl ox_nt2 wX_X11_39 wY_X2 wN_X2 dX11_init_52 ?_
  refine s_dup (pc := 55) C dX11_init_55 ?_
  refine s_cn (pc := 56) C h3 wM_X11_41 wI_X2_init wN_X2 wC_X2_init rfl (by decide +kernel) (ox_lv hR e3 (by decide)) dX11_init_56 ?_
  refine s_putr (pc := 59) (j := 5) (q := (RX11, TX11, 13)) C rfl (by decide) rfl (Or.inr ⟨rfl, hnm, rfl⟩) wF_X11_42 dX11_init_59 ?_
  refine s_aload_n (pc := 62) C dX11_init_62 rfl ?_
  refine s_new (pc := 63) (q := (RX1, TX1, 7)) C rfl ox_nt1 wX_X11_46 wY_X1 wN_X1 dX11_init_63 ?_
  refine s_dup (pc := 66) C dX11_init_66 ?_
  refine s_cn (pc := 67) C h4 wM_X11_48 wI_X1_init wN_X1 wC_X1_init rfl (by decide +kernel) (ox_lv hR e4 (by decide)) dX11_init_67 ?_
  refine s_putr (pc := 70) (j := 6) (q := (RX11, TX11, 13)) C rfl (by decide) rfl (Or.inr ⟨rfl, hnm, rfl⟩) wF_X11_49 dX11_init_70 ?_
  refine s_aload_n (pc := 73) C dX11_init_73 rfl ?_
  refine s_new (pc := 74) (q := (RX7, TX7, 7)) C rfl ox_nt7 wX_X11_53 wY_X7 wN_X7 dX11_init_74 ?_
  refine s_dup (pc := 77) C dX11_init_77 ?_
  refine s_cnN (pc := 78) C h5 (by decide +kernel) wI_X7_init wN_X7 wC_X7_init rfl (by decide +kernel) (ox_lv hR e5 (by decide)) dX11_init_78 ?_
  refine s_putr (pc := 81) (j := 7) (q := (RX11, TX11, 13)) C rfl (by decide) rfl (Or.inr ⟨rfl, hnm, rfl⟩) wF_X11_56 dX11_init_81 ?_
  refine s_aload_n (pc := 84) C dX11_init_84 rfl ?_
  refine s_bipush (pc := 85) C dX11_init_85 (by decide) ?_
  refine s_newa (pc := 87) (ty := .int) C rfl (Or.inl ⟨rfl, rfl⟩) wA_int dX11_init_87 ?_
  refine s_putr (pc := 89) (j := 8) (q := (RX11, TX11, 13)) C rfl (by decide) rfl (Or.inr ⟨rfl, hnm, rfl⟩) wF_X11_60 dX11_init_89 ?_
  refine s_iconst (pc := 92) C dX11_init_92 (by decide) ?_
  refine s_istore_n (pc := 93) C dX11_init_93 rfl (by decide) ?_
  exact hrc 94
set_option maxRecDepth 100000 in
theorem kX11_init_94 (C : ox_C p s m args c g 2 cX11_init RX11) (hr : meth.sig.returnType = none) (hlk : meth.locks = false) (hnm : meth.name = "<init>") (hR : R.frames = dp ∧ R.locals = 60 * dp) (e0 : 1 ≤ dp) (h1 : ox_Sem yX3_init cX3_init 2 none d1 f1) (e1 : d1 + 1 ≤ dp) (h2 : ox_Sem yX4_init cX4_init 1 none d2 f2) (e2 : d2 + 1 ≤ dp) (h3 : ox_Sem yX2_init cX2_init 2 none d3 f3) (e3 : d3 + 1 ≤ dp) (h4 : ox_Sem yX1_init cX1_init 2 none d4 f4) (e4 : d4 + 1 ≤ dp) (h5 : ox_Sem yX7_init cX7_init 1 none d5 f5) (e5 : d5 + 1 ≤ dp) (h6 : ox_Sem yX8_init cX8_init 1 none d6 f6) (e6 : d6 + 1 ≤ dp) (h7 : ox_Sem yX9_init cX9_init 1 none d7 f7) (e7 : d7 + 1 ≤ dp) (hrc : ∀ b, ox_S p l e R s m args below meth c g 2 c0 t0 (ox_QM g below args s c0 t0) b (rc b)) : ox_S p l e R s m args below meth c g 2 c0 t0 (ox_QM g below args s c0 t0) 94 (bX11_init_94 f1 f2 f3 f4 f5 f6 f7 rc) := by
  refine s_keep ?_
  refine s_iload_n (pc := 94) C dX11_init_94 rfl ?_
  refine s_bipush (pc := 95) C dX11_init_95 (by decide) ?_
  refine s_icmpge (pc := 97) 119 C dX11_init_97 (by decide) (hrc 119) ?_
  refine s_aload_n (pc := 100) C dX11_init_100 rfl ?_
  refine s_getr (pc := 101) (j := 0) (q := (RX11, TX11, 13)) C rfl (by decide) rfl wF_X11_11 dX11_init_101 ?_
  refine s_iload_n (pc := 104) C dX11_init_104 rfl ?_
  refine s_new (pc := 105) (q := (RX8, TX8, 4)) C rfl ox_nt8 wX_X11_9 wY_X8 wN_X8 dX11_init_105 ?_
  refine s_dup (pc := 108) C dX11_init_108 ?_
  refine s_cnN (pc := 109) C h6 (by decide +kernel) wI_X8_init wN_X8 wC_X8_init rfl (by decide +kernel) (ox_lv hR e6 (by decide)) dX11_init_109 ?_
  refine s_aast (pc := 112) (q := (RX8, TX8, 4)) 6 rfl C rfl dX11_init_112 ?_
  refine s_iinc (pc := 113) C dX11_init_113 (by decide) (by decide) ?_
  exact s_goto (pc := 116) 94 C dX11_init_116 (by decide) (hrc 94)
set_option maxRecDepth 100000 in
theorem kX11_init_119 (C : ox_C p s m args c g 2 cX11_init RX11) (hr : meth.sig.returnType = none) (hlk : meth.locks = false) (hnm : meth.name = "<init>") (hR : R.frames = dp ∧ R.locals = 60 * dp) (e0 : 1 ≤ dp) (h1 : ox_Sem yX3_init cX3_init 2 none d1 f1) (e1 : d1 + 1 ≤ dp) (h2 : ox_Sem yX4_init cX4_init 1 none d2 f2) (e2 : d2 + 1 ≤ dp) (h3 : ox_Sem yX2_init cX2_init 2 none d3 f3) (e3 : d3 + 1 ≤ dp) (h4 : ox_Sem yX1_init cX1_init 2 none d4 f4) (e4 : d4 + 1 ≤ dp) (h5 : ox_Sem yX7_init cX7_init 1 none d5 f5) (e5 : d5 + 1 ≤ dp) (h6 : ox_Sem yX8_init cX8_init 1 none d6 f6) (e6 : d6 + 1 ≤ dp) (h7 : ox_Sem yX9_init cX9_init 1 none d7 f7) (e7 : d7 + 1 ≤ dp) (hrc : ∀ b, ox_S p l e R s m args below meth c g 2 c0 t0 (ox_QM g below args s c0 t0) b (rc b)) : ox_S p l e R s m args below meth c g 2 c0 t0 (ox_QM g below args s c0 t0) 119 (bX11_init_119 f1 f2 f3 f4 f5 f6 f7 rc) := by
  refine s_iconst (pc := 119) C dX11_init_119 (by decide) ?_
  refine s_istore_n (pc := 120) C dX11_init_120 rfl (by decide) ?_
  exact hrc 121
set_option maxRecDepth 100000 in
theorem kX11_init_121 (C : ox_C p s m args c g 2 cX11_init RX11) (hr : meth.sig.returnType = none) (hlk : meth.locks = false) (hnm : meth.name = "<init>") (hR : R.frames = dp ∧ R.locals = 60 * dp) (e0 : 1 ≤ dp) (h1 : ox_Sem yX3_init cX3_init 2 none d1 f1) (e1 : d1 + 1 ≤ dp) (h2 : ox_Sem yX4_init cX4_init 1 none d2 f2) (e2 : d2 + 1 ≤ dp) (h3 : ox_Sem yX2_init cX2_init 2 none d3 f3) (e3 : d3 + 1 ≤ dp) (h4 : ox_Sem yX1_init cX1_init 2 none d4 f4) (e4 : d4 + 1 ≤ dp) (h5 : ox_Sem yX7_init cX7_init 1 none d5 f5) (e5 : d5 + 1 ≤ dp) (h6 : ox_Sem yX8_init cX8_init 1 none d6 f6) (e6 : d6 + 1 ≤ dp) (h7 : ox_Sem yX9_init cX9_init 1 none d7 f7) (e7 : d7 + 1 ≤ dp) (hrc : ∀ b, ox_S p l e R s m args below meth c g 2 c0 t0 (ox_QM g below args s c0 t0) b (rc b)) : ox_S p l e R s m args below meth c g 2 c0 t0 (ox_QM g below args s c0 t0) 121 (bX11_init_121 f1 f2 f3 f4 f5 f6 f7 rc) := by
  refine s_keep ?_
  refine s_iload_n (pc := 121) C dX11_init_121 rfl ?_
  refine s_iconst (pc := 122) C dX11_init_122 (by decide) ?_
  refine s_icmpge (pc := 123) 145 C dX11_init_123 (by decide) (hrc 145) ?_
  refine s_aload_n (pc := 126) C dX11_init_126 rfl ?_
  refine s_getr (pc := 127) (j := 3) (q := (RX11, TX11, 13)) C rfl (by decide) rfl wF_X11_31 dX11_init_127 ?_
  refine s_iload_n (pc := 130) C dX11_init_130 rfl ?_
  refine s_new (pc := 131) (q := (RX9, TX9, 5)) C rfl ox_nt9 wX_X11_29 wY_X9 wN_X9 dX11_init_131 ?_
  refine s_dup (pc := 134) C dX11_init_134 ?_
  refine s_cnN (pc := 135) C h7 (by decide +kernel) wI_X9_init wN_X9 wC_X9_init rfl (by decide +kernel) (ox_lv hR e7 (by decide)) dX11_init_135 ?_
  refine s_aast (pc := 138) (q := (RX9, TX9, 5)) 7 rfl C rfl dX11_init_138 ?_
  refine s_iinc (pc := 139) C dX11_init_139 (by decide) (by decide) ?_
  exact s_goto (pc := 142) 121 C dX11_init_142 (by decide) (hrc 121)
set_option maxRecDepth 100000 in
theorem kX11_init_145 (C : ox_C p s m args c g 2 cX11_init RX11) (hr : meth.sig.returnType = none) (hlk : meth.locks = false) (hnm : meth.name = "<init>") (hR : R.frames = dp ∧ R.locals = 60 * dp) (e0 : 1 ≤ dp) (h1 : ox_Sem yX3_init cX3_init 2 none d1 f1) (e1 : d1 + 1 ≤ dp) (h2 : ox_Sem yX4_init cX4_init 1 none d2 f2) (e2 : d2 + 1 ≤ dp) (h3 : ox_Sem yX2_init cX2_init 2 none d3 f3) (e3 : d3 + 1 ≤ dp) (h4 : ox_Sem yX1_init cX1_init 2 none d4 f4) (e4 : d4 + 1 ≤ dp) (h5 : ox_Sem yX7_init cX7_init 1 none d5 f5) (e5 : d5 + 1 ≤ dp) (h6 : ox_Sem yX8_init cX8_init 1 none d6 f6) (e6 : d6 + 1 ≤ dp) (h7 : ox_Sem yX9_init cX9_init 1 none d7 f7) (e7 : d7 + 1 ≤ dp) (hrc : ∀ b, ox_S p l e R s m args below meth c g 2 c0 t0 (ox_QM g below args s c0 t0) b (rc b)) : ox_S p l e R s m args below meth c g 2 c0 t0 (ox_QM g below args s c0 t0) 145 (bX11_init_145 f1 f2 f3 f4 f5 f6 f7 rc) := by
  exact s_ret (pc := 145) C hr hlk dX11_init_145
end SX11_init
def bsX11_init (f1 f2 f3 f4 f5 f6 f7 : ox_F) (b : Nat) (rc : Nat → ox_K) : ox_K := if b = 0 then bX11_init_0 f1 f2 f3 f4 f5 f6 f7 rc else if b = 94 then bX11_init_94 f1 f2 f3 f4 f5 f6 f7 rc else if b = 119 then bX11_init_119 f1 f2 f3 f4 f5 f6 f7 rc else if b = 121 then bX11_init_121 f1 f2 f3 f4 f5 f6 f7 rc else if b = 145 then bX11_init_145 f1 f2 f3 f4 f5 f6 f7 rc else ox_no
theorem mX11_init {dp d1 d2 d3 d4 d5 d6 d7 : Nat} {f1 f2 f3 f4 f5 f6 f7 f : ox_F} (e0 : 1 ≤ dp) (h1 : ox_Sem yX3_init cX3_init 2 none d1 f1) (e1 : d1 + 1 ≤ dp) (h2 : ox_Sem yX4_init cX4_init 1 none d2 f2) (e2 : d2 + 1 ≤ dp) (h3 : ox_Sem yX2_init cX2_init 2 none d3 f3) (e3 : d3 + 1 ≤ dp) (h4 : ox_Sem yX1_init cX1_init 2 none d4 f4) (e4 : d4 + 1 ≤ dp) (h5 : ox_Sem yX7_init cX7_init 1 none d5 f5) (e5 : d5 + 1 ≤ dp) (h6 : ox_Sem yX8_init cX8_init 1 none d6 f6) (e6 : d6 + 1 ≤ dp) (h7 : ox_Sem yX9_init cX9_init 1 none d7 f7) (e7 : d7 + 1 ≤ dp) (hf : ∀ as h r, f as h = some r → ox_cs as ≤ 2 ∧ ox_le h r.2 ∧ ∃ n, ox_run (bsX11_init f1 f2 f3 f4 f5 f6 f7) n 0 (lv_args 0 as) [] h = some r) : ox_Sem yX11_init cX11_init 2 none dp f := by
  refine ox_meth (bs := bsX11_init f1 f2 f3 f4 f5 f6 f7) (by decide) hf ?_
  intro p l e R s m args below meth c g c0 t0 C hr hlk hnm hR rc hrc b
  unfold bsX11_init
  refine ox_br (kX11_init_0 C hr hlk hnm hR e0 h1 e1 h2 e2 h3 e3 h4 e4 h5 e5 h6 e6 h7 e7 hrc) ?_
  refine ox_br (kX11_init_94 C hr hlk hnm hR e0 h1 e1 h2 e2 h3 e3 h4 e4 h5 e5 h6 e6 h7 e7 hrc) ?_
  refine ox_br (kX11_init_119 C hr hlk hnm hR e0 h1 e1 h2 e2 h3 e3 h4 e4 h5 e5 h6 e6 h7 e7 hrc) ?_
  refine ox_br (kX11_init_121 C hr hlk hnm hR e0 h1 e1 h2 e2 h3 e3 h4 e4 h5 e5 h6 e6 h7 e7 hrc) ?_
  refine ox_br (kX11_init_145 C hr hlk hnm hR e0 h1 e1 h2 e2 h3 e3 h4 e4 h5 e5 h6 e6 h7 e7 hrc) ?_
  exact s_no
theorem dX11_sheet_0 : decode cX11_sheet 0 = .ok (.iload_n 1, 1) := by decide +kernel
theorem dX11_sheet_1 : decode cX11_sheet 1 = .ok (.invokestatic 65, 3) := by decide +kernel
theorem dX11_sheet_4 : decode cX11_sheet 4 = .ok (.ifCond .eq 18, 3) := by decide +kernel
theorem dX11_sheet_7 : decode cX11_sheet 7 = .ok (.iload_n 2, 1) := by decide +kernel
theorem dX11_sheet_8 : decode cX11_sheet 8 = .ok (.iconst 0, 1) := by decide +kernel
theorem dX11_sheet_9 : decode cX11_sheet 9 = .ok (.iconst 2, 1) := by decide +kernel
theorem dX11_sheet_10 : decode cX11_sheet 10 = .ok (.invokestatic 69, 3) := by decide +kernel
theorem dX11_sheet_13 : decode cX11_sheet 13 = .ok (.ifCond .eq 9, 3) := by decide +kernel
theorem dX11_sheet_16 : decode cX11_sheet 16 = .ok (.iload_n 3, 1) := by decide +kernel
theorem dX11_sheet_17 : decode cX11_sheet 17 = .ok (.bipush 60, 2) := by decide +kernel
theorem dX11_sheet_19 : decode cX11_sheet 19 = .ok (.if_icmp .le 6, 3) := by decide +kernel
theorem dX11_sheet_22 : decode cX11_sheet 22 = .ok (.ldc 73, 2) := by decide +kernel
theorem dX11_sheet_24 : decode cX11_sheet 24 = .ok (.ireturn, 1) := by decide +kernel
theorem dX11_sheet_25 : decode cX11_sheet 25 = .ok (.iload_n 3, 1) := by decide +kernel
theorem dX11_sheet_26 : decode cX11_sheet 26 = .ok (.ifCond .ge 9, 3) := by decide +kernel
theorem dX11_sheet_29 : decode cX11_sheet 29 = .ok (.aload_n 0, 1) := by decide +kernel
theorem dX11_sheet_30 : decode cX11_sheet 30 = .ok (.iconst 4, 1) := by decide +kernel
theorem dX11_sheet_31 : decode cX11_sheet 31 = .ok (.invokevirtual 74, 3) := by decide +kernel
theorem dX11_sheet_34 : decode cX11_sheet 34 = .ok (.ireturn, 1) := by decide +kernel
theorem dX11_sheet_35 : decode cX11_sheet 35 = .ok (.aload_n 0, 1) := by decide +kernel
theorem dX11_sheet_36 : decode cX11_sheet 36 = .ok (.getfield 11, 3) := by decide +kernel
theorem dX11_sheet_39 : decode cX11_sheet 39 = .ok (.iload_n 1, 1) := by decide +kernel
theorem dX11_sheet_40 : decode cX11_sheet 40 = .ok (.aaload, 1) := by decide +kernel
theorem dX11_sheet_41 : decode cX11_sheet 41 = .ok (.iload_n 2, 1) := by decide +kernel
theorem dX11_sheet_42 : decode cX11_sheet 42 = .ok (.iload_n 3, 1) := by decide +kernel
theorem dX11_sheet_43 : decode cX11_sheet 43 = .ok (.invokevirtual 78, 3) := by decide +kernel
theorem dX11_sheet_46 : decode cX11_sheet 46 = .ok (.aload_n 0, 1) := by decide +kernel
theorem dX11_sheet_47 : decode cX11_sheet 47 = .ok (.iload_n 3, 1) := by decide +kernel
theorem dX11_sheet_48 : decode cX11_sheet 48 = .ok (.invokevirtual 82, 3) := by decide +kernel
theorem dX11_sheet_51 : decode cX11_sheet 51 = .ok (.ireturn, 1) := by decide +kernel
def bX11_sheet_0 (f1 f2 f3 f4 f5 : ox_F) (rc : Nat → ox_K) : ox_K := o_il 1 (o_ct f1 1 (o_ifeq (rc 22) (o_il 2 (o_ic (0) (o_ic (2) (o_ct f2 3 (o_ifeq (rc 22) (o_il 3 (o_ic (60) (o_icle (rc 25) (rc 22)))))))))))
def bX11_sheet_22 (f1 f2 f3 f4 f5 : ox_F) (rc : Nat → ox_K) : ox_K := o_ic (-1000001) (o_iret)
def bX11_sheet_25 (f1 f2 f3 f4 f5 : ox_F) (rc : Nat → ox_K) : ox_K := o_il 3 (o_ifge (rc 35) (o_al 0 (o_ic (4) (o_cv f3 11 1 (o_iret)))))
def bX11_sheet_35 (f1 f2 f3 f4 f5 : ox_F) (rc : Nat → ox_K) : ox_K := o_al 0 (o_getr 11 0 (o_il 1 (o_aa 8 (o_il 2 (o_il 3 (o_cv f4 8 2 (o_al 0 (o_il 3 (o_cv f5 11 1 (o_iret))))))))))
section SX11_sheet
variable {p : Program} {l : Launch} {e : Env} {R : Room} {s : State} {m : MethodId} {args : Array Value} {below : List Frame} {meth : Method} {c : Code} {g : ox_G} {c0 t0 dp d1 d2 d3 d4 d5 : Nat} {rc : Nat → ox_K} {f1 f2 f3 f4 f5 : ox_F}
set_option maxRecDepth 100000 in
theorem kX11_sheet_0 (C : ox_C p s m args c g 4 cX11_sheet RX11) (hr : meth.sig.returnType = (some .int)) (hlk : meth.locks = false) (hnm : meth.name = "sheet") (hR : R.frames = dp ∧ R.locals = 60 * dp) (h1 : ox_Sem yX11_isSheet cX11_isSheet 1 (some .boolean) d1 f1) (e1 : d1 + 1 ≤ dp) (h2 : ox_Sem yX11_within cX11_within 3 (some .boolean) d2 f2) (e2 : d2 + 1 ≤ dp) (h3 : ox_Sem yX11_found cX11_found 2 (some .int) d3 f3) (e3 : d3 + 1 ≤ dp) (h4 : ox_Sem yX8_begin cX8_begin 4 none d4 f4) (e4 : d4 + 1 ≤ dp) (h5 : ox_Sem yX11_plain cX11_plain 2 (some .int) d5 f5) (e5 : d5 + 1 ≤ dp) (hrc : ∀ b, ox_S p l e R s m args below meth c g 4 c0 t0 (ox_QM g below args s c0 t0) b (rc b)) : ox_S p l e R s m args below meth c g 4 c0 t0 (ox_QM g below args s c0 t0) 0 (bX11_sheet_0 f1 f2 f3 f4 f5 rc) := by
  refine s_iload_n (pc := 0) C dX11_sheet_0 rfl ?_
  refine s_ct (pc := 1) C h1 wM_X11_65 wT_X11_isSheet wN_X11 wC_X11_isSheet (by decide +kernel) (ox_lv hR e1 (by decide)) dX11_sheet_1 ?_
  refine s_ifeq (pc := 4) 22 C dX11_sheet_4 (by decide) (hrc 22) ?_
  refine s_iload_n (pc := 7) C dX11_sheet_7 rfl ?_
  refine s_iconst (pc := 8) C dX11_sheet_8 (by decide) ?_
  refine s_iconst (pc := 9) C dX11_sheet_9 (by decide) ?_
  refine s_ct (pc := 10) C h2 wM_X11_69 wT_X11_within wN_X11 wC_X11_within (by decide +kernel) (ox_lv hR e2 (by decide)) dX11_sheet_10 ?_
  refine s_ifeq (pc := 13) 22 C dX11_sheet_13 (by decide) (hrc 22) ?_
  refine s_iload_n (pc := 16) C dX11_sheet_16 rfl ?_
  refine s_bipush (pc := 17) C dX11_sheet_17 (by decide) ?_
  refine s_icmple (pc := 19) 25 C dX11_sheet_19 (by decide) (hrc 25) ?_
  exact hrc 22
set_option maxRecDepth 100000 in
theorem kX11_sheet_22 (C : ox_C p s m args c g 4 cX11_sheet RX11) (hr : meth.sig.returnType = (some .int)) (hlk : meth.locks = false) (hnm : meth.name = "sheet") (hR : R.frames = dp ∧ R.locals = 60 * dp) (h1 : ox_Sem yX11_isSheet cX11_isSheet 1 (some .boolean) d1 f1) (e1 : d1 + 1 ≤ dp) (h2 : ox_Sem yX11_within cX11_within 3 (some .boolean) d2 f2) (e2 : d2 + 1 ≤ dp) (h3 : ox_Sem yX11_found cX11_found 2 (some .int) d3 f3) (e3 : d3 + 1 ≤ dp) (h4 : ox_Sem yX8_begin cX8_begin 4 none d4 f4) (e4 : d4 + 1 ≤ dp) (h5 : ox_Sem yX11_plain cX11_plain 2 (some .int) d5 f5) (e5 : d5 + 1 ≤ dp) (hrc : ∀ b, ox_S p l e R s m args below meth c g 4 c0 t0 (ox_QM g below args s c0 t0) b (rc b)) : ox_S p l e R s m args below meth c g 4 c0 t0 (ox_QM g below args s c0 t0) 22 (bX11_sheet_22 f1 f2 f3 f4 f5 rc) := by
  refine s_ldc (pc := 22) C wK_X11_73 dX11_sheet_22 ?_
  exact s_iret (pc := 24) C hr hlk dX11_sheet_24
set_option maxRecDepth 100000 in
theorem kX11_sheet_25 (C : ox_C p s m args c g 4 cX11_sheet RX11) (hr : meth.sig.returnType = (some .int)) (hlk : meth.locks = false) (hnm : meth.name = "sheet") (hR : R.frames = dp ∧ R.locals = 60 * dp) (h1 : ox_Sem yX11_isSheet cX11_isSheet 1 (some .boolean) d1 f1) (e1 : d1 + 1 ≤ dp) (h2 : ox_Sem yX11_within cX11_within 3 (some .boolean) d2 f2) (e2 : d2 + 1 ≤ dp) (h3 : ox_Sem yX11_found cX11_found 2 (some .int) d3 f3) (e3 : d3 + 1 ≤ dp) (h4 : ox_Sem yX8_begin cX8_begin 4 none d4 f4) (e4 : d4 + 1 ≤ dp) (h5 : ox_Sem yX11_plain cX11_plain 2 (some .int) d5 f5) (e5 : d5 + 1 ≤ dp) (hrc : ∀ b, ox_S p l e R s m args below meth c g 4 c0 t0 (ox_QM g below args s c0 t0) b (rc b)) : ox_S p l e R s m args below meth c g 4 c0 t0 (ox_QM g below args s c0 t0) 25 (bX11_sheet_25 f1 f2 f3 f4 f5 rc) := by
  refine s_iload_n (pc := 25) C dX11_sheet_25 rfl ?_
  refine s_ifge (pc := 26) 35 C dX11_sheet_26 (by decide) (hrc 35) ?_
  refine s_aload_n (pc := 29) C dX11_sheet_29 rfl ?_
  refine s_iconst (pc := 30) C dX11_sheet_30 (by decide) ?_
  refine s_cv (pc := 31) (q := (RX11, TX11, 13)) C h3 rfl wM_X11_74 wI_X11_found wS_X11_found wN_X11 wC_X11_found (by decide +kernel) (ox_lv hR e3 (by decide)) dX11_sheet_31 ?_
  exact s_iret (pc := 34) C hr hlk dX11_sheet_34
set_option maxRecDepth 100000 in
theorem kX11_sheet_35 (C : ox_C p s m args c g 4 cX11_sheet RX11) (hr : meth.sig.returnType = (some .int)) (hlk : meth.locks = false) (hnm : meth.name = "sheet") (hR : R.frames = dp ∧ R.locals = 60 * dp) (h1 : ox_Sem yX11_isSheet cX11_isSheet 1 (some .boolean) d1 f1) (e1 : d1 + 1 ≤ dp) (h2 : ox_Sem yX11_within cX11_within 3 (some .boolean) d2 f2) (e2 : d2 + 1 ≤ dp) (h3 : ox_Sem yX11_found cX11_found 2 (some .int) d3 f3) (e3 : d3 + 1 ≤ dp) (h4 : ox_Sem yX8_begin cX8_begin 4 none d4 f4) (e4 : d4 + 1 ≤ dp) (h5 : ox_Sem yX11_plain cX11_plain 2 (some .int) d5 f5) (e5 : d5 + 1 ≤ dp) (hrc : ∀ b, ox_S p l e R s m args below meth c g 4 c0 t0 (ox_QM g below args s c0 t0) b (rc b)) : ox_S p l e R s m args below meth c g 4 c0 t0 (ox_QM g below args s c0 t0) 35 (bX11_sheet_35 f1 f2 f3 f4 f5 rc) := by
  refine s_aload_n (pc := 35) C dX11_sheet_35 rfl ?_
  refine s_getr (pc := 36) (j := 0) (q := (RX11, TX11, 13)) C rfl (by decide) rfl wF_X11_11 dX11_sheet_36 ?_
  refine s_iload_n (pc := 39) C dX11_sheet_39 rfl ?_
  refine s_aa (pc := 40) (q := (RX8, TX8, 4)) 6 C rfl dX11_sheet_40 ?_
  refine s_iload_n (pc := 41) C dX11_sheet_41 rfl ?_
  refine s_iload_n (pc := 42) C dX11_sheet_42 rfl ?_
  refine s_cv (pc := 43) (q := (RX8, TX8, 4)) C h4 rfl wM_X11_78 wI_X8_begin wS_X8_begin wN_X8 wC_X8_begin (by decide +kernel) (ox_lv hR e4 (by decide)) dX11_sheet_43 ?_
  refine s_aload_n (pc := 46) C dX11_sheet_46 rfl ?_
  refine s_iload_n (pc := 47) C dX11_sheet_47 rfl ?_
  refine s_cv (pc := 48) (q := (RX11, TX11, 13)) C h5 rfl wM_X11_82 wI_X11_plain wS_X11_plain wN_X11 wC_X11_plain (by decide +kernel) (ox_lv hR e5 (by decide)) dX11_sheet_48 ?_
  exact s_iret (pc := 51) C hr hlk dX11_sheet_51
end SX11_sheet
def bsX11_sheet (f1 f2 f3 f4 f5 : ox_F) (b : Nat) (rc : Nat → ox_K) : ox_K := if b = 0 then bX11_sheet_0 f1 f2 f3 f4 f5 rc else if b = 22 then bX11_sheet_22 f1 f2 f3 f4 f5 rc else if b = 25 then bX11_sheet_25 f1 f2 f3 f4 f5 rc else if b = 35 then bX11_sheet_35 f1 f2 f3 f4 f5 rc else ox_no
theorem mX11_sheet {dp d1 d2 d3 d4 d5 : Nat} {f1 f2 f3 f4 f5 f : ox_F} (h1 : ox_Sem yX11_isSheet cX11_isSheet 1 (some .boolean) d1 f1) (e1 : d1 + 1 ≤ dp) (h2 : ox_Sem yX11_within cX11_within 3 (some .boolean) d2 f2) (e2 : d2 + 1 ≤ dp) (h3 : ox_Sem yX11_found cX11_found 2 (some .int) d3 f3) (e3 : d3 + 1 ≤ dp) (h4 : ox_Sem yX8_begin cX8_begin 4 none d4 f4) (e4 : d4 + 1 ≤ dp) (h5 : ox_Sem yX11_plain cX11_plain 2 (some .int) d5 f5) (e5 : d5 + 1 ≤ dp) (hf : ∀ as h r, f as h = some r → ox_cs as ≤ 4 ∧ ox_le h r.2 ∧ ∃ n, ox_run (bsX11_sheet f1 f2 f3 f4 f5) n 0 (lv_args 0 as) [] h = some r) : ox_Sem yX11_sheet cX11_sheet 4 (some .int) dp f := by
  refine ox_meth (bs := bsX11_sheet f1 f2 f3 f4 f5) (by decide) hf ?_
  intro p l e R s m args below meth c g c0 t0 C hr hlk hnm hR rc hrc b
  unfold bsX11_sheet
  refine ox_br (kX11_sheet_0 C hr hlk hnm hR h1 e1 h2 e2 h3 e3 h4 e4 h5 e5 hrc) ?_
  refine ox_br (kX11_sheet_22 C hr hlk hnm hR h1 e1 h2 e2 h3 e3 h4 e4 h5 e5 hrc) ?_
  refine ox_br (kX11_sheet_25 C hr hlk hnm hR h1 e1 h2 e2 h3 e3 h4 e4 h5 e5 hrc) ?_
  refine ox_br (kX11_sheet_35 C hr hlk hnm hR h1 e1 h2 e2 h3 e3 h4 e4 h5 e5 hrc) ?_
  exact s_no
theorem dX11_set_0 : decode cX11_set 0 = .ok (.iload_n 1, 1) := by decide +kernel
theorem dX11_set_1 : decode cX11_set 1 = .ok (.invokestatic 65, 3) := by decide +kernel
theorem dX11_set_4 : decode cX11_set 4 = .ok (.ifCond .ne 6, 3) := by decide +kernel
theorem dX11_set_7 : decode cX11_set 7 = .ok (.ldc 73, 2) := by decide +kernel
theorem dX11_set_9 : decode cX11_set 9 = .ok (.ireturn, 1) := by decide +kernel
theorem dX11_set_10 : decode cX11_set 10 = .ok (.aload_n 0, 1) := by decide +kernel
theorem dX11_set_11 : decode cX11_set 11 = .ok (.getfield 11, 3) := by decide +kernel
theorem dX11_set_14 : decode cX11_set 14 = .ok (.iload_n 1, 1) := by decide +kernel
theorem dX11_set_15 : decode cX11_set 15 = .ok (.aaload, 1) := by decide +kernel
theorem dX11_set_16 : decode cX11_set 16 = .ok (.astore 4, 2) := by decide +kernel
theorem dX11_set_18 : decode cX11_set 18 = .ok (.aload 4, 2) := by decide +kernel
theorem dX11_set_20 : decode cX11_set 20 = .ok (.iload_n 2, 1) := by decide +kernel
theorem dX11_set_21 : decode cX11_set 21 = .ok (.iconst 1, 1) := by decide +kernel
theorem dX11_set_22 : decode cX11_set 22 = .ok (.invokestatic 85, 3) := by decide +kernel
theorem dX11_set_25 : decode cX11_set 25 = .ok (.istore 5, 2) := by decide +kernel
theorem dX11_set_27 : decode cX11_set 27 = .ok (.iload 5, 2) := by decide +kernel
theorem dX11_set_29 : decode cX11_set 29 = .ok (.ifCond .eq 10, 3) := by decide +kernel
theorem dX11_set_32 : decode cX11_set 32 = .ok (.aload_n 0, 1) := by decide +kernel
theorem dX11_set_33 : decode cX11_set 33 = .ok (.iload 5, 2) := by decide +kernel
theorem dX11_set_35 : decode cX11_set 35 = .ok (.invokevirtual 74, 3) := by decide +kernel
theorem dX11_set_38 : decode cX11_set 38 = .ok (.ireturn, 1) := by decide +kernel
theorem dX11_set_39 : decode cX11_set 39 = .ok (.aload 4, 2) := by decide +kernel
theorem dX11_set_41 : decode cX11_set 41 = .ok (.getfield 89, 3) := by decide +kernel
theorem dX11_set_44 : decode cX11_set 44 = .ok (.iload_n 2, 1) := by decide +kernel
theorem dX11_set_45 : decode cX11_set 45 = .ok (.aload 4, 2) := by decide +kernel
theorem dX11_set_47 : decode cX11_set 47 = .ok (.iload_n 3, 1) := by decide +kernel
theorem dX11_set_48 : decode cX11_set 48 = .ok (.invokevirtual 92, 3) := by decide +kernel
theorem dX11_set_51 : decode cX11_set 51 = .ok (.iastore, 1) := by decide +kernel
theorem dX11_set_52 : decode cX11_set 52 = .ok (.aload_n 0, 1) := by decide +kernel
theorem dX11_set_53 : decode cX11_set 53 = .ok (.aload 4, 2) := by decide +kernel
theorem dX11_set_55 : decode cX11_set 55 = .ok (.getfield 89, 3) := by decide +kernel
theorem dX11_set_58 : decode cX11_set 58 = .ok (.iload_n 2, 1) := by decide +kernel
theorem dX11_set_59 : decode cX11_set 59 = .ok (.iaload, 1) := by decide +kernel
theorem dX11_set_60 : decode cX11_set 60 = .ok (.invokevirtual 82, 3) := by decide +kernel
theorem dX11_set_63 : decode cX11_set 63 = .ok (.ireturn, 1) := by decide +kernel
def bX11_set_0 (f1 f2 f3 f4 f5 : ox_F) (rc : Nat → ox_K) : ox_K := o_il 1 (o_ct f1 1 (o_ifne (rc 10) (o_ic (-1000001) (o_iret))))
def bX11_set_10 (f1 f2 f3 f4 f5 : ox_F) (rc : Nat → ox_K) : ox_K := o_al 0 (o_getr 11 0 (o_il 1 (o_aa 8 (o_as 4 (o_al 4 (o_il 2 (o_ic (1) (o_ct f2 3 (o_is 5 (o_il 5 (o_ifeq (rc 39) (o_al 0 (o_il 5 (o_cv f3 11 1 (o_iret)))))))))))))))
def bX11_set_39 (f1 f2 f3 f4 f5 : ox_F) (rc : Nat → ox_K) : ox_K := o_al 4 (o_getr 8 0 (o_il 2 (o_al 4 (o_il 3 (o_cv f4 8 1 (o_iast (o_al 0 (o_al 4 (o_getr 8 0 (o_il 2 (o_ia (o_cv f5 11 1 (o_iret)))))))))))))
section SX11_set
variable {p : Program} {l : Launch} {e : Env} {R : Room} {s : State} {m : MethodId} {args : Array Value} {below : List Frame} {meth : Method} {c : Code} {g : ox_G} {c0 t0 dp d1 d2 d3 d4 d5 : Nat} {rc : Nat → ox_K} {f1 f2 f3 f4 f5 : ox_F}
set_option maxRecDepth 100000 in
theorem kX11_set_0 (C : ox_C p s m args c g 6 cX11_set RX11) (hr : meth.sig.returnType = (some .int)) (hlk : meth.locks = false) (hnm : meth.name = "set") (hR : R.frames = dp ∧ R.locals = 60 * dp) (h1 : ox_Sem yX11_isSheet cX11_isSheet 1 (some .boolean) d1 f1) (e1 : d1 + 1 ≤ dp) (h2 : ox_Sem yX11_amissIn cX11_amissIn 3 (some .int) d2 f2) (e2 : d2 + 1 ≤ dp) (h3 : ox_Sem yX11_found cX11_found 2 (some .int) d3 f3) (e3 : d3 + 1 ≤ dp) (h4 : ox_Sem yX8_narrowed cX8_narrowed 2 (some .int) d4 f4) (e4 : d4 + 1 ≤ dp) (h5 : ox_Sem yX11_plain cX11_plain 2 (some .int) d5 f5) (e5 : d5 + 1 ≤ dp) (hrc : ∀ b, ox_S p l e R s m args below meth c g 6 c0 t0 (ox_QM g below args s c0 t0) b (rc b)) : ox_S p l e R s m args below meth c g 6 c0 t0 (ox_QM g below args s c0 t0) 0 (bX11_set_0 f1 f2 f3 f4 f5 rc) := by
  refine s_iload_n (pc := 0) C dX11_set_0 rfl ?_
  refine s_ct (pc := 1) C h1 wM_X11_65 wT_X11_isSheet wN_X11 wC_X11_isSheet (by decide +kernel) (ox_lv hR e1 (by decide)) dX11_set_1 ?_
  refine s_ifne (pc := 4) 10 C dX11_set_4 (by decide) (hrc 10) ?_
  refine s_ldc (pc := 7) C wK_X11_73 dX11_set_7 ?_
  exact s_iret (pc := 9) C hr hlk dX11_set_9
set_option maxRecDepth 100000 in
theorem kX11_set_10 (C : ox_C p s m args c g 6 cX11_set RX11) (hr : meth.sig.returnType = (some .int)) (hlk : meth.locks = false) (hnm : meth.name = "set") (hR : R.frames = dp ∧ R.locals = 60 * dp) (h1 : ox_Sem yX11_isSheet cX11_isSheet 1 (some .boolean) d1 f1) (e1 : d1 + 1 ≤ dp) (h2 : ox_Sem yX11_amissIn cX11_amissIn 3 (some .int) d2 f2) (e2 : d2 + 1 ≤ dp) (h3 : ox_Sem yX11_found cX11_found 2 (some .int) d3 f3) (e3 : d3 + 1 ≤ dp) (h4 : ox_Sem yX8_narrowed cX8_narrowed 2 (some .int) d4 f4) (e4 : d4 + 1 ≤ dp) (h5 : ox_Sem yX11_plain cX11_plain 2 (some .int) d5 f5) (e5 : d5 + 1 ≤ dp) (hrc : ∀ b, ox_S p l e R s m args below meth c g 6 c0 t0 (ox_QM g below args s c0 t0) b (rc b)) : ox_S p l e R s m args below meth c g 6 c0 t0 (ox_QM g below args s c0 t0) 10 (bX11_set_10 f1 f2 f3 f4 f5 rc) := by
  refine s_aload_n (pc := 10) C dX11_set_10 rfl ?_
  refine s_getr (pc := 11) (j := 0) (q := (RX11, TX11, 13)) C rfl (by decide) rfl wF_X11_11 dX11_set_11 ?_
  refine s_iload_n (pc := 14) C dX11_set_14 rfl ?_
  refine s_aa (pc := 15) (q := (RX8, TX8, 4)) 6 C rfl dX11_set_15 ?_
  refine s_astore (pc := 16) C dX11_set_16 (by decide) ?_
  refine s_aload (pc := 18) C dX11_set_18 ?_
  refine s_iload_n (pc := 20) C dX11_set_20 rfl ?_
  refine s_iconst (pc := 21) C dX11_set_21 (by decide) ?_
  refine s_ct (pc := 22) C h2 wM_X11_85 wT_X11_amissIn wN_X11 wC_X11_amissIn (by decide +kernel) (ox_lv hR e2 (by decide)) dX11_set_22 ?_
  refine s_istore (pc := 25) C dX11_set_25 (by decide) ?_
  refine s_iload (pc := 27) C dX11_set_27 ?_
  refine s_ifeq (pc := 29) 39 C dX11_set_29 (by decide) (hrc 39) ?_
  refine s_aload_n (pc := 32) C dX11_set_32 rfl ?_
  refine s_iload (pc := 33) C dX11_set_33 ?_
  refine s_cv (pc := 35) (q := (RX11, TX11, 13)) C h3 rfl wM_X11_74 wI_X11_found wS_X11_found wN_X11 wC_X11_found (by decide +kernel) (ox_lv hR e3 (by decide)) dX11_set_35 ?_
  exact s_iret (pc := 38) C hr hlk dX11_set_38
set_option maxRecDepth 100000 in
theorem kX11_set_39 (C : ox_C p s m args c g 6 cX11_set RX11) (hr : meth.sig.returnType = (some .int)) (hlk : meth.locks = false) (hnm : meth.name = "set") (hR : R.frames = dp ∧ R.locals = 60 * dp) (h1 : ox_Sem yX11_isSheet cX11_isSheet 1 (some .boolean) d1 f1) (e1 : d1 + 1 ≤ dp) (h2 : ox_Sem yX11_amissIn cX11_amissIn 3 (some .int) d2 f2) (e2 : d2 + 1 ≤ dp) (h3 : ox_Sem yX11_found cX11_found 2 (some .int) d3 f3) (e3 : d3 + 1 ≤ dp) (h4 : ox_Sem yX8_narrowed cX8_narrowed 2 (some .int) d4 f4) (e4 : d4 + 1 ≤ dp) (h5 : ox_Sem yX11_plain cX11_plain 2 (some .int) d5 f5) (e5 : d5 + 1 ≤ dp) (hrc : ∀ b, ox_S p l e R s m args below meth c g 6 c0 t0 (ox_QM g below args s c0 t0) b (rc b)) : ox_S p l e R s m args below meth c g 6 c0 t0 (ox_QM g below args s c0 t0) 39 (bX11_set_39 f1 f2 f3 f4 f5 rc) := by
  refine s_aload (pc := 39) C dX11_set_39 ?_
  refine s_getr (pc := 41) (j := 0) (q := (RX8, TX8, 4)) C rfl (by decide) rfl wF_X11_89 dX11_set_41 ?_
  refine s_iload_n (pc := 44) C dX11_set_44 rfl ?_
  refine s_aload (pc := 45) C dX11_set_45 ?_
  refine s_iload_n (pc := 47) C dX11_set_47 rfl ?_
  refine s_cv (pc := 48) (q := (RX8, TX8, 4)) C h4 rfl wM_X11_92 wI_X8_narrowed wS_X8_narrowed wN_X8 wC_X8_narrowed (by decide +kernel) (ox_lv hR e4 (by decide)) dX11_set_48 ?_
  refine s_iast (pc := 51) C dX11_set_51 ?_
  refine s_aload_n (pc := 52) C dX11_set_52 rfl ?_
  refine s_aload (pc := 53) C dX11_set_53 ?_
  refine s_getr (pc := 55) (j := 0) (q := (RX8, TX8, 4)) C rfl (by decide) rfl wF_X11_89 dX11_set_55 ?_
  refine s_iload_n (pc := 58) C dX11_set_58 rfl ?_
  refine s_ia (pc := 59) C dX11_set_59 ?_
  refine s_cv (pc := 60) (q := (RX11, TX11, 13)) C h5 rfl wM_X11_82 wI_X11_plain wS_X11_plain wN_X11 wC_X11_plain (by decide +kernel) (ox_lv hR e5 (by decide)) dX11_set_60 ?_
  exact s_iret (pc := 63) C hr hlk dX11_set_63
end SX11_set
def bsX11_set (f1 f2 f3 f4 f5 : ox_F) (b : Nat) (rc : Nat → ox_K) : ox_K := if b = 0 then bX11_set_0 f1 f2 f3 f4 f5 rc else if b = 10 then bX11_set_10 f1 f2 f3 f4 f5 rc else if b = 39 then bX11_set_39 f1 f2 f3 f4 f5 rc else ox_no
theorem mX11_set {dp d1 d2 d3 d4 d5 : Nat} {f1 f2 f3 f4 f5 f : ox_F} (h1 : ox_Sem yX11_isSheet cX11_isSheet 1 (some .boolean) d1 f1) (e1 : d1 + 1 ≤ dp) (h2 : ox_Sem yX11_amissIn cX11_amissIn 3 (some .int) d2 f2) (e2 : d2 + 1 ≤ dp) (h3 : ox_Sem yX11_found cX11_found 2 (some .int) d3 f3) (e3 : d3 + 1 ≤ dp) (h4 : ox_Sem yX8_narrowed cX8_narrowed 2 (some .int) d4 f4) (e4 : d4 + 1 ≤ dp) (h5 : ox_Sem yX11_plain cX11_plain 2 (some .int) d5 f5) (e5 : d5 + 1 ≤ dp) (hf : ∀ as h r, f as h = some r → ox_cs as ≤ 6 ∧ ox_le h r.2 ∧ ∃ n, ox_run (bsX11_set f1 f2 f3 f4 f5) n 0 (lv_args 0 as) [] h = some r) : ox_Sem yX11_set cX11_set 6 (some .int) dp f := by
  refine ox_meth (bs := bsX11_set f1 f2 f3 f4 f5) (by decide) hf ?_
  intro p l e R s m args below meth c g c0 t0 C hr hlk hnm hR rc hrc b
  unfold bsX11_set
  refine ox_br (kX11_set_0 C hr hlk hnm hR h1 e1 h2 e2 h3 e3 h4 e4 h5 e5 hrc) ?_
  refine ox_br (kX11_set_10 C hr hlk hnm hR h1 e1 h2 e2 h3 e3 h4 e4 h5 e5 hrc) ?_
  refine ox_br (kX11_set_39 C hr hlk hnm hR h1 e1 h2 e2 h3 e3 h4 e4 h5 e5 hrc) ?_
  exact s_no
theorem dX11_copy_0 : decode cX11_copy 0 = .ok (.iload_n 1, 1) := by decide +kernel
theorem dX11_copy_1 : decode cX11_copy 1 = .ok (.invokestatic 65, 3) := by decide +kernel
theorem dX11_copy_4 : decode cX11_copy 4 = .ok (.ifCond .eq 10, 3) := by decide +kernel
theorem dX11_copy_7 : decode cX11_copy 7 = .ok (.iload_n 3, 1) := by decide +kernel
theorem dX11_copy_8 : decode cX11_copy 8 = .ok (.invokestatic 65, 3) := by decide +kernel
theorem dX11_copy_11 : decode cX11_copy 11 = .ok (.ifCond .ne 6, 3) := by decide +kernel
theorem dX11_copy_14 : decode cX11_copy 14 = .ok (.ldc 73, 2) := by decide +kernel
theorem dX11_copy_16 : decode cX11_copy 16 = .ok (.ireturn, 1) := by decide +kernel
theorem dX11_copy_17 : decode cX11_copy 17 = .ok (.aload_n 0, 1) := by decide +kernel
theorem dX11_copy_18 : decode cX11_copy 18 = .ok (.getfield 11, 3) := by decide +kernel
theorem dX11_copy_21 : decode cX11_copy 21 = .ok (.iload_n 1, 1) := by decide +kernel
theorem dX11_copy_22 : decode cX11_copy 22 = .ok (.aaload, 1) := by decide +kernel
theorem dX11_copy_23 : decode cX11_copy 23 = .ok (.astore 6, 2) := by decide +kernel
theorem dX11_copy_25 : decode cX11_copy 25 = .ok (.aload_n 0, 1) := by decide +kernel
theorem dX11_copy_26 : decode cX11_copy 26 = .ok (.getfield 11, 3) := by decide +kernel
theorem dX11_copy_29 : decode cX11_copy 29 = .ok (.iload_n 3, 1) := by decide +kernel
theorem dX11_copy_30 : decode cX11_copy 30 = .ok (.aaload, 1) := by decide +kernel
theorem dX11_copy_31 : decode cX11_copy 31 = .ok (.astore 7, 2) := by decide +kernel
theorem dX11_copy_33 : decode cX11_copy 33 = .ok (.aload 6, 2) := by decide +kernel
theorem dX11_copy_35 : decode cX11_copy 35 = .ok (.getfield 95, 3) := by decide +kernel
theorem dX11_copy_38 : decode cX11_copy 38 = .ok (.ifCond .ne 11, 3) := by decide +kernel
theorem dX11_copy_41 : decode cX11_copy 41 = .ok (.aload 7, 2) := by decide +kernel
theorem dX11_copy_43 : decode cX11_copy 43 = .ok (.getfield 95, 3) := by decide +kernel
theorem dX11_copy_46 : decode cX11_copy 46 = .ok (.ifCond .eq 9, 3) := by decide +kernel
theorem dX11_copy_49 : decode cX11_copy 49 = .ok (.aload_n 0, 1) := by decide +kernel
theorem dX11_copy_50 : decode cX11_copy 50 = .ok (.iconst 1, 1) := by decide +kernel
theorem dX11_copy_51 : decode cX11_copy 51 = .ok (.invokevirtual 74, 3) := by decide +kernel
theorem dX11_copy_54 : decode cX11_copy 54 = .ok (.ireturn, 1) := by decide +kernel
theorem dX11_copy_55 : decode cX11_copy 55 = .ok (.aload 6, 2) := by decide +kernel
theorem dX11_copy_57 : decode cX11_copy 57 = .ok (.getfield 99, 3) := by decide +kernel
theorem dX11_copy_60 : decode cX11_copy 60 = .ok (.aload 7, 2) := by decide +kernel
theorem dX11_copy_62 : decode cX11_copy 62 = .ok (.getfield 99, 3) := by decide +kernel
theorem dX11_copy_65 : decode cX11_copy 65 = .ok (.if_icmp .eq 9, 3) := by decide +kernel
theorem dX11_copy_68 : decode cX11_copy 68 = .ok (.aload_n 0, 1) := by decide +kernel
theorem dX11_copy_69 : decode cX11_copy 69 = .ok (.iconst 5, 1) := by decide +kernel
theorem dX11_copy_70 : decode cX11_copy 70 = .ok (.invokevirtual 74, 3) := by decide +kernel
theorem dX11_copy_73 : decode cX11_copy 73 = .ok (.ireturn, 1) := by decide +kernel
theorem dX11_copy_74 : decode cX11_copy 74 = .ok (.aload 6, 2) := by decide +kernel
theorem dX11_copy_76 : decode cX11_copy 76 = .ok (.iload_n 2, 1) := by decide +kernel
theorem dX11_copy_77 : decode cX11_copy 77 = .ok (.iload 5, 2) := by decide +kernel
theorem dX11_copy_79 : decode cX11_copy 79 = .ok (.invokevirtual 103, 3) := by decide +kernel
theorem dX11_copy_82 : decode cX11_copy 82 = .ok (.ifCond .eq 15, 3) := by decide +kernel
theorem dX11_copy_85 : decode cX11_copy 85 = .ok (.aload 7, 2) := by decide +kernel
theorem dX11_copy_87 : decode cX11_copy 87 = .ok (.iload 4, 2) := by decide +kernel
theorem dX11_copy_89 : decode cX11_copy 89 = .ok (.iload 5, 2) := by decide +kernel
theorem dX11_copy_91 : decode cX11_copy 91 = .ok (.invokevirtual 103, 3) := by decide +kernel
theorem dX11_copy_94 : decode cX11_copy 94 = .ok (.ifCond .ne 9, 3) := by decide +kernel
theorem dX11_copy_97 : decode cX11_copy 97 = .ok (.aload_n 0, 1) := by decide +kernel
theorem dX11_copy_98 : decode cX11_copy 98 = .ok (.iconst 2, 1) := by decide +kernel
theorem dX11_copy_99 : decode cX11_copy 99 = .ok (.invokevirtual 74, 3) := by decide +kernel
theorem dX11_copy_102 : decode cX11_copy 102 = .ok (.ireturn, 1) := by decide +kernel
theorem dX11_copy_103 : decode cX11_copy 103 = .ok (.aload 6, 2) := by decide +kernel
theorem dX11_copy_105 : decode cX11_copy 105 = .ok (.getfield 89, 3) := by decide +kernel
theorem dX11_copy_108 : decode cX11_copy 108 = .ok (.iload_n 2, 1) := by decide +kernel
theorem dX11_copy_109 : decode cX11_copy 109 = .ok (.aload 7, 2) := by decide +kernel
theorem dX11_copy_111 : decode cX11_copy 111 = .ok (.getfield 89, 3) := by decide +kernel
theorem dX11_copy_114 : decode cX11_copy 114 = .ok (.iload 4, 2) := by decide +kernel
theorem dX11_copy_116 : decode cX11_copy 116 = .ok (.iload 5, 2) := by decide +kernel
theorem dX11_copy_118 : decode cX11_copy 118 = .ok (.invokestatic 107, 3) := by decide +kernel
theorem dX11_copy_121 : decode cX11_copy 121 = .ok (.aload_n 0, 1) := by decide +kernel
theorem dX11_copy_122 : decode cX11_copy 122 = .ok (.iload 5, 2) := by decide +kernel
theorem dX11_copy_124 : decode cX11_copy 124 = .ok (.invokevirtual 82, 3) := by decide +kernel
theorem dX11_copy_127 : decode cX11_copy 127 = .ok (.ireturn, 1) := by decide +kernel
def bX11_copy_0 (f1 f2 f3 f4 : ox_F) (rc : Nat → ox_K) : ox_K := o_il 1 (o_ct f1 1 (o_ifeq (rc 14) (o_il 3 (o_ct f1 1 (o_ifne (rc 17) (rc 14))))))
def bX11_copy_14 (f1 f2 f3 f4 : ox_F) (rc : Nat → ox_K) : ox_K := o_ic (-1000001) (o_iret)
def bX11_copy_17 (f1 f2 f3 f4 : ox_F) (rc : Nat → ox_K) : ox_K := o_al 0 (o_getr 11 0 (o_il 1 (o_aa 8 (o_as 6 (o_al 0 (o_getr 11 0 (o_il 3 (o_aa 8 (o_as 7 (o_al 6 (o_geti 8 1 (o_ifne (rc 49) (o_al 7 (o_geti 8 1 (o_ifeq (rc 55) (rc 49))))))))))))))))
def bX11_copy_49 (f1 f2 f3 f4 : ox_F) (rc : Nat → ox_K) : ox_K := o_al 0 (o_ic (1) (o_cv f2 11 1 (o_iret)))
def bX11_copy_55 (f1 f2 f3 f4 : ox_F) (rc : Nat → ox_K) : ox_K := o_al 6 (o_geti 8 2 (o_al 7 (o_geti 8 2 (o_iceq (rc 74) (o_al 0 (o_ic (5) (o_cv f2 11 1 (o_iret))))))))
def bX11_copy_74 (f1 f2 f3 f4 : ox_F) (rc : Nat → ox_K) : ox_K := o_al 6 (o_il 2 (o_il 5 (o_cv f3 8 2 (o_ifeq (rc 97) (o_al 7 (o_il 4 (o_il 5 (o_cv f3 8 2 (o_ifne (rc 103) (rc 97))))))))))
def bX11_copy_97 (f1 f2 f3 f4 : ox_F) (rc : Nat → ox_K) : ox_K := o_al 0 (o_ic (2) (o_cv f2 11 1 (o_iret)))
def bX11_copy_103 (f1 f2 f3 f4 : ox_F) (rc : Nat → ox_K) : ox_K := o_al 6 (o_getr 8 0 (o_il 2 (o_al 7 (o_getr 8 0 (o_il 4 (o_il 5 (o_acopy (o_al 0 (o_il 5 (o_cv f4 11 1 (o_iret)))))))))))
section SX11_copy
variable {p : Program} {l : Launch} {e : Env} {R : Room} {s : State} {m : MethodId} {args : Array Value} {below : List Frame} {meth : Method} {c : Code} {g : ox_G} {c0 t0 dp d1 d2 d3 d4 : Nat} {rc : Nat → ox_K} {f1 f2 f3 f4 : ox_F}
set_option maxRecDepth 100000 in
theorem kX11_copy_0 (C : ox_C p s m args c g 8 cX11_copy RX11) (hr : meth.sig.returnType = (some .int)) (hlk : meth.locks = false) (hnm : meth.name = "copy") (hR : R.frames = dp ∧ R.locals = 60 * dp) (e0 : 1 ≤ dp) (h1 : ox_Sem yX11_isSheet cX11_isSheet 1 (some .boolean) d1 f1) (e1 : d1 + 1 ≤ dp) (h2 : ox_Sem yX11_found cX11_found 2 (some .int) d2 f2) (e2 : d2 + 1 ≤ dp) (h3 : ox_Sem yX8_has cX8_has 3 (some .boolean) d3 f3) (e3 : d3 + 1 ≤ dp) (h4 : ox_Sem yX11_plain cX11_plain 2 (some .int) d4 f4) (e4 : d4 + 1 ≤ dp) (hrc : ∀ b, ox_S p l e R s m args below meth c g 8 c0 t0 (ox_QM g below args s c0 t0) b (rc b)) : ox_S p l e R s m args below meth c g 8 c0 t0 (ox_QM g below args s c0 t0) 0 (bX11_copy_0 f1 f2 f3 f4 rc) := by
  refine s_iload_n (pc := 0) C dX11_copy_0 rfl ?_
  refine s_ct (pc := 1) C h1 wM_X11_65 wT_X11_isSheet wN_X11 wC_X11_isSheet (by decide +kernel) (ox_lv hR e1 (by decide)) dX11_copy_1 ?_
  refine s_ifeq (pc := 4) 14 C dX11_copy_4 (by decide) (hrc 14) ?_
  refine s_iload_n (pc := 7) C dX11_copy_7 rfl ?_
  refine s_ct (pc := 8) C h1 wM_X11_65 wT_X11_isSheet wN_X11 wC_X11_isSheet (by decide +kernel) (ox_lv hR e1 (by decide)) dX11_copy_8 ?_
  refine s_ifne (pc := 11) 17 C dX11_copy_11 (by decide) (hrc 17) ?_
  exact hrc 14
set_option maxRecDepth 100000 in
theorem kX11_copy_14 (C : ox_C p s m args c g 8 cX11_copy RX11) (hr : meth.sig.returnType = (some .int)) (hlk : meth.locks = false) (hnm : meth.name = "copy") (hR : R.frames = dp ∧ R.locals = 60 * dp) (e0 : 1 ≤ dp) (h1 : ox_Sem yX11_isSheet cX11_isSheet 1 (some .boolean) d1 f1) (e1 : d1 + 1 ≤ dp) (h2 : ox_Sem yX11_found cX11_found 2 (some .int) d2 f2) (e2 : d2 + 1 ≤ dp) (h3 : ox_Sem yX8_has cX8_has 3 (some .boolean) d3 f3) (e3 : d3 + 1 ≤ dp) (h4 : ox_Sem yX11_plain cX11_plain 2 (some .int) d4 f4) (e4 : d4 + 1 ≤ dp) (hrc : ∀ b, ox_S p l e R s m args below meth c g 8 c0 t0 (ox_QM g below args s c0 t0) b (rc b)) : ox_S p l e R s m args below meth c g 8 c0 t0 (ox_QM g below args s c0 t0) 14 (bX11_copy_14 f1 f2 f3 f4 rc) := by
  refine s_ldc (pc := 14) C wK_X11_73 dX11_copy_14 ?_
  exact s_iret (pc := 16) C hr hlk dX11_copy_16
set_option maxRecDepth 100000 in
theorem kX11_copy_17 (C : ox_C p s m args c g 8 cX11_copy RX11) (hr : meth.sig.returnType = (some .int)) (hlk : meth.locks = false) (hnm : meth.name = "copy") (hR : R.frames = dp ∧ R.locals = 60 * dp) (e0 : 1 ≤ dp) (h1 : ox_Sem yX11_isSheet cX11_isSheet 1 (some .boolean) d1 f1) (e1 : d1 + 1 ≤ dp) (h2 : ox_Sem yX11_found cX11_found 2 (some .int) d2 f2) (e2 : d2 + 1 ≤ dp) (h3 : ox_Sem yX8_has cX8_has 3 (some .boolean) d3 f3) (e3 : d3 + 1 ≤ dp) (h4 : ox_Sem yX11_plain cX11_plain 2 (some .int) d4 f4) (e4 : d4 + 1 ≤ dp) (hrc : ∀ b, ox_S p l e R s m args below meth c g 8 c0 t0 (ox_QM g below args s c0 t0) b (rc b)) : ox_S p l e R s m args below meth c g 8 c0 t0 (ox_QM g below args s c0 t0) 17 (bX11_copy_17 f1 f2 f3 f4 rc) := by
  refine s_aload_n (pc := 17) C dX11_copy_17 rfl ?_
  refine s_getr (pc := 18) (j := 0) (q := (RX11, TX11, 13)) C rfl (by decide) rfl wF_X11_11 dX11_copy_18 ?_
  refine s_iload_n (pc := 21) C dX11_copy_21 rfl ?_
  refine s_aa (pc := 22) (q := (RX8, TX8, 4)) 6 C rfl dX11_copy_22 ?_
  refine s_astore (pc := 23) C dX11_copy_23 (by decide) ?_
  refine s_aload_n (pc := 25) C dX11_copy_25 rfl ?_
  refine s_getr (pc := 26) (j := 0) (q := (RX11, TX11, 13)) C rfl (by decide) rfl wF_X11_11 dX11_copy_26 ?_
  refine s_iload_n (pc := 29) C dX11_copy_29 rfl ?_
  refine s_aa (pc := 30) (q := (RX8, TX8, 4)) 6 C rfl dX11_copy_30 ?_
  refine s_astore (pc := 31) C dX11_copy_31 (by decide) ?_
  refine s_aload (pc := 33) C dX11_copy_33 ?_
  refine s_geti (pc := 35) (j := 1) (q := (RX8, TX8, 4)) C rfl (by decide) rfl wF_X11_95 dX11_copy_35 ?_
  refine s_ifne (pc := 38) 49 C dX11_copy_38 (by decide) (hrc 49) ?_
  refine s_aload (pc := 41) C dX11_copy_41 ?_
  refine s_geti (pc := 43) (j := 1) (q := (RX8, TX8, 4)) C rfl (by decide) rfl wF_X11_95 dX11_copy_43 ?_
  refine s_ifeq (pc := 46) 55 C dX11_copy_46 (by decide) (hrc 55) ?_
  exact hrc 49
set_option maxRecDepth 100000 in
theorem kX11_copy_49 (C : ox_C p s m args c g 8 cX11_copy RX11) (hr : meth.sig.returnType = (some .int)) (hlk : meth.locks = false) (hnm : meth.name = "copy") (hR : R.frames = dp ∧ R.locals = 60 * dp) (e0 : 1 ≤ dp) (h1 : ox_Sem yX11_isSheet cX11_isSheet 1 (some .boolean) d1 f1) (e1 : d1 + 1 ≤ dp) (h2 : ox_Sem yX11_found cX11_found 2 (some .int) d2 f2) (e2 : d2 + 1 ≤ dp) (h3 : ox_Sem yX8_has cX8_has 3 (some .boolean) d3 f3) (e3 : d3 + 1 ≤ dp) (h4 : ox_Sem yX11_plain cX11_plain 2 (some .int) d4 f4) (e4 : d4 + 1 ≤ dp) (hrc : ∀ b, ox_S p l e R s m args below meth c g 8 c0 t0 (ox_QM g below args s c0 t0) b (rc b)) : ox_S p l e R s m args below meth c g 8 c0 t0 (ox_QM g below args s c0 t0) 49 (bX11_copy_49 f1 f2 f3 f4 rc) := by
  refine s_aload_n (pc := 49) C dX11_copy_49 rfl ?_
  refine s_iconst (pc := 50) C dX11_copy_50 (by decide) ?_
  refine s_cv (pc := 51) (q := (RX11, TX11, 13)) C h2 rfl wM_X11_74 wI_X11_found wS_X11_found wN_X11 wC_X11_found (by decide +kernel) (ox_lv hR e2 (by decide)) dX11_copy_51 ?_
  exact s_iret (pc := 54) C hr hlk dX11_copy_54
set_option maxRecDepth 100000 in
theorem kX11_copy_55 (C : ox_C p s m args c g 8 cX11_copy RX11) (hr : meth.sig.returnType = (some .int)) (hlk : meth.locks = false) (hnm : meth.name = "copy") (hR : R.frames = dp ∧ R.locals = 60 * dp) (e0 : 1 ≤ dp) (h1 : ox_Sem yX11_isSheet cX11_isSheet 1 (some .boolean) d1 f1) (e1 : d1 + 1 ≤ dp) (h2 : ox_Sem yX11_found cX11_found 2 (some .int) d2 f2) (e2 : d2 + 1 ≤ dp) (h3 : ox_Sem yX8_has cX8_has 3 (some .boolean) d3 f3) (e3 : d3 + 1 ≤ dp) (h4 : ox_Sem yX11_plain cX11_plain 2 (some .int) d4 f4) (e4 : d4 + 1 ≤ dp) (hrc : ∀ b, ox_S p l e R s m args below meth c g 8 c0 t0 (ox_QM g below args s c0 t0) b (rc b)) : ox_S p l e R s m args below meth c g 8 c0 t0 (ox_QM g below args s c0 t0) 55 (bX11_copy_55 f1 f2 f3 f4 rc) := by
  refine s_aload (pc := 55) C dX11_copy_55 ?_
  refine s_geti (pc := 57) (j := 2) (q := (RX8, TX8, 4)) C rfl (by decide) rfl wF_X11_99 dX11_copy_57 ?_
  refine s_aload (pc := 60) C dX11_copy_60 ?_
  refine s_geti (pc := 62) (j := 2) (q := (RX8, TX8, 4)) C rfl (by decide) rfl wF_X11_99 dX11_copy_62 ?_
  refine s_icmpeq (pc := 65) 74 C dX11_copy_65 (by decide) (hrc 74) ?_
  refine s_aload_n (pc := 68) C dX11_copy_68 rfl ?_
  refine s_iconst (pc := 69) C dX11_copy_69 (by decide) ?_
  refine s_cv (pc := 70) (q := (RX11, TX11, 13)) C h2 rfl wM_X11_74 wI_X11_found wS_X11_found wN_X11 wC_X11_found (by decide +kernel) (ox_lv hR e2 (by decide)) dX11_copy_70 ?_
  exact s_iret (pc := 73) C hr hlk dX11_copy_73
set_option maxRecDepth 100000 in
theorem kX11_copy_74 (C : ox_C p s m args c g 8 cX11_copy RX11) (hr : meth.sig.returnType = (some .int)) (hlk : meth.locks = false) (hnm : meth.name = "copy") (hR : R.frames = dp ∧ R.locals = 60 * dp) (e0 : 1 ≤ dp) (h1 : ox_Sem yX11_isSheet cX11_isSheet 1 (some .boolean) d1 f1) (e1 : d1 + 1 ≤ dp) (h2 : ox_Sem yX11_found cX11_found 2 (some .int) d2 f2) (e2 : d2 + 1 ≤ dp) (h3 : ox_Sem yX8_has cX8_has 3 (some .boolean) d3 f3) (e3 : d3 + 1 ≤ dp) (h4 : ox_Sem yX11_plain cX11_plain 2 (some .int) d4 f4) (e4 : d4 + 1 ≤ dp) (hrc : ∀ b, ox_S p l e R s m args below meth c g 8 c0 t0 (ox_QM g below args s c0 t0) b (rc b)) : ox_S p l e R s m args below meth c g 8 c0 t0 (ox_QM g below args s c0 t0) 74 (bX11_copy_74 f1 f2 f3 f4 rc) := by
  refine s_aload (pc := 74) C dX11_copy_74 ?_
  refine s_iload_n (pc := 76) C dX11_copy_76 rfl ?_
  refine s_iload (pc := 77) C dX11_copy_77 ?_
  refine s_cv (pc := 79) (q := (RX8, TX8, 4)) C h3 rfl wM_X11_103 wI_X8_has wS_X8_has wN_X8 wC_X8_has (by decide +kernel) (ox_lv hR e3 (by decide)) dX11_copy_79 ?_
  refine s_ifeq (pc := 82) 97 C dX11_copy_82 (by decide) (hrc 97) ?_
  refine s_aload (pc := 85) C dX11_copy_85 ?_
  refine s_iload (pc := 87) C dX11_copy_87 ?_
  refine s_iload (pc := 89) C dX11_copy_89 ?_
  refine s_cv (pc := 91) (q := (RX8, TX8, 4)) C h3 rfl wM_X11_103 wI_X8_has wS_X8_has wN_X8 wC_X8_has (by decide +kernel) (ox_lv hR e3 (by decide)) dX11_copy_91 ?_
  refine s_ifne (pc := 94) 103 C dX11_copy_94 (by decide) (hrc 103) ?_
  exact hrc 97
set_option maxRecDepth 100000 in
theorem kX11_copy_97 (C : ox_C p s m args c g 8 cX11_copy RX11) (hr : meth.sig.returnType = (some .int)) (hlk : meth.locks = false) (hnm : meth.name = "copy") (hR : R.frames = dp ∧ R.locals = 60 * dp) (e0 : 1 ≤ dp) (h1 : ox_Sem yX11_isSheet cX11_isSheet 1 (some .boolean) d1 f1) (e1 : d1 + 1 ≤ dp) (h2 : ox_Sem yX11_found cX11_found 2 (some .int) d2 f2) (e2 : d2 + 1 ≤ dp) (h3 : ox_Sem yX8_has cX8_has 3 (some .boolean) d3 f3) (e3 : d3 + 1 ≤ dp) (h4 : ox_Sem yX11_plain cX11_plain 2 (some .int) d4 f4) (e4 : d4 + 1 ≤ dp) (hrc : ∀ b, ox_S p l e R s m args below meth c g 8 c0 t0 (ox_QM g below args s c0 t0) b (rc b)) : ox_S p l e R s m args below meth c g 8 c0 t0 (ox_QM g below args s c0 t0) 97 (bX11_copy_97 f1 f2 f3 f4 rc) := by
  refine s_aload_n (pc := 97) C dX11_copy_97 rfl ?_
  refine s_iconst (pc := 98) C dX11_copy_98 (by decide) ?_
  refine s_cv (pc := 99) (q := (RX11, TX11, 13)) C h2 rfl wM_X11_74 wI_X11_found wS_X11_found wN_X11 wC_X11_found (by decide +kernel) (ox_lv hR e2 (by decide)) dX11_copy_99 ?_
  exact s_iret (pc := 102) C hr hlk dX11_copy_102
set_option maxRecDepth 100000 in
theorem kX11_copy_103 (C : ox_C p s m args c g 8 cX11_copy RX11) (hr : meth.sig.returnType = (some .int)) (hlk : meth.locks = false) (hnm : meth.name = "copy") (hR : R.frames = dp ∧ R.locals = 60 * dp) (e0 : 1 ≤ dp) (h1 : ox_Sem yX11_isSheet cX11_isSheet 1 (some .boolean) d1 f1) (e1 : d1 + 1 ≤ dp) (h2 : ox_Sem yX11_found cX11_found 2 (some .int) d2 f2) (e2 : d2 + 1 ≤ dp) (h3 : ox_Sem yX8_has cX8_has 3 (some .boolean) d3 f3) (e3 : d3 + 1 ≤ dp) (h4 : ox_Sem yX11_plain cX11_plain 2 (some .int) d4 f4) (e4 : d4 + 1 ≤ dp) (hrc : ∀ b, ox_S p l e R s m args below meth c g 8 c0 t0 (ox_QM g below args s c0 t0) b (rc b)) : ox_S p l e R s m args below meth c g 8 c0 t0 (ox_QM g below args s c0 t0) 103 (bX11_copy_103 f1 f2 f3 f4 rc) := by
  refine s_aload (pc := 103) C dX11_copy_103 ?_
  refine s_getr (pc := 105) (j := 0) (q := (RX8, TX8, 4)) C rfl (by decide) rfl wF_X11_89 dX11_copy_105 ?_
  refine s_iload_n (pc := 108) C dX11_copy_108 rfl ?_
  refine s_aload (pc := 109) C dX11_copy_109 ?_
  refine s_getr (pc := 111) (j := 0) (q := (RX8, TX8, 4)) C rfl (by decide) rfl wF_X11_89 dX11_copy_111 ?_
  refine s_iload (pc := 114) C dX11_copy_114 ?_
  refine s_iload (pc := 116) C dX11_copy_116 ?_
  refine s_acopy (pc := 118) C wM_X11_107 wAC1 wAC2 wN_J10 (ox_lv2 hR e0) dX11_copy_118 ?_
  refine s_aload_n (pc := 121) C dX11_copy_121 rfl ?_
  refine s_iload (pc := 122) C dX11_copy_122 ?_
  refine s_cv (pc := 124) (q := (RX11, TX11, 13)) C h4 rfl wM_X11_82 wI_X11_plain wS_X11_plain wN_X11 wC_X11_plain (by decide +kernel) (ox_lv hR e4 (by decide)) dX11_copy_124 ?_
  exact s_iret (pc := 127) C hr hlk dX11_copy_127
end SX11_copy
def bsX11_copy (f1 f2 f3 f4 : ox_F) (b : Nat) (rc : Nat → ox_K) : ox_K := if b = 0 then bX11_copy_0 f1 f2 f3 f4 rc else if b = 14 then bX11_copy_14 f1 f2 f3 f4 rc else if b = 17 then bX11_copy_17 f1 f2 f3 f4 rc else if b = 49 then bX11_copy_49 f1 f2 f3 f4 rc else if b = 55 then bX11_copy_55 f1 f2 f3 f4 rc else if b = 74 then bX11_copy_74 f1 f2 f3 f4 rc else if b = 97 then bX11_copy_97 f1 f2 f3 f4 rc else if b = 103 then bX11_copy_103 f1 f2 f3 f4 rc else ox_no
theorem mX11_copy {dp d1 d2 d3 d4 : Nat} {f1 f2 f3 f4 f : ox_F} (e0 : 1 ≤ dp) (h1 : ox_Sem yX11_isSheet cX11_isSheet 1 (some .boolean) d1 f1) (e1 : d1 + 1 ≤ dp) (h2 : ox_Sem yX11_found cX11_found 2 (some .int) d2 f2) (e2 : d2 + 1 ≤ dp) (h3 : ox_Sem yX8_has cX8_has 3 (some .boolean) d3 f3) (e3 : d3 + 1 ≤ dp) (h4 : ox_Sem yX11_plain cX11_plain 2 (some .int) d4 f4) (e4 : d4 + 1 ≤ dp) (hf : ∀ as h r, f as h = some r → ox_cs as ≤ 8 ∧ ox_le h r.2 ∧ ∃ n, ox_run (bsX11_copy f1 f2 f3 f4) n 0 (lv_args 0 as) [] h = some r) : ox_Sem yX11_copy cX11_copy 8 (some .int) dp f := by
  refine ox_meth (bs := bsX11_copy f1 f2 f3 f4) (by decide) hf ?_
  intro p l e R s m args below meth c g c0 t0 C hr hlk hnm hR rc hrc b
  unfold bsX11_copy
  refine ox_br (kX11_copy_0 C hr hlk hnm hR e0 h1 e1 h2 e2 h3 e3 h4 e4 hrc) ?_
  refine ox_br (kX11_copy_14 C hr hlk hnm hR e0 h1 e1 h2 e2 h3 e3 h4 e4 hrc) ?_
  refine ox_br (kX11_copy_17 C hr hlk hnm hR e0 h1 e1 h2 e2 h3 e3 h4 e4 hrc) ?_
  refine ox_br (kX11_copy_49 C hr hlk hnm hR e0 h1 e1 h2 e2 h3 e3 h4 e4 hrc) ?_
  refine ox_br (kX11_copy_55 C hr hlk hnm hR e0 h1 e1 h2 e2 h3 e3 h4 e4 hrc) ?_
  refine ox_br (kX11_copy_74 C hr hlk hnm hR e0 h1 e1 h2 e2 h3 e3 h4 e4 hrc) ?_
  refine ox_br (kX11_copy_97 C hr hlk hnm hR e0 h1 e1 h2 e2 h3 e3 h4 e4 hrc) ?_
  refine ox_br (kX11_copy_103 C hr hlk hnm hR e0 h1 e1 h2 e2 h3 e3 h4 e4 hrc) ?_
  exact s_no
theorem dX11_drop_0 : decode cX11_drop 0 = .ok (.iload_n 1, 1) := by decide +kernel
theorem dX11_drop_1 : decode cX11_drop 1 = .ok (.invokestatic 65, 3) := by decide +kernel
theorem dX11_drop_4 : decode cX11_drop 4 = .ok (.ifCond .ne 6, 3) := by decide +kernel
theorem dX11_drop_7 : decode cX11_drop 7 = .ok (.ldc 73, 2) := by decide +kernel
theorem dX11_drop_9 : decode cX11_drop 9 = .ok (.ireturn, 1) := by decide +kernel
theorem dX11_drop_10 : decode cX11_drop 10 = .ok (.aload_n 0, 1) := by decide +kernel
theorem dX11_drop_11 : decode cX11_drop 11 = .ok (.getfield 11, 3) := by decide +kernel
theorem dX11_drop_14 : decode cX11_drop 14 = .ok (.iload_n 1, 1) := by decide +kernel
theorem dX11_drop_15 : decode cX11_drop 15 = .ok (.aaload, 1) := by decide +kernel
theorem dX11_drop_16 : decode cX11_drop 16 = .ok (.astore_n 2, 1) := by decide +kernel
theorem dX11_drop_17 : decode cX11_drop 17 = .ok (.aload_n 2, 1) := by decide +kernel
theorem dX11_drop_18 : decode cX11_drop 18 = .ok (.getfield 95, 3) := by decide +kernel
theorem dX11_drop_21 : decode cX11_drop 21 = .ok (.ifCond .eq 9, 3) := by decide +kernel
theorem dX11_drop_24 : decode cX11_drop 24 = .ok (.aload_n 0, 1) := by decide +kernel
theorem dX11_drop_25 : decode cX11_drop 25 = .ok (.iconst 1, 1) := by decide +kernel
theorem dX11_drop_26 : decode cX11_drop 26 = .ok (.invokevirtual 74, 3) := by decide +kernel
theorem dX11_drop_29 : decode cX11_drop 29 = .ok (.ireturn, 1) := by decide +kernel
theorem dX11_drop_30 : decode cX11_drop 30 = .ok (.aload_n 2, 1) := by decide +kernel
theorem dX11_drop_31 : decode cX11_drop 31 = .ok (.iconst 1, 1) := by decide +kernel
theorem dX11_drop_32 : decode cX11_drop 32 = .ok (.putfield 95, 3) := by decide +kernel
theorem dX11_drop_35 : decode cX11_drop 35 = .ok (.aload_n 0, 1) := by decide +kernel
theorem dX11_drop_36 : decode cX11_drop 36 = .ok (.aload_n 2, 1) := by decide +kernel
theorem dX11_drop_37 : decode cX11_drop 37 = .ok (.getfield 113, 3) := by decide +kernel
theorem dX11_drop_40 : decode cX11_drop 40 = .ok (.invokevirtual 82, 3) := by decide +kernel
theorem dX11_drop_43 : decode cX11_drop 43 = .ok (.ireturn, 1) := by decide +kernel
def bX11_drop_0 (f1 f2 f3 : ox_F) (rc : Nat → ox_K) : ox_K := o_il 1 (o_ct f1 1 (o_ifne (rc 10) (o_ic (-1000001) (o_iret))))
def bX11_drop_10 (f1 f2 f3 : ox_F) (rc : Nat → ox_K) : ox_K := o_al 0 (o_getr 11 0 (o_il 1 (o_aa 8 (o_as 2 (o_al 2 (o_geti 8 1 (o_ifeq (rc 30) (o_al 0 (o_ic (1) (o_cv f2 11 1 (o_iret)))))))))))
def bX11_drop_30 (f1 f2 f3 : ox_F) (rc : Nat → ox_K) : ox_K := o_al 2 (o_ic (1) (o_putz 8 1 (o_al 0 (o_al 2 (o_geti 8 3 (o_cv f3 11 1 (o_iret)))))))
section SX11_drop
variable {p : Program} {l : Launch} {e : Env} {R : Room} {s : State} {m : MethodId} {args : Array Value} {below : List Frame} {meth : Method} {c : Code} {g : ox_G} {c0 t0 dp d1 d2 d3 : Nat} {rc : Nat → ox_K} {f1 f2 f3 : ox_F}
set_option maxRecDepth 100000 in
theorem kX11_drop_0 (C : ox_C p s m args c g 3 cX11_drop RX11) (hr : meth.sig.returnType = (some .int)) (hlk : meth.locks = false) (hnm : meth.name = "drop") (hR : R.frames = dp ∧ R.locals = 60 * dp) (h1 : ox_Sem yX11_isSheet cX11_isSheet 1 (some .boolean) d1 f1) (e1 : d1 + 1 ≤ dp) (h2 : ox_Sem yX11_found cX11_found 2 (some .int) d2 f2) (e2 : d2 + 1 ≤ dp) (h3 : ox_Sem yX11_plain cX11_plain 2 (some .int) d3 f3) (e3 : d3 + 1 ≤ dp) (hrc : ∀ b, ox_S p l e R s m args below meth c g 3 c0 t0 (ox_QM g below args s c0 t0) b (rc b)) : ox_S p l e R s m args below meth c g 3 c0 t0 (ox_QM g below args s c0 t0) 0 (bX11_drop_0 f1 f2 f3 rc) := by
  refine s_iload_n (pc := 0) C dX11_drop_0 rfl ?_
  refine s_ct (pc := 1) C h1 wM_X11_65 wT_X11_isSheet wN_X11 wC_X11_isSheet (by decide +kernel) (ox_lv hR e1 (by decide)) dX11_drop_1 ?_
  refine s_ifne (pc := 4) 10 C dX11_drop_4 (by decide) (hrc 10) ?_
  refine s_ldc (pc := 7) C wK_X11_73 dX11_drop_7 ?_
  exact s_iret (pc := 9) C hr hlk dX11_drop_9
set_option maxRecDepth 100000 in
theorem kX11_drop_10 (C : ox_C p s m args c g 3 cX11_drop RX11) (hr : meth.sig.returnType = (some .int)) (hlk : meth.locks = false) (hnm : meth.name = "drop") (hR : R.frames = dp ∧ R.locals = 60 * dp) (h1 : ox_Sem yX11_isSheet cX11_isSheet 1 (some .boolean) d1 f1) (e1 : d1 + 1 ≤ dp) (h2 : ox_Sem yX11_found cX11_found 2 (some .int) d2 f2) (e2 : d2 + 1 ≤ dp) (h3 : ox_Sem yX11_plain cX11_plain 2 (some .int) d3 f3) (e3 : d3 + 1 ≤ dp) (hrc : ∀ b, ox_S p l e R s m args below meth c g 3 c0 t0 (ox_QM g below args s c0 t0) b (rc b)) : ox_S p l e R s m args below meth c g 3 c0 t0 (ox_QM g below args s c0 t0) 10 (bX11_drop_10 f1 f2 f3 rc) := by
  refine s_aload_n (pc := 10) C dX11_drop_10 rfl ?_
  refine s_getr (pc := 11) (j := 0) (q := (RX11, TX11, 13)) C rfl (by decide) rfl wF_X11_11 dX11_drop_11 ?_
  refine s_iload_n (pc := 14) C dX11_drop_14 rfl ?_
  refine s_aa (pc := 15) (q := (RX8, TX8, 4)) 6 C rfl dX11_drop_15 ?_
  refine s_astore_n (pc := 16) C dX11_drop_16 rfl (by decide) ?_
  refine s_aload_n (pc := 17) C dX11_drop_17 rfl ?_
  refine s_geti (pc := 18) (j := 1) (q := (RX8, TX8, 4)) C rfl (by decide) rfl wF_X11_95 dX11_drop_18 ?_
  refine s_ifeq (pc := 21) 30 C dX11_drop_21 (by decide) (hrc 30) ?_
  refine s_aload_n (pc := 24) C dX11_drop_24 rfl ?_
  refine s_iconst (pc := 25) C dX11_drop_25 (by decide) ?_
  refine s_cv (pc := 26) (q := (RX11, TX11, 13)) C h2 rfl wM_X11_74 wI_X11_found wS_X11_found wN_X11 wC_X11_found (by decide +kernel) (ox_lv hR e2 (by decide)) dX11_drop_26 ?_
  exact s_iret (pc := 29) C hr hlk dX11_drop_29
set_option maxRecDepth 100000 in
theorem kX11_drop_30 (C : ox_C p s m args c g 3 cX11_drop RX11) (hr : meth.sig.returnType = (some .int)) (hlk : meth.locks = false) (hnm : meth.name = "drop") (hR : R.frames = dp ∧ R.locals = 60 * dp) (h1 : ox_Sem yX11_isSheet cX11_isSheet 1 (some .boolean) d1 f1) (e1 : d1 + 1 ≤ dp) (h2 : ox_Sem yX11_found cX11_found 2 (some .int) d2 f2) (e2 : d2 + 1 ≤ dp) (h3 : ox_Sem yX11_plain cX11_plain 2 (some .int) d3 f3) (e3 : d3 + 1 ≤ dp) (hrc : ∀ b, ox_S p l e R s m args below meth c g 3 c0 t0 (ox_QM g below args s c0 t0) b (rc b)) : ox_S p l e R s m args below meth c g 3 c0 t0 (ox_QM g below args s c0 t0) 30 (bX11_drop_30 f1 f2 f3 rc) := by
  refine s_aload_n (pc := 30) C dX11_drop_30 rfl ?_
  refine s_iconst (pc := 31) C dX11_drop_31 (by decide) ?_
  refine s_putz (pc := 32) (j := 1) (q := (RX8, TX8, 4)) C rfl (by decide) rfl (Or.inl rfl) wF_X11_95 dX11_drop_32 ?_
  refine s_aload_n (pc := 35) C dX11_drop_35 rfl ?_
  refine s_aload_n (pc := 36) C dX11_drop_36 rfl ?_
  refine s_geti (pc := 37) (j := 3) (q := (RX8, TX8, 4)) C rfl (by decide) rfl wF_X11_113 dX11_drop_37 ?_
  refine s_cv (pc := 40) (q := (RX11, TX11, 13)) C h3 rfl wM_X11_82 wI_X11_plain wS_X11_plain wN_X11 wC_X11_plain (by decide +kernel) (ox_lv hR e3 (by decide)) dX11_drop_40 ?_
  exact s_iret (pc := 43) C hr hlk dX11_drop_43
end SX11_drop
def bsX11_drop (f1 f2 f3 : ox_F) (b : Nat) (rc : Nat → ox_K) : ox_K := if b = 0 then bX11_drop_0 f1 f2 f3 rc else if b = 10 then bX11_drop_10 f1 f2 f3 rc else if b = 30 then bX11_drop_30 f1 f2 f3 rc else ox_no
theorem mX11_drop {dp d1 d2 d3 : Nat} {f1 f2 f3 f : ox_F} (h1 : ox_Sem yX11_isSheet cX11_isSheet 1 (some .boolean) d1 f1) (e1 : d1 + 1 ≤ dp) (h2 : ox_Sem yX11_found cX11_found 2 (some .int) d2 f2) (e2 : d2 + 1 ≤ dp) (h3 : ox_Sem yX11_plain cX11_plain 2 (some .int) d3 f3) (e3 : d3 + 1 ≤ dp) (hf : ∀ as h r, f as h = some r → ox_cs as ≤ 3 ∧ ox_le h r.2 ∧ ∃ n, ox_run (bsX11_drop f1 f2 f3) n 0 (lv_args 0 as) [] h = some r) : ox_Sem yX11_drop cX11_drop 3 (some .int) dp f := by
  refine ox_meth (bs := bsX11_drop f1 f2 f3) (by decide) hf ?_
  intro p l e R s m args below meth c g c0 t0 C hr hlk hnm hR rc hrc b
  unfold bsX11_drop
  refine ox_br (kX11_drop_0 C hr hlk hnm hR h1 e1 h2 e2 h3 e3 hrc) ?_
  refine ox_br (kX11_drop_10 C hr hlk hnm hR h1 e1 h2 e2 h3 e3 hrc) ?_
  refine ox_br (kX11_drop_30 C hr hlk hnm hR h1 e1 h2 e2 h3 e3 hrc) ?_
  exact s_no
theorem dX11_feed_0 : decode cX11_feed 0 = .ok (.iload_n 3, 1) := by decide +kernel
theorem dX11_feed_1 : decode cX11_feed 1 = .ok (.iconst 1, 1) := by decide +kernel
theorem dX11_feed_2 : decode cX11_feed 2 = .ok (.bipush 8, 2) := by decide +kernel
theorem dX11_feed_4 : decode cX11_feed 4 = .ok (.invokestatic 69, 3) := by decide +kernel
theorem dX11_feed_7 : decode cX11_feed 7 = .ok (.ifCond .ne 6, 3) := by decide +kernel
theorem dX11_feed_10 : decode cX11_feed 10 = .ok (.ldc 73, 2) := by decide +kernel
theorem dX11_feed_12 : decode cX11_feed 12 = .ok (.ireturn, 1) := by decide +kernel
theorem dX11_feed_13 : decode cX11_feed 13 = .ok (.aload_n 0, 1) := by decide +kernel
theorem dX11_feed_14 : decode cX11_feed 14 = .ok (.getfield 18, 3) := by decide +kernel
theorem dX11_feed_17 : decode cX11_feed 17 = .ok (.getfield 116, 3) := by decide +kernel
theorem dX11_feed_20 : decode cX11_feed 20 = .ok (.iload_n 3, 1) := by decide +kernel
theorem dX11_feed_21 : decode cX11_feed 21 = .ok (.invokevirtual 120, 3) := by decide +kernel
theorem dX11_feed_24 : decode cX11_feed 24 = .ok (.ifCond .ne 6, 3) := by decide +kernel
theorem dX11_feed_27 : decode cX11_feed 27 = .ok (.ldc 125, 2) := by decide +kernel
theorem dX11_feed_29 : decode cX11_feed 29 = .ok (.ireturn, 1) := by decide +kernel
theorem dX11_feed_30 : decode cX11_feed 30 = .ok (.iload_n 3, 1) := by decide +kernel
theorem dX11_feed_31 : decode cX11_feed 31 = .ok (.iconst 1, 1) := by decide +kernel
theorem dX11_feed_32 : decode cX11_feed 32 = .ok (.isub, 1) := by decide +kernel
theorem dX11_feed_33 : decode cX11_feed 33 = .ok (.istore 4, 2) := by decide +kernel
theorem dX11_feed_35 : decode cX11_feed 35 = .ok (.iload 4, 2) := by decide +kernel
theorem dX11_feed_37 : decode cX11_feed 37 = .ok (.ifCond .lt 28, 3) := by decide +kernel
theorem dX11_feed_40 : decode cX11_feed 40 = .ok (.aload_n 0, 1) := by decide +kernel
theorem dX11_feed_41 : decode cX11_feed 41 = .ok (.getfield 18, 3) := by decide +kernel
theorem dX11_feed_44 : decode cX11_feed 44 = .ok (.getfield 116, 3) := by decide +kernel
theorem dX11_feed_47 : decode cX11_feed 47 = .ok (.lload_n 1, 1) := by decide +kernel
theorem dX11_feed_48 : decode cX11_feed 48 = .ok (.bipush 8, 2) := by decide +kernel
theorem dX11_feed_50 : decode cX11_feed 50 = .ok (.iload 4, 2) := by decide +kernel
theorem dX11_feed_52 : decode cX11_feed 52 = .ok (.imul, 1) := by decide +kernel
theorem dX11_feed_53 : decode cX11_feed 53 = .ok (.lushr, 1) := by decide +kernel
theorem dX11_feed_54 : decode cX11_feed 54 = .ok (.l2i, 1) := by decide +kernel
theorem dX11_feed_55 : decode cX11_feed 55 = .ok (.i2b, 1) := by decide +kernel
theorem dX11_feed_56 : decode cX11_feed 56 = .ok (.invokevirtual 126, 3) := by decide +kernel
theorem dX11_feed_59 : decode cX11_feed 59 = .ok (.iinc 4 (-1), 3) := by decide +kernel
theorem dX11_feed_62 : decode cX11_feed 62 = .ok (.goto (-27), 3) := by decide +kernel
theorem dX11_feed_65 : decode cX11_feed 65 = .ok (.aload_n 0, 1) := by decide +kernel
theorem dX11_feed_66 : decode cX11_feed 66 = .ok (.getfield 18, 3) := by decide +kernel
theorem dX11_feed_69 : decode cX11_feed 69 = .ok (.getfield 116, 3) := by decide +kernel
theorem dX11_feed_72 : decode cX11_feed 72 = .ok (.getfield 130, 3) := by decide +kernel
theorem dX11_feed_75 : decode cX11_feed 75 = .ok (.ireturn, 1) := by decide +kernel
def bX11_feed_0 (f1 f2 f3 : ox_F) (rc : Nat → ox_K) : ox_K := o_il 3 (o_ic (1) (o_ic (8) (o_ct f1 3 (o_ifne (rc 13) (o_ic (-1000001) (o_iret))))))
def bX11_feed_13 (f1 f2 f3 : ox_F) (rc : Nat → ox_K) : ox_K := o_al 0 (o_getr 11 1 (o_getr 3 0 (o_il 3 (o_cv f2 10 1 (o_ifne (rc 30) (o_ic (-1000003) (o_iret)))))))
def bX11_feed_30 (f1 f2 f3 : ox_F) (rc : Nat → ox_K) : ox_K := o_il 3 (o_ic (1) (o_isub (o_is 4 (rc 35))))
def bX11_feed_35 (f1 f2 f3 : ox_F) (rc : Nat → ox_K) : ox_K := o_keep [0, 1, 4] (o_il 4 (o_iflt (rc 65) (o_al 0 (o_getr 11 1 (o_getr 3 0 (o_ll 1 (o_ic (8) (o_il 4 (o_imul (o_lushr (o_l2i (o_i2b (o_cv f3 10 1 (o_inc 4 (-1) (rc 35)))))))))))))))
def bX11_feed_65 (f1 f2 f3 : ox_F) (rc : Nat → ox_K) : ox_K := o_al 0 (o_getr 11 1 (o_getr 3 0 (o_geti 10 1 (o_iret))))
section SX11_feed
variable {p : Program} {l : Launch} {e : Env} {R : Room} {s : State} {m : MethodId} {args : Array Value} {below : List Frame} {meth : Method} {c : Code} {g : ox_G} {c0 t0 dp d1 d2 d3 : Nat} {rc : Nat → ox_K} {f1 f2 f3 : ox_F}
set_option maxRecDepth 100000 in
theorem kX11_feed_0 (C : ox_C p s m args c g 5 cX11_feed RX11) (hr : meth.sig.returnType = (some .int)) (hlk : meth.locks = false) (hnm : meth.name = "feed") (hR : R.frames = dp ∧ R.locals = 60 * dp) (h1 : ox_Sem yX11_within cX11_within 3 (some .boolean) d1 f1) (e1 : d1 + 1 ≤ dp) (h2 : ox_Sem yX10_hasRoom cX10_hasRoom 2 (some .boolean) d2 f2) (e2 : d2 + 1 ≤ dp) (h3 : ox_Sem yX10_append cX10_append 2 none d3 f3) (e3 : d3 + 1 ≤ dp) (hrc : ∀ b, ox_S p l e R s m args below meth c g 5 c0 t0 (ox_QM g below args s c0 t0) b (rc b)) : ox_S p l e R s m args below meth c g 5 c0 t0 (ox_QM g below args s c0 t0) 0 (bX11_feed_0 f1 f2 f3 rc) := by
  refine s_iload_n (pc := 0) C dX11_feed_0 rfl ?_
  refine s_iconst (pc := 1) C dX11_feed_1 (by decide) ?_
  refine s_bipush (pc := 2) C dX11_feed_2 (by decide) ?_
  refine s_ct (pc := 4) C h1 wM_X11_69 wT_X11_within wN_X11 wC_X11_within (by decide +kernel) (ox_lv hR e1 (by decide)) dX11_feed_4 ?_
  refine s_ifne (pc := 7) 13 C dX11_feed_7 (by decide) (hrc 13) ?_
  refine s_ldc (pc := 10) C wK_X11_73 dX11_feed_10 ?_
  exact s_iret (pc := 12) C hr hlk dX11_feed_12
set_option maxRecDepth 100000 in
theorem kX11_feed_13 (C : ox_C p s m args c g 5 cX11_feed RX11) (hr : meth.sig.returnType = (some .int)) (hlk : meth.locks = false) (hnm : meth.name = "feed") (hR : R.frames = dp ∧ R.locals = 60 * dp) (h1 : ox_Sem yX11_within cX11_within 3 (some .boolean) d1 f1) (e1 : d1 + 1 ≤ dp) (h2 : ox_Sem yX10_hasRoom cX10_hasRoom 2 (some .boolean) d2 f2) (e2 : d2 + 1 ≤ dp) (h3 : ox_Sem yX10_append cX10_append 2 none d3 f3) (e3 : d3 + 1 ≤ dp) (hrc : ∀ b, ox_S p l e R s m args below meth c g 5 c0 t0 (ox_QM g below args s c0 t0) b (rc b)) : ox_S p l e R s m args below meth c g 5 c0 t0 (ox_QM g below args s c0 t0) 13 (bX11_feed_13 f1 f2 f3 rc) := by
  refine s_aload_n (pc := 13) C dX11_feed_13 rfl ?_
  refine s_getr (pc := 14) (j := 1) (q := (RX11, TX11, 13)) C rfl (by decide) rfl wF_X11_18 dX11_feed_14 ?_
  refine s_getr (pc := 17) (j := 0) (q := (RX3, TX3, 6)) C rfl (by decide) rfl wF_X11_116 dX11_feed_17 ?_
  refine s_iload_n (pc := 20) C dX11_feed_20 rfl ?_
  refine s_cv (pc := 21) (q := (RX10, TX10, 6)) C h2 rfl wM_X11_120 wI_X10_hasRoom wS_X10_hasRoom wN_X10 wC_X10_hasRoom (by decide +kernel) (ox_lv hR e2 (by decide)) dX11_feed_21 ?_
  refine s_ifne (pc := 24) 30 C dX11_feed_24 (by decide) (hrc 30) ?_
  refine s_ldc (pc := 27) C wK_X11_125 dX11_feed_27 ?_
  exact s_iret (pc := 29) C hr hlk dX11_feed_29
set_option maxRecDepth 100000 in
theorem kX11_feed_30 (C : ox_C p s m args c g 5 cX11_feed RX11) (hr : meth.sig.returnType = (some .int)) (hlk : meth.locks = false) (hnm : meth.name = "feed") (hR : R.frames = dp ∧ R.locals = 60 * dp) (h1 : ox_Sem yX11_within cX11_within 3 (some .boolean) d1 f1) (e1 : d1 + 1 ≤ dp) (h2 : ox_Sem yX10_hasRoom cX10_hasRoom 2 (some .boolean) d2 f2) (e2 : d2 + 1 ≤ dp) (h3 : ox_Sem yX10_append cX10_append 2 none d3 f3) (e3 : d3 + 1 ≤ dp) (hrc : ∀ b, ox_S p l e R s m args below meth c g 5 c0 t0 (ox_QM g below args s c0 t0) b (rc b)) : ox_S p l e R s m args below meth c g 5 c0 t0 (ox_QM g below args s c0 t0) 30 (bX11_feed_30 f1 f2 f3 rc) := by
  refine s_iload_n (pc := 30) C dX11_feed_30 rfl ?_
  refine s_iconst (pc := 31) C dX11_feed_31 (by decide) ?_
  refine s_isub (pc := 32) C dX11_feed_32 ?_
  refine s_istore (pc := 33) C dX11_feed_33 (by decide) ?_
  exact hrc 35
set_option maxRecDepth 100000 in
theorem kX11_feed_35 (C : ox_C p s m args c g 5 cX11_feed RX11) (hr : meth.sig.returnType = (some .int)) (hlk : meth.locks = false) (hnm : meth.name = "feed") (hR : R.frames = dp ∧ R.locals = 60 * dp) (h1 : ox_Sem yX11_within cX11_within 3 (some .boolean) d1 f1) (e1 : d1 + 1 ≤ dp) (h2 : ox_Sem yX10_hasRoom cX10_hasRoom 2 (some .boolean) d2 f2) (e2 : d2 + 1 ≤ dp) (h3 : ox_Sem yX10_append cX10_append 2 none d3 f3) (e3 : d3 + 1 ≤ dp) (hrc : ∀ b, ox_S p l e R s m args below meth c g 5 c0 t0 (ox_QM g below args s c0 t0) b (rc b)) : ox_S p l e R s m args below meth c g 5 c0 t0 (ox_QM g below args s c0 t0) 35 (bX11_feed_35 f1 f2 f3 rc) := by
  refine s_keep ?_
  refine s_iload (pc := 35) C dX11_feed_35 ?_
  refine s_iflt (pc := 37) 65 C dX11_feed_37 (by decide) (hrc 65) ?_
  refine s_aload_n (pc := 40) C dX11_feed_40 rfl ?_
  refine s_getr (pc := 41) (j := 1) (q := (RX11, TX11, 13)) C rfl (by decide) rfl wF_X11_18 dX11_feed_41 ?_
  refine s_getr (pc := 44) (j := 0) (q := (RX3, TX3, 6)) C rfl (by decide) rfl wF_X11_116 dX11_feed_44 ?_
  refine s_lload_n (pc := 47) C dX11_feed_47 rfl ?_
  refine s_bipush (pc := 48) C dX11_feed_48 (by decide) ?_
  refine s_iload (pc := 50) C dX11_feed_50 ?_
  refine s_imul (pc := 52) C dX11_feed_52 ?_
  refine s_lushr (pc := 53) C dX11_feed_53 ?_
  refine s_l2i (pc := 54) C dX11_feed_54 ?_
  refine s_i2b (pc := 55) C dX11_feed_55 ?_
  refine s_cv (pc := 56) (q := (RX10, TX10, 6)) C h3 rfl wM_X11_126 wI_X10_append wS_X10_append wN_X10 wC_X10_append (by decide +kernel) (ox_lv hR e3 (by decide)) dX11_feed_56 ?_
  refine s_iinc (pc := 59) C dX11_feed_59 (by decide) (by decide) ?_
  exact s_goto (pc := 62) 35 C dX11_feed_62 (by decide) (hrc 35)
set_option maxRecDepth 100000 in
theorem kX11_feed_65 (C : ox_C p s m args c g 5 cX11_feed RX11) (hr : meth.sig.returnType = (some .int)) (hlk : meth.locks = false) (hnm : meth.name = "feed") (hR : R.frames = dp ∧ R.locals = 60 * dp) (h1 : ox_Sem yX11_within cX11_within 3 (some .boolean) d1 f1) (e1 : d1 + 1 ≤ dp) (h2 : ox_Sem yX10_hasRoom cX10_hasRoom 2 (some .boolean) d2 f2) (e2 : d2 + 1 ≤ dp) (h3 : ox_Sem yX10_append cX10_append 2 none d3 f3) (e3 : d3 + 1 ≤ dp) (hrc : ∀ b, ox_S p l e R s m args below meth c g 5 c0 t0 (ox_QM g below args s c0 t0) b (rc b)) : ox_S p l e R s m args below meth c g 5 c0 t0 (ox_QM g below args s c0 t0) 65 (bX11_feed_65 f1 f2 f3 rc) := by
  refine s_aload_n (pc := 65) C dX11_feed_65 rfl ?_
  refine s_getr (pc := 66) (j := 1) (q := (RX11, TX11, 13)) C rfl (by decide) rfl wF_X11_18 dX11_feed_66 ?_
  refine s_getr (pc := 69) (j := 0) (q := (RX3, TX3, 6)) C rfl (by decide) rfl wF_X11_116 dX11_feed_69 ?_
  refine s_geti (pc := 72) (j := 1) (q := (RX10, TX10, 6)) C rfl (by decide) rfl wF_X11_130 dX11_feed_72 ?_
  exact s_iret (pc := 75) C hr hlk dX11_feed_75
end SX11_feed
def bsX11_feed (f1 f2 f3 : ox_F) (b : Nat) (rc : Nat → ox_K) : ox_K := if b = 0 then bX11_feed_0 f1 f2 f3 rc else if b = 13 then bX11_feed_13 f1 f2 f3 rc else if b = 30 then bX11_feed_30 f1 f2 f3 rc else if b = 35 then bX11_feed_35 f1 f2 f3 rc else if b = 65 then bX11_feed_65 f1 f2 f3 rc else ox_no
theorem mX11_feed {dp d1 d2 d3 : Nat} {f1 f2 f3 f : ox_F} (h1 : ox_Sem yX11_within cX11_within 3 (some .boolean) d1 f1) (e1 : d1 + 1 ≤ dp) (h2 : ox_Sem yX10_hasRoom cX10_hasRoom 2 (some .boolean) d2 f2) (e2 : d2 + 1 ≤ dp) (h3 : ox_Sem yX10_append cX10_append 2 none d3 f3) (e3 : d3 + 1 ≤ dp) (hf : ∀ as h r, f as h = some r → ox_cs as ≤ 5 ∧ ox_le h r.2 ∧ ∃ n, ox_run (bsX11_feed f1 f2 f3) n 0 (lv_args 0 as) [] h = some r) : ox_Sem yX11_feed cX11_feed 5 (some .int) dp f := by
  refine ox_meth (bs := bsX11_feed f1 f2 f3) (by decide) hf ?_
  intro p l e R s m args below meth c g c0 t0 C hr hlk hnm hR rc hrc b
  unfold bsX11_feed
  refine ox_br (kX11_feed_0 C hr hlk hnm hR h1 e1 h2 e2 h3 e3 hrc) ?_
  refine ox_br (kX11_feed_13 C hr hlk hnm hR h1 e1 h2 e2 h3 e3 hrc) ?_
  refine ox_br (kX11_feed_30 C hr hlk hnm hR h1 e1 h2 e2 h3 e3 hrc) ?_
  refine ox_br (kX11_feed_35 C hr hlk hnm hR h1 e1 h2 e2 h3 e3 hrc) ?_
  refine ox_br (kX11_feed_65 C hr hlk hnm hR h1 e1 h2 e2 h3 e3 hrc) ?_
  exact s_no
theorem dX11_recipes_0 : decode cX11_recipes 0 = .ok (.aload_n 0, 1) := by decide +kernel
theorem dX11_recipes_1 : decode cX11_recipes 1 = .ok (.getfield 18, 3) := by decide +kernel
theorem dX11_recipes_4 : decode cX11_recipes 4 = .ok (.invokevirtual 133, 3) := by decide +kernel
theorem dX11_recipes_7 : decode cX11_recipes 7 = .ok (.istore_n 1, 1) := by decide +kernel
theorem dX11_recipes_8 : decode cX11_recipes 8 = .ok (.aload_n 0, 1) := by decide +kernel
theorem dX11_recipes_9 : decode cX11_recipes 9 = .ok (.getfield 18, 3) := by decide +kernel
theorem dX11_recipes_12 : decode cX11_recipes 12 = .ok (.getfield 116, 3) := by decide +kernel
theorem dX11_recipes_15 : decode cX11_recipes 15 = .ok (.iconst 0, 1) := by decide +kernel
theorem dX11_recipes_16 : decode cX11_recipes 16 = .ok (.putfield 130, 3) := by decide +kernel
theorem dX11_recipes_19 : decode cX11_recipes 19 = .ok (.iload_n 1, 1) := by decide +kernel
theorem dX11_recipes_20 : decode cX11_recipes 20 = .ok (.ifCond .eq 13, 3) := by decide +kernel
theorem dX11_recipes_23 : decode cX11_recipes 23 = .ok (.aload_n 0, 1) := by decide +kernel
theorem dX11_recipes_24 : decode cX11_recipes 24 = .ok (.getfield 18, 3) := by decide +kernel
theorem dX11_recipes_27 : decode cX11_recipes 27 = .ok (.getfield 137, 3) := by decide +kernel
theorem dX11_recipes_30 : decode cX11_recipes 30 = .ok (.goto 13, 3) := by decide +kernel
theorem dX11_recipes_33 : decode cX11_recipes 33 = .ok (.ldc 140, 2) := by decide +kernel
theorem dX11_recipes_35 : decode cX11_recipes 35 = .ok (.aload_n 0, 1) := by decide +kernel
theorem dX11_recipes_36 : decode cX11_recipes 36 = .ok (.getfield 18, 3) := by decide +kernel
theorem dX11_recipes_39 : decode cX11_recipes 39 = .ok (.getfield 141, 3) := by decide +kernel
theorem dX11_recipes_42 : decode cX11_recipes 42 = .ok (.isub, 1) := by decide +kernel
theorem dX11_recipes_43 : decode cX11_recipes 43 = .ok (.ireturn, 1) := by decide +kernel
def bX11_recipes_0 (f1 : ox_F) (rc : Nat → ox_K) : ox_K := o_al 0 (o_getr 11 1 (o_cv f1 3 0 (o_is 1 (o_al 0 (o_getr 11 1 (o_getr 3 0 (o_ic (0) (o_puti 10 1 (o_il 1 (o_ifeq (rc 33) (o_al 0 (o_getr 11 1 (o_geti 3 2 (rc 43))))))))))))))
def bX11_recipes_33 (f1 : ox_F) (rc : Nat → ox_K) : ox_K := o_ic (-1000100) (o_al 0 (o_getr 11 1 (o_geti 3 4 (o_isub (rc 43)))))
def bX11_recipes_43 (f1 : ox_F) (rc : Nat → ox_K) : ox_K := o_iret
section SX11_recipes
variable {p : Program} {l : Launch} {e : Env} {R : Room} {s : State} {m : MethodId} {args : Array Value} {below : List Frame} {meth : Method} {c : Code} {g : ox_G} {c0 t0 dp d1 : Nat} {rc : Nat → ox_K} {f1 : ox_F}
set_option maxRecDepth 100000 in
theorem kX11_recipes_0 (C : ox_C p s m args c g 2 cX11_recipes RX11) (hr : meth.sig.returnType = (some .int)) (hlk : meth.locks = false) (hnm : meth.name = "recipes") (hR : R.frames = dp ∧ R.locals = 60 * dp) (h1 : ox_Sem yX3_readTape cX3_readTape 2 (some .boolean) d1 f1) (e1 : d1 + 1 ≤ dp) (hrc : ∀ b, ox_S p l e R s m args below meth c g 2 c0 t0 (ox_QM g below args s c0 t0) b (rc b)) : ox_S p l e R s m args below meth c g 2 c0 t0 (ox_QM g below args s c0 t0) 0 (bX11_recipes_0 f1 rc) := by
  refine s_aload_n (pc := 0) C dX11_recipes_0 rfl ?_
  refine s_getr (pc := 1) (j := 1) (q := (RX11, TX11, 13)) C rfl (by decide) rfl wF_X11_18 dX11_recipes_1 ?_
  refine s_cv (pc := 4) (q := (RX3, TX3, 6)) C h1 rfl wM_X11_133 wI_X3_readTape wS_X3_readTape wN_X3 wC_X3_readTape (by decide +kernel) (ox_lv hR e1 (by decide)) dX11_recipes_4 ?_
  refine s_istore_n (pc := 7) C dX11_recipes_7 rfl (by decide) ?_
  refine s_aload_n (pc := 8) C dX11_recipes_8 rfl ?_
  refine s_getr (pc := 9) (j := 1) (q := (RX11, TX11, 13)) C rfl (by decide) rfl wF_X11_18 dX11_recipes_9 ?_
  refine s_getr (pc := 12) (j := 0) (q := (RX3, TX3, 6)) C rfl (by decide) rfl wF_X11_116 dX11_recipes_12 ?_
  refine s_iconst (pc := 15) C dX11_recipes_15 (by decide) ?_
  refine s_puti (pc := 16) (j := 1) (q := (RX10, TX10, 6)) C rfl (by decide) rfl (Or.inl rfl) wF_X11_130 dX11_recipes_16 ?_
  refine s_iload_n (pc := 19) C dX11_recipes_19 rfl ?_
  refine s_ifeq (pc := 20) 33 C dX11_recipes_20 (by decide) (hrc 33) ?_
  refine s_aload_n (pc := 23) C dX11_recipes_23 rfl ?_
  refine s_getr (pc := 24) (j := 1) (q := (RX11, TX11, 13)) C rfl (by decide) rfl wF_X11_18 dX11_recipes_24 ?_
  refine s_geti (pc := 27) (j := 2) (q := (RX3, TX3, 6)) C rfl (by decide) rfl wF_X11_137 dX11_recipes_27 ?_
  exact s_goto (pc := 30) 43 C dX11_recipes_30 (by decide) (hrc 43)
set_option maxRecDepth 100000 in
theorem kX11_recipes_33 (C : ox_C p s m args c g 2 cX11_recipes RX11) (hr : meth.sig.returnType = (some .int)) (hlk : meth.locks = false) (hnm : meth.name = "recipes") (hR : R.frames = dp ∧ R.locals = 60 * dp) (h1 : ox_Sem yX3_readTape cX3_readTape 2 (some .boolean) d1 f1) (e1 : d1 + 1 ≤ dp) (hrc : ∀ b, ox_S p l e R s m args below meth c g 2 c0 t0 (ox_QM g below args s c0 t0) b (rc b)) : ox_S p l e R s m args below meth c g 2 c0 t0 (ox_QM g below args s c0 t0) 33 (bX11_recipes_33 f1 rc) := by
  refine s_ldc (pc := 33) C wK_X11_140 dX11_recipes_33 ?_
  refine s_aload_n (pc := 35) C dX11_recipes_35 rfl ?_
  refine s_getr (pc := 36) (j := 1) (q := (RX11, TX11, 13)) C rfl (by decide) rfl wF_X11_18 dX11_recipes_36 ?_
  refine s_geti (pc := 39) (j := 4) (q := (RX3, TX3, 6)) C rfl (by decide) rfl wF_X11_141 dX11_recipes_39 ?_
  refine s_isub (pc := 42) C dX11_recipes_42 ?_
  exact hrc 43
set_option maxRecDepth 100000 in
theorem kX11_recipes_43 (C : ox_C p s m args c g 2 cX11_recipes RX11) (hr : meth.sig.returnType = (some .int)) (hlk : meth.locks = false) (hnm : meth.name = "recipes") (hR : R.frames = dp ∧ R.locals = 60 * dp) (h1 : ox_Sem yX3_readTape cX3_readTape 2 (some .boolean) d1 f1) (e1 : d1 + 1 ≤ dp) (hrc : ∀ b, ox_S p l e R s m args below meth c g 2 c0 t0 (ox_QM g below args s c0 t0) b (rc b)) : ox_S p l e R s m args below meth c g 2 c0 t0 (ox_QM g below args s c0 t0) 43 (bX11_recipes_43 f1 rc) := by
  exact s_iret (pc := 43) C hr hlk dX11_recipes_43
end SX11_recipes
def bsX11_recipes (f1 : ox_F) (b : Nat) (rc : Nat → ox_K) : ox_K := if b = 0 then bX11_recipes_0 f1 rc else if b = 33 then bX11_recipes_33 f1 rc else if b = 43 then bX11_recipes_43 f1 rc else ox_no
theorem mX11_recipes {dp d1 : Nat} {f1 f : ox_F} (h1 : ox_Sem yX3_readTape cX3_readTape 2 (some .boolean) d1 f1) (e1 : d1 + 1 ≤ dp) (hf : ∀ as h r, f as h = some r → ox_cs as ≤ 2 ∧ ox_le h r.2 ∧ ∃ n, ox_run (bsX11_recipes f1) n 0 (lv_args 0 as) [] h = some r) : ox_Sem yX11_recipes cX11_recipes 2 (some .int) dp f := by
  refine ox_meth (bs := bsX11_recipes f1) (by decide) hf ?_
  intro p l e R s m args below meth c g c0 t0 C hr hlk hnm hR rc hrc b
  unfold bsX11_recipes
  refine ox_br (kX11_recipes_0 C hr hlk hnm hR h1 e1 hrc) ?_
  refine ox_br (kX11_recipes_33 C hr hlk hnm hR h1 e1 hrc) ?_
  refine ox_br (kX11_recipes_43 C hr hlk hnm hR h1 e1 hrc) ?_
  exact s_no
theorem dX11_fault_0 : decode cX11_fault 0 = .ok (.aload_n 0, 1) := by decide +kernel
theorem dX11_fault_1 : decode cX11_fault 1 = .ok (.getfield 18, 3) := by decide +kernel
theorem dX11_fault_4 : decode cX11_fault 4 = .ok (.getfield 144, 3) := by decide +kernel
theorem dX11_fault_7 : decode cX11_fault 7 = .ok (.ireturn, 1) := by decide +kernel
def bX11_fault_0 (rc : Nat → ox_K) : ox_K := o_al 0 (o_getr 11 1 (o_geti 3 3 (o_iret)))
section SX11_fault
variable {p : Program} {l : Launch} {e : Env} {R : Room} {s : State} {m : MethodId} {args : Array Value} {below : List Frame} {meth : Method} {c : Code} {g : ox_G} {c0 t0 dp  : Nat} {rc : Nat → ox_K}
set_option maxRecDepth 100000 in
theorem kX11_fault_0 (C : ox_C p s m args c g 1 cX11_fault RX11) (hr : meth.sig.returnType = (some .int)) (hlk : meth.locks = false) (hnm : meth.name = "fault") (hR : R.frames = dp ∧ R.locals = 60 * dp) (hrc : ∀ b, ox_S p l e R s m args below meth c g 1 c0 t0 (ox_QM g below args s c0 t0) b (rc b)) : ox_S p l e R s m args below meth c g 1 c0 t0 (ox_QM g below args s c0 t0) 0 (bX11_fault_0 rc) := by
  refine s_aload_n (pc := 0) C dX11_fault_0 rfl ?_
  refine s_getr (pc := 1) (j := 1) (q := (RX11, TX11, 13)) C rfl (by decide) rfl wF_X11_18 dX11_fault_1 ?_
  refine s_geti (pc := 4) (j := 3) (q := (RX3, TX3, 6)) C rfl (by decide) rfl wF_X11_144 dX11_fault_4 ?_
  exact s_iret (pc := 7) C hr hlk dX11_fault_7
end SX11_fault
def bsX11_fault (b : Nat) (rc : Nat → ox_K) : ox_K := if b = 0 then bX11_fault_0 rc else ox_no
theorem mX11_fault {dp  : Nat} {f : ox_F} (hf : ∀ as h r, f as h = some r → ox_cs as ≤ 1 ∧ ox_le h r.2 ∧ ∃ n, ox_run (bsX11_fault) n 0 (lv_args 0 as) [] h = some r) : ox_Sem yX11_fault cX11_fault 1 (some .int) dp f := by
  refine ox_meth (bs := bsX11_fault) (by decide) hf ?_
  intro p l e R s m args below meth c g c0 t0 C hr hlk hnm hR rc hrc b
  unfold bsX11_fault
  refine ox_br (kX11_fault_0 C hr hlk hnm hR hrc) ?_
  exact s_no
theorem dX11_temper_0 : decode cX11_temper 0 = .ok (.aload_n 0, 1) := by decide +kernel
theorem dX11_temper_1 : decode cX11_temper 1 = .ok (.iload_n 1, 1) := by decide +kernel
theorem dX11_temper_2 : decode cX11_temper 2 = .ok (.invokevirtual 147, 3) := by decide +kernel
theorem dX11_temper_5 : decode cX11_temper 5 = .ok (.ifCond .eq 34, 3) := by decide +kernel
theorem dX11_temper_8 : decode cX11_temper 8 = .ok (.iload_n 2, 1) := by decide +kernel
theorem dX11_temper_9 : decode cX11_temper 9 = .ok (.iconst 0, 1) := by decide +kernel
theorem dX11_temper_10 : decode cX11_temper 10 = .ok (.bipush 60, 2) := by decide +kernel
theorem dX11_temper_12 : decode cX11_temper 12 = .ok (.invokestatic 69, 3) := by decide +kernel
theorem dX11_temper_15 : decode cX11_temper 15 = .ok (.ifCond .eq 24, 3) := by decide +kernel
theorem dX11_temper_18 : decode cX11_temper 18 = .ok (.iload_n 3, 1) := by decide +kernel
theorem dX11_temper_19 : decode cX11_temper 19 = .ok (.iconst 0, 1) := by decide +kernel
theorem dX11_temper_20 : decode cX11_temper 20 = .ok (.sipush 999, 3) := by decide +kernel
theorem dX11_temper_23 : decode cX11_temper 23 = .ok (.invokestatic 69, 3) := by decide +kernel
theorem dX11_temper_26 : decode cX11_temper 26 = .ok (.ifCond .eq 13, 3) := by decide +kernel
theorem dX11_temper_29 : decode cX11_temper 29 = .ok (.iload 4, 2) := by decide +kernel
theorem dX11_temper_31 : decode cX11_temper 31 = .ok (.iconst 0, 1) := by decide +kernel
theorem dX11_temper_32 : decode cX11_temper 32 = .ok (.iconst 3, 1) := by decide +kernel
theorem dX11_temper_33 : decode cX11_temper 33 = .ok (.invokestatic 69, 3) := by decide +kernel
theorem dX11_temper_36 : decode cX11_temper 36 = .ok (.ifCond .ne 6, 3) := by decide +kernel
theorem dX11_temper_39 : decode cX11_temper 39 = .ok (.ldc 73, 2) := by decide +kernel
theorem dX11_temper_41 : decode cX11_temper 41 = .ok (.ireturn, 1) := by decide +kernel
theorem dX11_temper_42 : decode cX11_temper 42 = .ok (.aload_n 0, 1) := by decide +kernel
theorem dX11_temper_43 : decode cX11_temper 43 = .ok (.getfield 25, 3) := by decide +kernel
theorem dX11_temper_46 : decode cX11_temper 46 = .ok (.iload_n 2, 1) := by decide +kernel
theorem dX11_temper_47 : decode cX11_temper 47 = .ok (.iload_n 3, 1) := by decide +kernel
theorem dX11_temper_48 : decode cX11_temper 48 = .ok (.invokevirtual 150, 3) := by decide +kernel
theorem dX11_temper_51 : decode cX11_temper 51 = .ok (.aload_n 0, 1) := by decide +kernel
theorem dX11_temper_52 : decode cX11_temper 52 = .ok (.getfield 25, 3) := by decide +kernel
theorem dX11_temper_55 : decode cX11_temper 55 = .ok (.aload_n 0, 1) := by decide +kernel
theorem dX11_temper_56 : decode cX11_temper 56 = .ok (.getfield 18, 3) := by decide +kernel
theorem dX11_temper_59 : decode cX11_temper 59 = .ok (.getfield 151, 3) := by decide +kernel
theorem dX11_temper_62 : decode cX11_temper 62 = .ok (.iload_n 1, 1) := by decide +kernel
theorem dX11_temper_63 : decode cX11_temper 63 = .ok (.aaload, 1) := by decide +kernel
theorem dX11_temper_64 : decode cX11_temper 64 = .ok (.invokevirtual 155, 3) := by decide +kernel
theorem dX11_temper_67 : decode cX11_temper 67 = .ok (.iload 4, 2) := by decide +kernel
theorem dX11_temper_69 : decode cX11_temper 69 = .ok (.tableswitch 51 0 2 #[27, 35, 43], 27) := by decide +kernel
theorem dX11_temper_96 : decode cX11_temper 96 = .ok (.aload_n 0, 1) := by decide +kernel
theorem dX11_temper_97 : decode cX11_temper 97 = .ok (.getfield 25, 3) := by decide +kernel
theorem dX11_temper_100 : decode cX11_temper 100 = .ok (.getfield 159, 3) := by decide +kernel
theorem dX11_temper_103 : decode cX11_temper 103 = .ok (.ireturn, 1) := by decide +kernel
theorem dX11_temper_104 : decode cX11_temper 104 = .ok (.aload_n 0, 1) := by decide +kernel
theorem dX11_temper_105 : decode cX11_temper 105 = .ok (.getfield 25, 3) := by decide +kernel
theorem dX11_temper_108 : decode cX11_temper 108 = .ok (.getfield 162, 3) := by decide +kernel
theorem dX11_temper_111 : decode cX11_temper 111 = .ok (.ireturn, 1) := by decide +kernel
theorem dX11_temper_112 : decode cX11_temper 112 = .ok (.aload_n 0, 1) := by decide +kernel
theorem dX11_temper_113 : decode cX11_temper 113 = .ok (.getfield 25, 3) := by decide +kernel
theorem dX11_temper_116 : decode cX11_temper 116 = .ok (.invokevirtual 165, 3) := by decide +kernel
theorem dX11_temper_119 : decode cX11_temper 119 = .ok (.ireturn, 1) := by decide +kernel
theorem dX11_temper_120 : decode cX11_temper 120 = .ok (.aload_n 0, 1) := by decide +kernel
theorem dX11_temper_121 : decode cX11_temper 121 = .ok (.getfield 25, 3) := by decide +kernel
theorem dX11_temper_124 : decode cX11_temper 124 = .ok (.invokevirtual 169, 3) := by decide +kernel
theorem dX11_temper_127 : decode cX11_temper 127 = .ok (.ireturn, 1) := by decide +kernel
def bX11_temper_0 (f1 f2 f3 f4 f5 f6 : ox_F) (rc : Nat → ox_K) : ox_K := o_al 0 (o_il 1 (o_cv f1 11 1 (o_ifeq (rc 39) (o_il 2 (o_ic (0) (o_ic (60) (o_ct f2 3 (o_ifeq (rc 39) (o_il 3 (o_ic (0) (o_ic (999) (o_ct f2 3 (o_ifeq (rc 39) (o_il 4 (o_ic (0) (o_ic (3) (o_ct f2 3 (o_ifne (rc 42) (rc 39)))))))))))))))))))
def bX11_temper_39 (f1 f2 f3 f4 f5 f6 : ox_F) (rc : Nat → ox_K) : ox_K := o_ic (-1000001) (o_iret)
def bX11_temper_42 (f1 f2 f3 f4 f5 f6 : ox_F) (rc : Nat → ox_K) : ox_K := o_al 0 (o_getr 11 2 (o_il 2 (o_il 3 (o_cv f3 4 2 (o_al 0 (o_getr 11 2 (o_al 0 (o_getr 11 1 (o_getr 3 1 (o_il 1 (o_aa 6 (o_cv f4 4 1 (o_il 4 (o_tsw 0 [rc 96, rc 104, rc 112] (rc 120)))))))))))))))
def bX11_temper_96 (f1 f2 f3 f4 f5 f6 : ox_F) (rc : Nat → ox_K) : ox_K := o_al 0 (o_getr 11 2 (o_geti 4 0 (o_iret)))
def bX11_temper_104 (f1 f2 f3 f4 f5 f6 : ox_F) (rc : Nat → ox_K) : ox_K := o_al 0 (o_getr 11 2 (o_geti 4 1 (o_iret)))
def bX11_temper_112 (f1 f2 f3 f4 f5 f6 : ox_F) (rc : Nat → ox_K) : ox_K := o_al 0 (o_getr 11 2 (o_cv f5 4 0 (o_iret)))
def bX11_temper_120 (f1 f2 f3 f4 f5 f6 : ox_F) (rc : Nat → ox_K) : ox_K := o_al 0 (o_getr 11 2 (o_cv f6 4 0 (o_iret)))
section SX11_temper
variable {p : Program} {l : Launch} {e : Env} {R : Room} {s : State} {m : MethodId} {args : Array Value} {below : List Frame} {meth : Method} {c : Code} {g : ox_G} {c0 t0 dp d1 d2 d3 d4 d5 d6 : Nat} {rc : Nat → ox_K} {f1 f2 f3 f4 f5 f6 : ox_F}
set_option maxRecDepth 100000 in
theorem kX11_temper_0 (C : ox_C p s m args c g 5 cX11_temper RX11) (hr : meth.sig.returnType = (some .int)) (hlk : meth.locks = false) (hnm : meth.name = "temper") (hR : R.frames = dp ∧ R.locals = 60 * dp) (h1 : ox_Sem yX11_isRecipe cX11_isRecipe 2 (some .boolean) d1 f1) (e1 : d1 + 1 ≤ dp) (h2 : ox_Sem yX11_within cX11_within 3 (some .boolean) d2 f2) (e2 : d2 + 1 ≤ dp) (h3 : ox_Sem yX4_begin cX4_begin 3 none d3 f3) (e3 : d3 + 1 ≤ dp) (h4 : ox_Sem yX4_goThrough cX4_goThrough 4 none d4 f4) (e4 : d4 + 1 ≤ dp) (h5 : ox_Sem yX4_state cX4_state 1 (some .int) d5 f5) (e5 : d5 + 1 ≤ dp) (h6 : ox_Sem yX4_thickness cX4_thickness 1 (some .int) d6 f6) (e6 : d6 + 1 ≤ dp) (hrc : ∀ b, ox_S p l e R s m args below meth c g 5 c0 t0 (ox_QM g below args s c0 t0) b (rc b)) : ox_S p l e R s m args below meth c g 5 c0 t0 (ox_QM g below args s c0 t0) 0 (bX11_temper_0 f1 f2 f3 f4 f5 f6 rc) := by
  refine s_aload_n (pc := 0) C dX11_temper_0 rfl ?_
  refine s_iload_n (pc := 1) C dX11_temper_1 rfl ?_
  refine s_cv (pc := 2) (q := (RX11, TX11, 13)) C h1 rfl wM_X11_147 wI_X11_isRecipe wS_X11_isRecipe wN_X11 wC_X11_isRecipe (by decide +kernel) (ox_lv hR e1 (by decide)) dX11_temper_2 ?_
  refine s_ifeq (pc := 5) 39 C dX11_temper_5 (by decide) (hrc 39) ?_
  refine s_iload_n (pc := 8) C dX11_temper_8 rfl ?_
  refine s_iconst (pc := 9) C dX11_temper_9 (by decide) ?_
  refine s_bipush (pc := 10) C dX11_temper_10 (by decide) ?_
  refine s_ct (pc := 12) C h2 wM_X11_69 wT_X11_within wN_X11 wC_X11_within (by decide +kernel) (ox_lv hR e2 (by decide)) dX11_temper_12 ?_
  refine s_ifeq (pc := 15) 39 C dX11_temper_15 (by decide) (hrc 39) ?_
  refine s_iload_n (pc := 18) C dX11_temper_18 rfl ?_
  refine s_iconst (pc := 19) C dX11_temper_19 (by decide) ?_
  refine s_sipush (pc := 20) C dX11_temper_20 (by decide) ?_
  refine s_ct (pc := 23) C h2 wM_X11_69 wT_X11_within wN_X11 wC_X11_within (by decide +kernel) (ox_lv hR e2 (by decide)) dX11_temper_23 ?_
  refine s_ifeq (pc := 26) 39 C dX11_temper_26 (by decide) (hrc 39) ?_
  refine s_iload (pc := 29) C dX11_temper_29 ?_
  refine s_iconst (pc := 31) C dX11_temper_31 (by decide) ?_
  refine s_iconst (pc := 32) C dX11_temper_32 (by decide) ?_
  refine s_ct (pc := 33) C h2 wM_X11_69 wT_X11_within wN_X11 wC_X11_within (by decide +kernel) (ox_lv hR e2 (by decide)) dX11_temper_33 ?_
  refine s_ifne (pc := 36) 42 C dX11_temper_36 (by decide) (hrc 42) ?_
  exact hrc 39
set_option maxRecDepth 100000 in
theorem kX11_temper_39 (C : ox_C p s m args c g 5 cX11_temper RX11) (hr : meth.sig.returnType = (some .int)) (hlk : meth.locks = false) (hnm : meth.name = "temper") (hR : R.frames = dp ∧ R.locals = 60 * dp) (h1 : ox_Sem yX11_isRecipe cX11_isRecipe 2 (some .boolean) d1 f1) (e1 : d1 + 1 ≤ dp) (h2 : ox_Sem yX11_within cX11_within 3 (some .boolean) d2 f2) (e2 : d2 + 1 ≤ dp) (h3 : ox_Sem yX4_begin cX4_begin 3 none d3 f3) (e3 : d3 + 1 ≤ dp) (h4 : ox_Sem yX4_goThrough cX4_goThrough 4 none d4 f4) (e4 : d4 + 1 ≤ dp) (h5 : ox_Sem yX4_state cX4_state 1 (some .int) d5 f5) (e5 : d5 + 1 ≤ dp) (h6 : ox_Sem yX4_thickness cX4_thickness 1 (some .int) d6 f6) (e6 : d6 + 1 ≤ dp) (hrc : ∀ b, ox_S p l e R s m args below meth c g 5 c0 t0 (ox_QM g below args s c0 t0) b (rc b)) : ox_S p l e R s m args below meth c g 5 c0 t0 (ox_QM g below args s c0 t0) 39 (bX11_temper_39 f1 f2 f3 f4 f5 f6 rc) := by
  refine s_ldc (pc := 39) C wK_X11_73 dX11_temper_39 ?_
  exact s_iret (pc := 41) C hr hlk dX11_temper_41
set_option maxRecDepth 100000 in
theorem kX11_temper_42 (C : ox_C p s m args c g 5 cX11_temper RX11) (hr : meth.sig.returnType = (some .int)) (hlk : meth.locks = false) (hnm : meth.name = "temper") (hR : R.frames = dp ∧ R.locals = 60 * dp) (h1 : ox_Sem yX11_isRecipe cX11_isRecipe 2 (some .boolean) d1 f1) (e1 : d1 + 1 ≤ dp) (h2 : ox_Sem yX11_within cX11_within 3 (some .boolean) d2 f2) (e2 : d2 + 1 ≤ dp) (h3 : ox_Sem yX4_begin cX4_begin 3 none d3 f3) (e3 : d3 + 1 ≤ dp) (h4 : ox_Sem yX4_goThrough cX4_goThrough 4 none d4 f4) (e4 : d4 + 1 ≤ dp) (h5 : ox_Sem yX4_state cX4_state 1 (some .int) d5 f5) (e5 : d5 + 1 ≤ dp) (h6 : ox_Sem yX4_thickness cX4_thickness 1 (some .int) d6 f6) (e6 : d6 + 1 ≤ dp) (hrc : ∀ b, ox_S p l e R s m args below meth c g 5 c0 t0 (ox_QM g below args s c0 t0) b (rc b)) : ox_S p l e R s m args below meth c g 5 c0 t0 (ox_QM g below args s c0 t0) 42 (bX11_temper_42 f1 f2 f3 f4 f5 f6 rc) := by
  refine s_aload_n (pc := 42) C dX11_temper_42 rfl ?_
  refine s_getr (pc := 43) (j := 2) (q := (RX11, TX11, 13)) C rfl (by decide) rfl wF_X11_25 dX11_temper_43 ?_
  refine s_iload_n (pc := 46) C dX11_temper_46 rfl ?_
  refine s_iload_n (pc := 47) C dX11_temper_47 rfl ?_
  refine s_cv (pc := 48) (q := (RX4, TX4, 2)) C h3 rfl wM_X11_150 wI_X4_begin wS_X4_begin wN_X4 wC_X4_begin (by decide +kernel) (ox_lv hR e3 (by decide)) dX11_temper_48 ?_
  refine s_aload_n (pc := 51) C dX11_temper_51 rfl ?_
  refine s_getr (pc := 52) (j := 2) (q := (RX11, TX11, 13)) C rfl (by decide) rfl wF_X11_25 dX11_temper_52 ?_
  refine s_aload_n (pc := 55) C dX11_temper_55 rfl ?_
  refine s_getr (pc := 56) (j := 1) (q := (RX11, TX11, 13)) C rfl (by decide) rfl wF_X11_18 dX11_temper_56 ?_
  refine s_getr (pc := 59) (j := 1) (q := (RX3, TX3, 6)) C rfl (by decide) rfl wF_X11_151 dX11_temper_59 ?_
  refine s_iload_n (pc := 62) C dX11_temper_62 rfl ?_
  refine s_aa (pc := 63) (q := (RX6, TX6, 5)) 5 C rfl dX11_temper_63 ?_
  refine s_cv (pc := 64) (q := (RX4, TX4, 2)) C h4 rfl wM_X11_155 wI_X4_goThrough wS_X4_goThrough wN_X4 wC_X4_goThrough (by decide +kernel) (ox_lv hR e4 (by decide)) dX11_temper_64 ?_
  refine s_iload (pc := 67) C dX11_temper_67 ?_
  exact s_tsw (pc := 69) 120 [96, 104, 112] C dX11_temper_69 (by decide) rfl (by decide +kernel) (hrc 120) (ox_ts hrc [96, 104, 112]) rfl
set_option maxRecDepth 100000 in
theorem kX11_temper_96 (C : ox_C p s m args c g 5 cX11_temper RX11) (hr : meth.sig.returnType = (some .int)) (hlk : meth.locks = false) (hnm : meth.name = "temper") (hR : R.frames = dp ∧ R.locals = 60 * dp) (h1 : ox_Sem yX11_isRecipe cX11_isRecipe 2 (some .boolean) d1 f1) (e1 : d1 + 1 ≤ dp) (h2 : ox_Sem yX11_within cX11_within 3 (some .boolean) d2 f2) (e2 : d2 + 1 ≤ dp) (h3 : ox_Sem yX4_begin cX4_begin 3 none d3 f3) (e3 : d3 + 1 ≤ dp) (h4 : ox_Sem yX4_goThrough cX4_goThrough 4 none d4 f4) (e4 : d4 + 1 ≤ dp) (h5 : ox_Sem yX4_state cX4_state 1 (some .int) d5 f5) (e5 : d5 + 1 ≤ dp) (h6 : ox_Sem yX4_thickness cX4_thickness 1 (some .int) d6 f6) (e6 : d6 + 1 ≤ dp) (hrc : ∀ b, ox_S p l e R s m args below meth c g 5 c0 t0 (ox_QM g below args s c0 t0) b (rc b)) : ox_S p l e R s m args below meth c g 5 c0 t0 (ox_QM g below args s c0 t0) 96 (bX11_temper_96 f1 f2 f3 f4 f5 f6 rc) := by
  refine s_aload_n (pc := 96) C dX11_temper_96 rfl ?_
  refine s_getr (pc := 97) (j := 2) (q := (RX11, TX11, 13)) C rfl (by decide) rfl wF_X11_25 dX11_temper_97 ?_
  refine s_geti (pc := 100) (j := 0) (q := (RX4, TX4, 2)) C rfl (by decide) rfl wF_X11_159 dX11_temper_100 ?_
  exact s_iret (pc := 103) C hr hlk dX11_temper_103
set_option maxRecDepth 100000 in
theorem kX11_temper_104 (C : ox_C p s m args c g 5 cX11_temper RX11) (hr : meth.sig.returnType = (some .int)) (hlk : meth.locks = false) (hnm : meth.name = "temper") (hR : R.frames = dp ∧ R.locals = 60 * dp) (h1 : ox_Sem yX11_isRecipe cX11_isRecipe 2 (some .boolean) d1 f1) (e1 : d1 + 1 ≤ dp) (h2 : ox_Sem yX11_within cX11_within 3 (some .boolean) d2 f2) (e2 : d2 + 1 ≤ dp) (h3 : ox_Sem yX4_begin cX4_begin 3 none d3 f3) (e3 : d3 + 1 ≤ dp) (h4 : ox_Sem yX4_goThrough cX4_goThrough 4 none d4 f4) (e4 : d4 + 1 ≤ dp) (h5 : ox_Sem yX4_state cX4_state 1 (some .int) d5 f5) (e5 : d5 + 1 ≤ dp) (h6 : ox_Sem yX4_thickness cX4_thickness 1 (some .int) d6 f6) (e6 : d6 + 1 ≤ dp) (hrc : ∀ b, ox_S p l e R s m args below meth c g 5 c0 t0 (ox_QM g below args s c0 t0) b (rc b)) : ox_S p l e R s m args below meth c g 5 c0 t0 (ox_QM g below args s c0 t0) 104 (bX11_temper_104 f1 f2 f3 f4 f5 f6 rc) := by
  refine s_aload_n (pc := 104) C dX11_temper_104 rfl ?_
  refine s_getr (pc := 105) (j := 2) (q := (RX11, TX11, 13)) C rfl (by decide) rfl wF_X11_25 dX11_temper_105 ?_
  refine s_geti (pc := 108) (j := 1) (q := (RX4, TX4, 2)) C rfl (by decide) rfl wF_X11_162 dX11_temper_108 ?_
  exact s_iret (pc := 111) C hr hlk dX11_temper_111
set_option maxRecDepth 100000 in
theorem kX11_temper_112 (C : ox_C p s m args c g 5 cX11_temper RX11) (hr : meth.sig.returnType = (some .int)) (hlk : meth.locks = false) (hnm : meth.name = "temper") (hR : R.frames = dp ∧ R.locals = 60 * dp) (h1 : ox_Sem yX11_isRecipe cX11_isRecipe 2 (some .boolean) d1 f1) (e1 : d1 + 1 ≤ dp) (h2 : ox_Sem yX11_within cX11_within 3 (some .boolean) d2 f2) (e2 : d2 + 1 ≤ dp) (h3 : ox_Sem yX4_begin cX4_begin 3 none d3 f3) (e3 : d3 + 1 ≤ dp) (h4 : ox_Sem yX4_goThrough cX4_goThrough 4 none d4 f4) (e4 : d4 + 1 ≤ dp) (h5 : ox_Sem yX4_state cX4_state 1 (some .int) d5 f5) (e5 : d5 + 1 ≤ dp) (h6 : ox_Sem yX4_thickness cX4_thickness 1 (some .int) d6 f6) (e6 : d6 + 1 ≤ dp) (hrc : ∀ b, ox_S p l e R s m args below meth c g 5 c0 t0 (ox_QM g below args s c0 t0) b (rc b)) : ox_S p l e R s m args below meth c g 5 c0 t0 (ox_QM g below args s c0 t0) 112 (bX11_temper_112 f1 f2 f3 f4 f5 f6 rc) := by
  refine s_aload_n (pc := 112) C dX11_temper_112 rfl ?_
  refine s_getr (pc := 113) (j := 2) (q := (RX11, TX11, 13)) C rfl (by decide) rfl wF_X11_25 dX11_temper_113 ?_
  refine s_cv (pc := 116) (q := (RX4, TX4, 2)) C h5 rfl wM_X11_165 wI_X4_state wS_X4_state wN_X4 wC_X4_state (by decide +kernel) (ox_lv hR e5 (by decide)) dX11_temper_116 ?_
  exact s_iret (pc := 119) C hr hlk dX11_temper_119
set_option maxRecDepth 100000 in
theorem kX11_temper_120 (C : ox_C p s m args c g 5 cX11_temper RX11) (hr : meth.sig.returnType = (some .int)) (hlk : meth.locks = false) (hnm : meth.name = "temper") (hR : R.frames = dp ∧ R.locals = 60 * dp) (h1 : ox_Sem yX11_isRecipe cX11_isRecipe 2 (some .boolean) d1 f1) (e1 : d1 + 1 ≤ dp) (h2 : ox_Sem yX11_within cX11_within 3 (some .boolean) d2 f2) (e2 : d2 + 1 ≤ dp) (h3 : ox_Sem yX4_begin cX4_begin 3 none d3 f3) (e3 : d3 + 1 ≤ dp) (h4 : ox_Sem yX4_goThrough cX4_goThrough 4 none d4 f4) (e4 : d4 + 1 ≤ dp) (h5 : ox_Sem yX4_state cX4_state 1 (some .int) d5 f5) (e5 : d5 + 1 ≤ dp) (h6 : ox_Sem yX4_thickness cX4_thickness 1 (some .int) d6 f6) (e6 : d6 + 1 ≤ dp) (hrc : ∀ b, ox_S p l e R s m args below meth c g 5 c0 t0 (ox_QM g below args s c0 t0) b (rc b)) : ox_S p l e R s m args below meth c g 5 c0 t0 (ox_QM g below args s c0 t0) 120 (bX11_temper_120 f1 f2 f3 f4 f5 f6 rc) := by
  refine s_aload_n (pc := 120) C dX11_temper_120 rfl ?_
  refine s_getr (pc := 121) (j := 2) (q := (RX11, TX11, 13)) C rfl (by decide) rfl wF_X11_25 dX11_temper_121 ?_
  refine s_cv (pc := 124) (q := (RX4, TX4, 2)) C h6 rfl wM_X11_169 wI_X4_thickness wS_X4_thickness wN_X4 wC_X4_thickness (by decide +kernel) (ox_lv hR e6 (by decide)) dX11_temper_124 ?_
  exact s_iret (pc := 127) C hr hlk dX11_temper_127
end SX11_temper
def bsX11_temper (f1 f2 f3 f4 f5 f6 : ox_F) (b : Nat) (rc : Nat → ox_K) : ox_K := if b = 0 then bX11_temper_0 f1 f2 f3 f4 f5 f6 rc else if b = 39 then bX11_temper_39 f1 f2 f3 f4 f5 f6 rc else if b = 42 then bX11_temper_42 f1 f2 f3 f4 f5 f6 rc else if b = 96 then bX11_temper_96 f1 f2 f3 f4 f5 f6 rc else if b = 104 then bX11_temper_104 f1 f2 f3 f4 f5 f6 rc else if b = 112 then bX11_temper_112 f1 f2 f3 f4 f5 f6 rc else if b = 120 then bX11_temper_120 f1 f2 f3 f4 f5 f6 rc else ox_no
theorem mX11_temper {dp d1 d2 d3 d4 d5 d6 : Nat} {f1 f2 f3 f4 f5 f6 f : ox_F} (h1 : ox_Sem yX11_isRecipe cX11_isRecipe 2 (some .boolean) d1 f1) (e1 : d1 + 1 ≤ dp) (h2 : ox_Sem yX11_within cX11_within 3 (some .boolean) d2 f2) (e2 : d2 + 1 ≤ dp) (h3 : ox_Sem yX4_begin cX4_begin 3 none d3 f3) (e3 : d3 + 1 ≤ dp) (h4 : ox_Sem yX4_goThrough cX4_goThrough 4 none d4 f4) (e4 : d4 + 1 ≤ dp) (h5 : ox_Sem yX4_state cX4_state 1 (some .int) d5 f5) (e5 : d5 + 1 ≤ dp) (h6 : ox_Sem yX4_thickness cX4_thickness 1 (some .int) d6 f6) (e6 : d6 + 1 ≤ dp) (hf : ∀ as h r, f as h = some r → ox_cs as ≤ 5 ∧ ox_le h r.2 ∧ ∃ n, ox_run (bsX11_temper f1 f2 f3 f4 f5 f6) n 0 (lv_args 0 as) [] h = some r) : ox_Sem yX11_temper cX11_temper 5 (some .int) dp f := by
  refine ox_meth (bs := bsX11_temper f1 f2 f3 f4 f5 f6) (by decide) hf ?_
  intro p l e R s m args below meth c g c0 t0 C hr hlk hnm hR rc hrc b
  unfold bsX11_temper
  refine ox_br (kX11_temper_0 C hr hlk hnm hR h1 e1 h2 e2 h3 e3 h4 e4 h5 e5 h6 e6 hrc) ?_
  refine ox_br (kX11_temper_39 C hr hlk hnm hR h1 e1 h2 e2 h3 e3 h4 e4 h5 e5 h6 e6 hrc) ?_
  refine ox_br (kX11_temper_42 C hr hlk hnm hR h1 e1 h2 e2 h3 e3 h4 e4 h5 e5 h6 e6 hrc) ?_
  refine ox_br (kX11_temper_96 C hr hlk hnm hR h1 e1 h2 e2 h3 e3 h4 e4 h5 e5 h6 e6 hrc) ?_
  refine ox_br (kX11_temper_104 C hr hlk hnm hR h1 e1 h2 e2 h3 e3 h4 e4 h5 e5 h6 e6 hrc) ?_
  refine ox_br (kX11_temper_112 C hr hlk hnm hR h1 e1 h2 e2 h3 e3 h4 e4 h5 e5 h6 e6 hrc) ?_
  refine ox_br (kX11_temper_120 C hr hlk hnm hR h1 e1 h2 e2 h3 e3 h4 e4 h5 e5 h6 e6 hrc) ?_
  exact s_no
theorem dX11_fill_0 : decode cX11_fill 0 = .ok (.iload_n 1, 1) := by decide +kernel
theorem dX11_fill_1 : decode cX11_fill 1 = .ok (.invokestatic 172, 3) := by decide +kernel
theorem dX11_fill_4 : decode cX11_fill 4 = .ok (.ifCond .eq 40, 3) := by decide +kernel
theorem dX11_fill_7 : decode cX11_fill 7 = .ok (.aload_n 0, 1) := by decide +kernel
theorem dX11_fill_8 : decode cX11_fill 8 = .ok (.iload_n 2, 1) := by decide +kernel
theorem dX11_fill_9 : decode cX11_fill 9 = .ok (.invokevirtual 147, 3) := by decide +kernel
theorem dX11_fill_12 : decode cX11_fill 12 = .ok (.ifCond .eq 32, 3) := by decide +kernel
theorem dX11_fill_15 : decode cX11_fill 15 = .ok (.iload_n 3, 1) := by decide +kernel
theorem dX11_fill_16 : decode cX11_fill 16 = .ok (.iconst 1, 1) := by decide +kernel
theorem dX11_fill_17 : decode cX11_fill 17 = .ok (.sipush 20000, 3) := by decide +kernel
theorem dX11_fill_20 : decode cX11_fill 20 = .ok (.invokestatic 69, 3) := by decide +kernel
theorem dX11_fill_23 : decode cX11_fill 23 = .ok (.ifCond .eq 21, 3) := by decide +kernel
theorem dX11_fill_26 : decode cX11_fill 26 = .ok (.iload 4, 2) := by decide +kernel
theorem dX11_fill_28 : decode cX11_fill 28 = .ok (.iconst 0, 1) := by decide +kernel
theorem dX11_fill_29 : decode cX11_fill 29 = .ok (.iload_n 3, 1) := by decide +kernel
theorem dX11_fill_30 : decode cX11_fill 30 = .ok (.invokestatic 69, 3) := by decide +kernel
theorem dX11_fill_33 : decode cX11_fill 33 = .ok (.ifCond .eq 11, 3) := by decide +kernel
theorem dX11_fill_36 : decode cX11_fill 36 = .ok (.iload 5, 2) := by decide +kernel
theorem dX11_fill_38 : decode cX11_fill 38 = .ok (.invokestatic 175, 3) := by decide +kernel
theorem dX11_fill_41 : decode cX11_fill 41 = .ok (.ifCond .ne 6, 3) := by decide +kernel
theorem dX11_fill_44 : decode cX11_fill 44 = .ok (.ldc 73, 2) := by decide +kernel
theorem dX11_fill_46 : decode cX11_fill 46 = .ok (.ireturn, 1) := by decide +kernel
theorem dX11_fill_47 : decode cX11_fill 47 = .ok (.aload_n 0, 1) := by decide +kernel
theorem dX11_fill_48 : decode cX11_fill 48 = .ok (.getfield 31, 3) := by decide +kernel
theorem dX11_fill_51 : decode cX11_fill 51 = .ok (.iload_n 1, 1) := by decide +kernel
theorem dX11_fill_52 : decode cX11_fill 52 = .ok (.aaload, 1) := by decide +kernel
theorem dX11_fill_53 : decode cX11_fill 53 = .ok (.astore 6, 2) := by decide +kernel
theorem dX11_fill_55 : decode cX11_fill 55 = .ok (.aload 6, 2) := by decide +kernel
theorem dX11_fill_57 : decode cX11_fill 57 = .ok (.invokevirtual 178, 3) := by decide +kernel
theorem dX11_fill_60 : decode cX11_fill 60 = .ok (.ifCond .ne 16, 3) := by decide +kernel
theorem dX11_fill_63 : decode cX11_fill 63 = .ok (.aload 6, 2) := by decide +kernel
theorem dX11_fill_65 : decode cX11_fill 65 = .ok (.getfield 181, 3) := by decide +kernel
theorem dX11_fill_68 : decode cX11_fill 68 = .ok (.iload_n 2, 1) := by decide +kernel
theorem dX11_fill_69 : decode cX11_fill 69 = .ok (.if_icmp .eq 7, 3) := by decide +kernel
theorem dX11_fill_72 : decode cX11_fill 72 = .ok (.iconst 1, 1) := by decide +kernel
theorem dX11_fill_73 : decode cX11_fill 73 = .ok (.goto 4, 3) := by decide +kernel
theorem dX11_fill_76 : decode cX11_fill 76 = .ok (.iconst 0, 1) := by decide +kernel
theorem dX11_fill_77 : decode cX11_fill 77 = .ok (.istore 7, 2) := by decide +kernel
theorem dX11_fill_79 : decode cX11_fill 79 = .ok (.aload 6, 2) := by decide +kernel
theorem dX11_fill_81 : decode cX11_fill 81 = .ok (.getfield 184, 3) := by decide +kernel
theorem dX11_fill_84 : decode cX11_fill 84 = .ok (.iload_n 3, 1) := by decide +kernel
theorem dX11_fill_85 : decode cX11_fill 85 = .ok (.iadd, 1) := by decide +kernel
theorem dX11_fill_86 : decode cX11_fill 86 = .ok (.istore 8, 2) := by decide +kernel
theorem dX11_fill_88 : decode cX11_fill 88 = .ok (.aload 6, 2) := by decide +kernel
theorem dX11_fill_90 : decode cX11_fill 90 = .ok (.getfield 187, 3) := by decide +kernel
theorem dX11_fill_93 : decode cX11_fill 93 = .ok (.iload 4, 2) := by decide +kernel
theorem dX11_fill_95 : decode cX11_fill 95 = .ok (.iadd, 1) := by decide +kernel
theorem dX11_fill_96 : decode cX11_fill 96 = .ok (.bipush 100, 2) := by decide +kernel
theorem dX11_fill_98 : decode cX11_fill 98 = .ok (.imul, 1) := by decide +kernel
theorem dX11_fill_99 : decode cX11_fill 99 = .ok (.aload_n 0, 1) := by decide +kernel
theorem dX11_fill_100 : decode cX11_fill 100 = .ok (.getfield 18, 3) := by decide +kernel
theorem dX11_fill_103 : decode cX11_fill 103 = .ok (.getfield 151, 3) := by decide +kernel
theorem dX11_fill_106 : decode cX11_fill 106 = .ok (.iload_n 2, 1) := by decide +kernel
theorem dX11_fill_107 : decode cX11_fill 107 = .ok (.aaload, 1) := by decide +kernel
theorem dX11_fill_108 : decode cX11_fill 108 = .ok (.getfield 190, 3) := by decide +kernel
theorem dX11_fill_111 : decode cX11_fill 111 = .ok (.iload 8, 2) := by decide +kernel
theorem dX11_fill_113 : decode cX11_fill 113 = .ok (.imul, 1) := by decide +kernel
theorem dX11_fill_114 : decode cX11_fill 114 = .ok (.if_icmp .le 7, 3) := by decide +kernel
theorem dX11_fill_117 : decode cX11_fill 117 = .ok (.iconst 1, 1) := by decide +kernel
theorem dX11_fill_118 : decode cX11_fill 118 = .ok (.goto 4, 3) := by decide +kernel
theorem dX11_fill_121 : decode cX11_fill 121 = .ok (.iconst 0, 1) := by decide +kernel
theorem dX11_fill_122 : decode cX11_fill 122 = .ok (.istore 9, 2) := by decide +kernel
theorem dX11_fill_124 : decode cX11_fill 124 = .ok (.iload 7, 2) := by decide +kernel
theorem dX11_fill_126 : decode cX11_fill 126 = .ok (.ifCond .ne 26, 3) := by decide +kernel
theorem dX11_fill_129 : decode cX11_fill 129 = .ok (.aload_n 0, 1) := by decide +kernel
theorem dX11_fill_130 : decode cX11_fill 130 = .ok (.getfield 35, 3) := by decide +kernel
theorem dX11_fill_133 : decode cX11_fill 133 = .ok (.iload_n 2, 1) := by decide +kernel
theorem dX11_fill_134 : decode cX11_fill 134 = .ok (.iaload, 1) := by decide +kernel
theorem dX11_fill_135 : decode cX11_fill 135 = .ok (.iload 4, 2) := by decide +kernel
theorem dX11_fill_137 : decode cX11_fill 137 = .ok (.if_icmp .lt 15, 3) := by decide +kernel
theorem dX11_fill_140 : decode cX11_fill 140 = .ok (.iload 9, 2) := by decide +kernel
theorem dX11_fill_142 : decode cX11_fill 142 = .ok (.ifCond .ne 10, 3) := by decide +kernel
theorem dX11_fill_145 : decode cX11_fill 145 = .ok (.iload 8, 2) := by decide +kernel
theorem dX11_fill_147 : decode cX11_fill 147 = .ok (.ldc 195, 2) := by decide +kernel
theorem dX11_fill_149 : decode cX11_fill 149 = .ok (.if_icmp .le 6, 3) := by decide +kernel
theorem dX11_fill_152 : decode cX11_fill 152 = .ok (.ldc 196, 2) := by decide +kernel
theorem dX11_fill_154 : decode cX11_fill 154 = .ok (.ireturn, 1) := by decide +kernel
theorem dX11_fill_155 : decode cX11_fill 155 = .ok (.aload 6, 2) := by decide +kernel
theorem dX11_fill_157 : decode cX11_fill 157 = .ok (.iload_n 2, 1) := by decide +kernel
theorem dX11_fill_158 : decode cX11_fill 158 = .ok (.iload_n 3, 1) := by decide +kernel
theorem dX11_fill_159 : decode cX11_fill 159 = .ok (.iload 4, 2) := by decide +kernel
theorem dX11_fill_161 : decode cX11_fill 161 = .ok (.iload 5, 2) := by decide +kernel
theorem dX11_fill_163 : decode cX11_fill 163 = .ok (.invokevirtual 197, 3) := by decide +kernel
theorem dX11_fill_166 : decode cX11_fill 166 = .ok (.aload_n 0, 1) := by decide +kernel
theorem dX11_fill_167 : decode cX11_fill 167 = .ok (.getfield 35, 3) := by decide +kernel
theorem dX11_fill_170 : decode cX11_fill 170 = .ok (.iload_n 2, 1) := by decide +kernel
theorem dX11_fill_171 : decode cX11_fill 171 = .ok (.dup2, 1) := by decide +kernel
theorem dX11_fill_172 : decode cX11_fill 172 = .ok (.iaload, 1) := by decide +kernel
theorem dX11_fill_173 : decode cX11_fill 173 = .ok (.iload 4, 2) := by decide +kernel
theorem dX11_fill_175 : decode cX11_fill 175 = .ok (.isub, 1) := by decide +kernel
theorem dX11_fill_176 : decode cX11_fill 176 = .ok (.iastore, 1) := by decide +kernel
theorem dX11_fill_177 : decode cX11_fill 177 = .ok (.aload_n 0, 1) := by decide +kernel
theorem dX11_fill_178 : decode cX11_fill 178 = .ok (.dup, 1) := by decide +kernel
theorem dX11_fill_179 : decode cX11_fill 179 = .ok (.getfield 201, 3) := by decide +kernel
theorem dX11_fill_182 : decode cX11_fill 182 = .ok (.iload_n 3, 1) := by decide +kernel
theorem dX11_fill_183 : decode cX11_fill 183 = .ok (.iadd, 1) := by decide +kernel
theorem dX11_fill_184 : decode cX11_fill 184 = .ok (.putfield 201, 3) := by decide +kernel
theorem dX11_fill_187 : decode cX11_fill 187 = .ok (.aload 6, 2) := by decide +kernel
theorem dX11_fill_189 : decode cX11_fill 189 = .ok (.getfield 184, 3) := by decide +kernel
theorem dX11_fill_192 : decode cX11_fill 192 = .ok (.ireturn, 1) := by decide +kernel
def bX11_fill_0 (f1 f2 f3 f4 f5 f6 : ox_F) (rc : Nat → ox_K) : ox_K := o_il 1 (o_ct f1 1 (o_ifeq (rc 44) (o_al 0 (o_il 2 (o_cv f2 11 1 (o_ifeq (rc 44) (o_il 3 (o_ic (1) (o_ic (20000) (o_ct f3 3 (o_ifeq (rc 44) (o_il 4 (o_ic (0) (o_il 3 (o_ct f3 3 (o_ifeq (rc 44) (o_il 5 (o_ct f4 1 (o_ifne (rc 47) (rc 44))))))))))))))))))))
def bX11_fill_44 (f1 f2 f3 f4 f5 f6 : ox_F) (rc : Nat → ox_K) : ox_K := o_ic (-1000001) (o_iret)
def bX11_fill_47 (f1 f2 f3 f4 f5 f6 : ox_F) (rc : Nat → ox_K) : ox_K := o_al 0 (o_getr 11 3 (o_il 1 (o_aa 9 (o_as 6 (o_al 6 (o_cv f5 9 0 (o_ifne (rc 76) (o_al 6 (o_geti 9 2 (o_il 2 (o_iceq (rc 76) (o_ic (1) (rc 77)))))))))))))
def bX11_fill_76 (f1 f2 f3 f4 f5 f6 : ox_F) (rc : Nat → ox_K) : ox_K := o_ic (0) (rc 77)
def bX11_fill_77 (f1 f2 f3 f4 f5 f6 : ox_F) (rc : Nat → ox_K) : ox_K := o_is 7 (o_al 6 (o_geti 9 0 (o_il 3 (o_iadd (o_is 8 (o_al 6 (o_geti 9 1 (o_il 4 (o_iadd (o_ic (100) (o_imul (o_al 0 (o_getr 11 1 (o_getr 3 1 (o_il 2 (o_aa 6 (o_geti 6 1 (o_il 8 (o_imul (o_icle (rc 121) (o_ic (1) (rc 122))))))))))))))))))))))
def bX11_fill_121 (f1 f2 f3 f4 f5 f6 : ox_F) (rc : Nat → ox_K) : ox_K := o_ic (0) (rc 122)
def bX11_fill_122 (f1 f2 f3 f4 f5 f6 : ox_F) (rc : Nat → ox_K) : ox_K := o_is 9 (o_il 7 (o_ifne (rc 152) (o_al 0 (o_getr 11 4 (o_il 2 (o_ia (o_il 4 (o_iclt (rc 152) (o_il 9 (o_ifne (rc 152) (o_il 8 (o_ic (99999) (o_icle (rc 155) (rc 152))))))))))))))
def bX11_fill_152 (f1 f2 f3 f4 f5 f6 : ox_F) (rc : Nat → ox_K) : ox_K := o_ic (-1000002) (o_iret)
def bX11_fill_155 (f1 f2 f3 f4 f5 f6 : ox_F) (rc : Nat → ox_K) : ox_K := o_al 6 (o_il 2 (o_il 3 (o_il 4 (o_il 5 (o_cv f6 9 4 (o_al 0 (o_getr 11 4 (o_il 2 (o_dup2 (o_ia (o_il 4 (o_isub (o_iast (o_al 0 (o_dup (o_geti 11 10 (o_il 3 (o_iadd (o_puti 11 10 (o_al 6 (o_geti 9 0 (o_iret))))))))))))))))))))))
section SX11_fill
variable {p : Program} {l : Launch} {e : Env} {R : Room} {s : State} {m : MethodId} {args : Array Value} {below : List Frame} {meth : Method} {c : Code} {g : ox_G} {c0 t0 dp d1 d2 d3 d4 d5 d6 : Nat} {rc : Nat → ox_K} {f1 f2 f3 f4 f5 f6 : ox_F}
set_option maxRecDepth 100000 in
theorem kX11_fill_0 (C : ox_C p s m args c g 10 cX11_fill RX11) (hr : meth.sig.returnType = (some .int)) (hlk : meth.locks = false) (hnm : meth.name = "fill") (hR : R.frames = dp ∧ R.locals = 60 * dp) (h1 : ox_Sem yX11_isTank cX11_isTank 1 (some .boolean) d1 f1) (e1 : d1 + 1 ≤ dp) (h2 : ox_Sem yX11_isRecipe cX11_isRecipe 2 (some .boolean) d2 f2) (e2 : d2 + 1 ≤ dp) (h3 : ox_Sem yX11_within cX11_within 3 (some .boolean) d3 f3) (e3 : d3 + 1 ≤ dp) (h4 : ox_Sem yX11_isLot cX11_isLot 1 (some .boolean) d4 f4) (e4 : d4 + 1 ≤ dp) (h5 : ox_Sem yX9_isEmpty cX9_isEmpty 1 (some .boolean) d5 f5) (e5 : d5 + 1 ≤ dp) (h6 : ox_Sem yX9_takeIn cX9_takeIn 5 none d6 f6) (e6 : d6 + 1 ≤ dp) (hrc : ∀ b, ox_S p l e R s m args below meth c g 10 c0 t0 (ox_QM g below args s c0 t0) b (rc b)) : ox_S p l e R s m args below meth c g 10 c0 t0 (ox_QM g below args s c0 t0) 0 (bX11_fill_0 f1 f2 f3 f4 f5 f6 rc) := by
  refine s_iload_n (pc := 0) C dX11_fill_0 rfl ?_
  refine s_ct (pc := 1) C h1 wM_X11_172 wT_X11_isTank wN_X11 wC_X11_isTank (by decide +kernel) (ox_lv hR e1 (by decide)) dX11_fill_1 ?_
  refine s_ifeq (pc := 4) 44 C dX11_fill_4 (by decide) (hrc 44) ?_
  refine s_aload_n (pc := 7) C dX11_fill_7 rfl ?_
  refine s_iload_n (pc := 8) C dX11_fill_8 rfl ?_
  refine s_cv (pc := 9) (q := (RX11, TX11, 13)) C h2 rfl wM_X11_147 wI_X11_isRecipe wS_X11_isRecipe wN_X11 wC_X11_isRecipe (by decide +kernel) (ox_lv hR e2 (by decide)) dX11_fill_9 ?_
  refine s_ifeq (pc := 12) 44 C dX11_fill_12 (by decide) (hrc 44) ?_
  refine s_iload_n (pc := 15) C dX11_fill_15 rfl ?_
  refine s_iconst (pc := 16) C dX11_fill_16 (by decide) ?_
  refine s_sipush (pc := 17) C dX11_fill_17 (by decide) ?_
  refine s_ct (pc := 20) C h3 wM_X11_69 wT_X11_within wN_X11 wC_X11_within (by decide +kernel) (ox_lv hR e3 (by decide)) dX11_fill_20 ?_
  refine s_ifeq (pc := 23) 44 C dX11_fill_23 (by decide) (hrc 44) ?_
  refine s_iload (pc := 26) C dX11_fill_26 ?_
  refine s_iconst (pc := 28) C dX11_fill_28 (by decide) ?_
  refine s_iload_n (pc := 29) C dX11_fill_29 rfl ?_
  refine s_ct (pc := 30) C h3 wM_X11_69 wT_X11_within wN_X11 wC_X11_within (by decide +kernel) (ox_lv hR e3 (by decide)) dX11_fill_30 ?_
  refine s_ifeq (pc := 33) 44 C dX11_fill_33 (by decide) (hrc 44) ?_
  refine s_iload (pc := 36) C dX11_fill_36 ?_
  refine s_ct (pc := 38) C h4 wM_X11_175 wT_X11_isLot wN_X11 wC_X11_isLot (by decide +kernel) (ox_lv hR e4 (by decide)) dX11_fill_38 ?_
  refine s_ifne (pc := 41) 47 C dX11_fill_41 (by decide) (hrc 47) ?_
  exact hrc 44
set_option maxRecDepth 100000 in
theorem kX11_fill_44 (C : ox_C p s m args c g 10 cX11_fill RX11) (hr : meth.sig.returnType = (some .int)) (hlk : meth.locks = false) (hnm : meth.name = "fill") (hR : R.frames = dp ∧ R.locals = 60 * dp) (h1 : ox_Sem yX11_isTank cX11_isTank 1 (some .boolean) d1 f1) (e1 : d1 + 1 ≤ dp) (h2 : ox_Sem yX11_isRecipe cX11_isRecipe 2 (some .boolean) d2 f2) (e2 : d2 + 1 ≤ dp) (h3 : ox_Sem yX11_within cX11_within 3 (some .boolean) d3 f3) (e3 : d3 + 1 ≤ dp) (h4 : ox_Sem yX11_isLot cX11_isLot 1 (some .boolean) d4 f4) (e4 : d4 + 1 ≤ dp) (h5 : ox_Sem yX9_isEmpty cX9_isEmpty 1 (some .boolean) d5 f5) (e5 : d5 + 1 ≤ dp) (h6 : ox_Sem yX9_takeIn cX9_takeIn 5 none d6 f6) (e6 : d6 + 1 ≤ dp) (hrc : ∀ b, ox_S p l e R s m args below meth c g 10 c0 t0 (ox_QM g below args s c0 t0) b (rc b)) : ox_S p l e R s m args below meth c g 10 c0 t0 (ox_QM g below args s c0 t0) 44 (bX11_fill_44 f1 f2 f3 f4 f5 f6 rc) := by
  refine s_ldc (pc := 44) C wK_X11_73 dX11_fill_44 ?_
  exact s_iret (pc := 46) C hr hlk dX11_fill_46
set_option maxRecDepth 100000 in
theorem kX11_fill_47 (C : ox_C p s m args c g 10 cX11_fill RX11) (hr : meth.sig.returnType = (some .int)) (hlk : meth.locks = false) (hnm : meth.name = "fill") (hR : R.frames = dp ∧ R.locals = 60 * dp) (h1 : ox_Sem yX11_isTank cX11_isTank 1 (some .boolean) d1 f1) (e1 : d1 + 1 ≤ dp) (h2 : ox_Sem yX11_isRecipe cX11_isRecipe 2 (some .boolean) d2 f2) (e2 : d2 + 1 ≤ dp) (h3 : ox_Sem yX11_within cX11_within 3 (some .boolean) d3 f3) (e3 : d3 + 1 ≤ dp) (h4 : ox_Sem yX11_isLot cX11_isLot 1 (some .boolean) d4 f4) (e4 : d4 + 1 ≤ dp) (h5 : ox_Sem yX9_isEmpty cX9_isEmpty 1 (some .boolean) d5 f5) (e5 : d5 + 1 ≤ dp) (h6 : ox_Sem yX9_takeIn cX9_takeIn 5 none d6 f6) (e6 : d6 + 1 ≤ dp) (hrc : ∀ b, ox_S p l e R s m args below meth c g 10 c0 t0 (ox_QM g below args s c0 t0) b (rc b)) : ox_S p l e R s m args below meth c g 10 c0 t0 (ox_QM g below args s c0 t0) 47 (bX11_fill_47 f1 f2 f3 f4 f5 f6 rc) := by
  refine s_aload_n (pc := 47) C dX11_fill_47 rfl ?_
  refine s_getr (pc := 48) (j := 3) (q := (RX11, TX11, 13)) C rfl (by decide) rfl wF_X11_31 dX11_fill_48 ?_
  refine s_iload_n (pc := 51) C dX11_fill_51 rfl ?_
  refine s_aa (pc := 52) (q := (RX9, TX9, 5)) 7 C rfl dX11_fill_52 ?_
  refine s_astore (pc := 53) C dX11_fill_53 (by decide) ?_
  refine s_aload (pc := 55) C dX11_fill_55 ?_
  refine s_cv (pc := 57) (q := (RX9, TX9, 5)) C h5 rfl wM_X11_178 wI_X9_isEmpty wS_X9_isEmpty wN_X9 wC_X9_isEmpty (by decide +kernel) (ox_lv hR e5 (by decide)) dX11_fill_57 ?_
  refine s_ifne (pc := 60) 76 C dX11_fill_60 (by decide) (hrc 76) ?_
  refine s_aload (pc := 63) C dX11_fill_63 ?_
  refine s_geti (pc := 65) (j := 2) (q := (RX9, TX9, 5)) C rfl (by decide) rfl wF_X11_181 dX11_fill_65 ?_
  refine s_iload_n (pc := 68) C dX11_fill_68 rfl ?_
  refine s_icmpeq (pc := 69) 76 C dX11_fill_69 (by decide) (hrc 76) ?_
  refine s_iconst (pc := 72) C dX11_fill_72 (by decide) ?_
  exact s_goto (pc := 73) 77 C dX11_fill_73 (by decide) (hrc 77)
set_option maxRecDepth 100000 in
theorem kX11_fill_76 (C : ox_C p s m args c g 10 cX11_fill RX11) (hr : meth.sig.returnType = (some .int)) (hlk : meth.locks = false) (hnm : meth.name = "fill") (hR : R.frames = dp ∧ R.locals = 60 * dp) (h1 : ox_Sem yX11_isTank cX11_isTank 1 (some .boolean) d1 f1) (e1 : d1 + 1 ≤ dp) (h2 : ox_Sem yX11_isRecipe cX11_isRecipe 2 (some .boolean) d2 f2) (e2 : d2 + 1 ≤ dp) (h3 : ox_Sem yX11_within cX11_within 3 (some .boolean) d3 f3) (e3 : d3 + 1 ≤ dp) (h4 : ox_Sem yX11_isLot cX11_isLot 1 (some .boolean) d4 f4) (e4 : d4 + 1 ≤ dp) (h5 : ox_Sem yX9_isEmpty cX9_isEmpty 1 (some .boolean) d5 f5) (e5 : d5 + 1 ≤ dp) (h6 : ox_Sem yX9_takeIn cX9_takeIn 5 none d6 f6) (e6 : d6 + 1 ≤ dp) (hrc : ∀ b, ox_S p l e R s m args below meth c g 10 c0 t0 (ox_QM g below args s c0 t0) b (rc b)) : ox_S p l e R s m args below meth c g 10 c0 t0 (ox_QM g below args s c0 t0) 76 (bX11_fill_76 f1 f2 f3 f4 f5 f6 rc) := by
  refine s_iconst (pc := 76) C dX11_fill_76 (by decide) ?_
  exact hrc 77
set_option maxRecDepth 100000 in
theorem kX11_fill_77 (C : ox_C p s m args c g 10 cX11_fill RX11) (hr : meth.sig.returnType = (some .int)) (hlk : meth.locks = false) (hnm : meth.name = "fill") (hR : R.frames = dp ∧ R.locals = 60 * dp) (h1 : ox_Sem yX11_isTank cX11_isTank 1 (some .boolean) d1 f1) (e1 : d1 + 1 ≤ dp) (h2 : ox_Sem yX11_isRecipe cX11_isRecipe 2 (some .boolean) d2 f2) (e2 : d2 + 1 ≤ dp) (h3 : ox_Sem yX11_within cX11_within 3 (some .boolean) d3 f3) (e3 : d3 + 1 ≤ dp) (h4 : ox_Sem yX11_isLot cX11_isLot 1 (some .boolean) d4 f4) (e4 : d4 + 1 ≤ dp) (h5 : ox_Sem yX9_isEmpty cX9_isEmpty 1 (some .boolean) d5 f5) (e5 : d5 + 1 ≤ dp) (h6 : ox_Sem yX9_takeIn cX9_takeIn 5 none d6 f6) (e6 : d6 + 1 ≤ dp) (hrc : ∀ b, ox_S p l e R s m args below meth c g 10 c0 t0 (ox_QM g below args s c0 t0) b (rc b)) : ox_S p l e R s m args below meth c g 10 c0 t0 (ox_QM g below args s c0 t0) 77 (bX11_fill_77 f1 f2 f3 f4 f5 f6 rc) := by
  refine s_istore (pc := 77) C dX11_fill_77 (by decide) ?_
  refine s_aload (pc := 79) C dX11_fill_79 ?_
  refine s_geti (pc := 81) (j := 0) (q := (RX9, TX9, 5)) C rfl (by decide) rfl wF_X11_184 dX11_fill_81 ?_
  refine s_iload_n (pc := 84) C dX11_fill_84 rfl ?_
  refine s_iadd (pc := 85) C dX11_fill_85 ?_
  refine s_istore (pc := 86) C dX11_fill_86 (by decide) ?_
  refine s_aload (pc := 88) C dX11_fill_88 ?_
  refine s_geti (pc := 90) (j := 1) (q := (RX9, TX9, 5)) C rfl (by decide) rfl wF_X11_187 dX11_fill_90 ?_
  refine s_iload (pc := 93) C dX11_fill_93 ?_
  refine s_iadd (pc := 95) C dX11_fill_95 ?_
  refine s_bipush (pc := 96) C dX11_fill_96 (by decide) ?_
  refine s_imul (pc := 98) C dX11_fill_98 ?_
  refine s_aload_n (pc := 99) C dX11_fill_99 rfl ?_
  refine s_getr (pc := 100) (j := 1) (q := (RX11, TX11, 13)) C rfl (by decide) rfl wF_X11_18 dX11_fill_100 ?_
  refine s_getr (pc := 103) (j := 1) (q := (RX3, TX3, 6)) C rfl (by decide) rfl wF_X11_151 dX11_fill_103 ?_
  refine s_iload_n (pc := 106) C dX11_fill_106 rfl ?_
  refine s_aa (pc := 107) (q := (RX6, TX6, 5)) 5 C rfl dX11_fill_107 ?_
  refine s_geti (pc := 108) (j := 1) (q := (RX6, TX6, 5)) C rfl (by decide) rfl wF_X11_190 dX11_fill_108 ?_
  refine s_iload (pc := 111) C dX11_fill_111 ?_
  refine s_imul (pc := 113) C dX11_fill_113 ?_
  refine s_icmple (pc := 114) 121 C dX11_fill_114 (by decide) (hrc 121) ?_
  refine s_iconst (pc := 117) C dX11_fill_117 (by decide) ?_
  exact s_goto (pc := 118) 122 C dX11_fill_118 (by decide) (hrc 122)
set_option maxRecDepth 100000 in
theorem kX11_fill_121 (C : ox_C p s m args c g 10 cX11_fill RX11) (hr : meth.sig.returnType = (some .int)) (hlk : meth.locks = false) (hnm : meth.name = "fill") (hR : R.frames = dp ∧ R.locals = 60 * dp) (h1 : ox_Sem yX11_isTank cX11_isTank 1 (some .boolean) d1 f1) (e1 : d1 + 1 ≤ dp) (h2 : ox_Sem yX11_isRecipe cX11_isRecipe 2 (some .boolean) d2 f2) (e2 : d2 + 1 ≤ dp) (h3 : ox_Sem yX11_within cX11_within 3 (some .boolean) d3 f3) (e3 : d3 + 1 ≤ dp) (h4 : ox_Sem yX11_isLot cX11_isLot 1 (some .boolean) d4 f4) (e4 : d4 + 1 ≤ dp) (h5 : ox_Sem yX9_isEmpty cX9_isEmpty 1 (some .boolean) d5 f5) (e5 : d5 + 1 ≤ dp) (h6 : ox_Sem yX9_takeIn cX9_takeIn 5 none d6 f6) (e6 : d6 + 1 ≤ dp) (hrc : ∀ b, ox_S p l e R s m args below meth c g 10 c0 t0 (ox_QM g below args s c0 t0) b (rc b)) : ox_S p l e R s m args below meth c g 10 c0 t0 (ox_QM g below args s c0 t0) 121 (bX11_fill_121 f1 f2 f3 f4 f5 f6 rc) := by
  refine s_iconst (pc := 121) C dX11_fill_121 (by decide) ?_
  exact hrc 122
set_option maxRecDepth 100000 in
theorem kX11_fill_122 (C : ox_C p s m args c g 10 cX11_fill RX11) (hr : meth.sig.returnType = (some .int)) (hlk : meth.locks = false) (hnm : meth.name = "fill") (hR : R.frames = dp ∧ R.locals = 60 * dp) (h1 : ox_Sem yX11_isTank cX11_isTank 1 (some .boolean) d1 f1) (e1 : d1 + 1 ≤ dp) (h2 : ox_Sem yX11_isRecipe cX11_isRecipe 2 (some .boolean) d2 f2) (e2 : d2 + 1 ≤ dp) (h3 : ox_Sem yX11_within cX11_within 3 (some .boolean) d3 f3) (e3 : d3 + 1 ≤ dp) (h4 : ox_Sem yX11_isLot cX11_isLot 1 (some .boolean) d4 f4) (e4 : d4 + 1 ≤ dp) (h5 : ox_Sem yX9_isEmpty cX9_isEmpty 1 (some .boolean) d5 f5) (e5 : d5 + 1 ≤ dp) (h6 : ox_Sem yX9_takeIn cX9_takeIn 5 none d6 f6) (e6 : d6 + 1 ≤ dp) (hrc : ∀ b, ox_S p l e R s m args below meth c g 10 c0 t0 (ox_QM g below args s c0 t0) b (rc b)) : ox_S p l e R s m args below meth c g 10 c0 t0 (ox_QM g below args s c0 t0) 122 (bX11_fill_122 f1 f2 f3 f4 f5 f6 rc) := by
  refine s_istore (pc := 122) C dX11_fill_122 (by decide) ?_
  refine s_iload (pc := 124) C dX11_fill_124 ?_
  refine s_ifne (pc := 126) 152 C dX11_fill_126 (by decide) (hrc 152) ?_
  refine s_aload_n (pc := 129) C dX11_fill_129 rfl ?_
  refine s_getr (pc := 130) (j := 4) (q := (RX11, TX11, 13)) C rfl (by decide) rfl wF_X11_35 dX11_fill_130 ?_
  refine s_iload_n (pc := 133) C dX11_fill_133 rfl ?_
  refine s_ia (pc := 134) C dX11_fill_134 ?_
  refine s_iload (pc := 135) C dX11_fill_135 ?_
  refine s_icmplt (pc := 137) 152 C dX11_fill_137 (by decide) (hrc 152) ?_
  refine s_iload (pc := 140) C dX11_fill_140 ?_
  refine s_ifne (pc := 142) 152 C dX11_fill_142 (by decide) (hrc 152) ?_
  refine s_iload (pc := 145) C dX11_fill_145 ?_
  refine s_ldc (pc := 147) C wK_X11_195 dX11_fill_147 ?_
  refine s_icmple (pc := 149) 155 C dX11_fill_149 (by decide) (hrc 155) ?_
  exact hrc 152
set_option maxRecDepth 100000 in
theorem kX11_fill_152 (C : ox_C p s m args c g 10 cX11_fill RX11) (hr : meth.sig.returnType = (some .int)) (hlk : meth.locks = false) (hnm : meth.name = "fill") (hR : R.frames = dp ∧ R.locals = 60 * dp) (h1 : ox_Sem yX11_isTank cX11_isTank 1 (some .boolean) d1 f1) (e1 : d1 + 1 ≤ dp) (h2 : ox_Sem yX11_isRecipe cX11_isRecipe 2 (some .boolean) d2 f2) (e2 : d2 + 1 ≤ dp) (h3 : ox_Sem yX11_within cX11_within 3 (some .boolean) d3 f3) (e3 : d3 + 1 ≤ dp) (h4 : ox_Sem yX11_isLot cX11_isLot 1 (some .boolean) d4 f4) (e4 : d4 + 1 ≤ dp) (h5 : ox_Sem yX9_isEmpty cX9_isEmpty 1 (some .boolean) d5 f5) (e5 : d5 + 1 ≤ dp) (h6 : ox_Sem yX9_takeIn cX9_takeIn 5 none d6 f6) (e6 : d6 + 1 ≤ dp) (hrc : ∀ b, ox_S p l e R s m args below meth c g 10 c0 t0 (ox_QM g below args s c0 t0) b (rc b)) : ox_S p l e R s m args below meth c g 10 c0 t0 (ox_QM g below args s c0 t0) 152 (bX11_fill_152 f1 f2 f3 f4 f5 f6 rc) := by
  refine s_ldc (pc := 152) C wK_X11_196 dX11_fill_152 ?_
  exact s_iret (pc := 154) C hr hlk dX11_fill_154
set_option maxRecDepth 100000 in
theorem kX11_fill_155 (C : ox_C p s m args c g 10 cX11_fill RX11) (hr : meth.sig.returnType = (some .int)) (hlk : meth.locks = false) (hnm : meth.name = "fill") (hR : R.frames = dp ∧ R.locals = 60 * dp) (h1 : ox_Sem yX11_isTank cX11_isTank 1 (some .boolean) d1 f1) (e1 : d1 + 1 ≤ dp) (h2 : ox_Sem yX11_isRecipe cX11_isRecipe 2 (some .boolean) d2 f2) (e2 : d2 + 1 ≤ dp) (h3 : ox_Sem yX11_within cX11_within 3 (some .boolean) d3 f3) (e3 : d3 + 1 ≤ dp) (h4 : ox_Sem yX11_isLot cX11_isLot 1 (some .boolean) d4 f4) (e4 : d4 + 1 ≤ dp) (h5 : ox_Sem yX9_isEmpty cX9_isEmpty 1 (some .boolean) d5 f5) (e5 : d5 + 1 ≤ dp) (h6 : ox_Sem yX9_takeIn cX9_takeIn 5 none d6 f6) (e6 : d6 + 1 ≤ dp) (hrc : ∀ b, ox_S p l e R s m args below meth c g 10 c0 t0 (ox_QM g below args s c0 t0) b (rc b)) : ox_S p l e R s m args below meth c g 10 c0 t0 (ox_QM g below args s c0 t0) 155 (bX11_fill_155 f1 f2 f3 f4 f5 f6 rc) := by
  refine s_aload (pc := 155) C dX11_fill_155 ?_
  refine s_iload_n (pc := 157) C dX11_fill_157 rfl ?_
  refine s_iload_n (pc := 158) C dX11_fill_158 rfl ?_
  refine s_iload (pc := 159) C dX11_fill_159 ?_
  refine s_iload (pc := 161) C dX11_fill_161 ?_
  refine s_cv (pc := 163) (q := (RX9, TX9, 5)) C h6 rfl wM_X11_197 wI_X9_takeIn wS_X9_takeIn wN_X9 wC_X9_takeIn (by decide +kernel) (ox_lv hR e6 (by decide)) dX11_fill_163 ?_
  refine s_aload_n (pc := 166) C dX11_fill_166 rfl ?_
  refine s_getr (pc := 167) (j := 4) (q := (RX11, TX11, 13)) C rfl (by decide) rfl wF_X11_35 dX11_fill_167 ?_
  refine s_iload_n (pc := 170) C dX11_fill_170 rfl ?_
  refine s_dup2 (pc := 171) C dX11_fill_171 ?_
  refine s_ia (pc := 172) C dX11_fill_172 ?_
  refine s_iload (pc := 173) C dX11_fill_173 ?_
  refine s_isub (pc := 175) C dX11_fill_175 ?_
  refine s_iast (pc := 176) C dX11_fill_176 ?_
  refine s_aload_n (pc := 177) C dX11_fill_177 rfl ?_
  refine s_dup (pc := 178) C dX11_fill_178 ?_
  refine s_geti (pc := 179) (j := 10) (q := (RX11, TX11, 13)) C rfl (by decide) rfl wF_X11_201 dX11_fill_179 ?_
  refine s_iload_n (pc := 182) C dX11_fill_182 rfl ?_
  refine s_iadd (pc := 183) C dX11_fill_183 ?_
  refine s_puti (pc := 184) (j := 10) (q := (RX11, TX11, 13)) C rfl (by decide) rfl (Or.inl rfl) wF_X11_201 dX11_fill_184 ?_
  refine s_aload (pc := 187) C dX11_fill_187 ?_
  refine s_geti (pc := 189) (j := 0) (q := (RX9, TX9, 5)) C rfl (by decide) rfl wF_X11_184 dX11_fill_189 ?_
  exact s_iret (pc := 192) C hr hlk dX11_fill_192
end SX11_fill
def bsX11_fill (f1 f2 f3 f4 f5 f6 : ox_F) (b : Nat) (rc : Nat → ox_K) : ox_K := if b = 0 then bX11_fill_0 f1 f2 f3 f4 f5 f6 rc else if b = 44 then bX11_fill_44 f1 f2 f3 f4 f5 f6 rc else if b = 47 then bX11_fill_47 f1 f2 f3 f4 f5 f6 rc else if b = 76 then bX11_fill_76 f1 f2 f3 f4 f5 f6 rc else if b = 77 then bX11_fill_77 f1 f2 f3 f4 f5 f6 rc else if b = 121 then bX11_fill_121 f1 f2 f3 f4 f5 f6 rc else if b = 122 then bX11_fill_122 f1 f2 f3 f4 f5 f6 rc else if b = 152 then bX11_fill_152 f1 f2 f3 f4 f5 f6 rc else if b = 155 then bX11_fill_155 f1 f2 f3 f4 f5 f6 rc else ox_no
theorem mX11_fill {dp d1 d2 d3 d4 d5 d6 : Nat} {f1 f2 f3 f4 f5 f6 f : ox_F} (h1 : ox_Sem yX11_isTank cX11_isTank 1 (some .boolean) d1 f1) (e1 : d1 + 1 ≤ dp) (h2 : ox_Sem yX11_isRecipe cX11_isRecipe 2 (some .boolean) d2 f2) (e2 : d2 + 1 ≤ dp) (h3 : ox_Sem yX11_within cX11_within 3 (some .boolean) d3 f3) (e3 : d3 + 1 ≤ dp) (h4 : ox_Sem yX11_isLot cX11_isLot 1 (some .boolean) d4 f4) (e4 : d4 + 1 ≤ dp) (h5 : ox_Sem yX9_isEmpty cX9_isEmpty 1 (some .boolean) d5 f5) (e5 : d5 + 1 ≤ dp) (h6 : ox_Sem yX9_takeIn cX9_takeIn 5 none d6 f6) (e6 : d6 + 1 ≤ dp) (hf : ∀ as h r, f as h = some r → ox_cs as ≤ 10 ∧ ox_le h r.2 ∧ ∃ n, ox_run (bsX11_fill f1 f2 f3 f4 f5 f6) n 0 (lv_args 0 as) [] h = some r) : ox_Sem yX11_fill cX11_fill 10 (some .int) dp f := by
  refine ox_meth (bs := bsX11_fill f1 f2 f3 f4 f5 f6) (by decide) hf ?_
  intro p l e R s m args below meth c g c0 t0 C hr hlk hnm hR rc hrc b
  unfold bsX11_fill
  refine ox_br (kX11_fill_0 C hr hlk hnm hR h1 e1 h2 e2 h3 e3 h4 e4 h5 e5 h6 e6 hrc) ?_
  refine ox_br (kX11_fill_44 C hr hlk hnm hR h1 e1 h2 e2 h3 e3 h4 e4 h5 e5 h6 e6 hrc) ?_
  refine ox_br (kX11_fill_47 C hr hlk hnm hR h1 e1 h2 e2 h3 e3 h4 e4 h5 e5 h6 e6 hrc) ?_
  refine ox_br (kX11_fill_76 C hr hlk hnm hR h1 e1 h2 e2 h3 e3 h4 e4 h5 e5 h6 e6 hrc) ?_
  refine ox_br (kX11_fill_77 C hr hlk hnm hR h1 e1 h2 e2 h3 e3 h4 e4 h5 e5 h6 e6 hrc) ?_
  refine ox_br (kX11_fill_121 C hr hlk hnm hR h1 e1 h2 e2 h3 e3 h4 e4 h5 e5 h6 e6 hrc) ?_
  refine ox_br (kX11_fill_122 C hr hlk hnm hR h1 e1 h2 e2 h3 e3 h4 e4 h5 e5 h6 e6 hrc) ?_
  refine ox_br (kX11_fill_152 C hr hlk hnm hR h1 e1 h2 e2 h3 e3 h4 e4 h5 e5 h6 e6 hrc) ?_
  refine ox_br (kX11_fill_155 C hr hlk hnm hR h1 e1 h2 e2 h3 e3 h4 e4 h5 e5 h6 e6 hrc) ?_
  exact s_no
theorem dX11_ready_0 : decode cX11_ready 0 = .ok (.iload_n 1, 1) := by decide +kernel
theorem dX11_ready_1 : decode cX11_ready 1 = .ok (.invokestatic 172, 3) := by decide +kernel
theorem dX11_ready_4 : decode cX11_ready 4 = .ok (.ifCond .ne 6, 3) := by decide +kernel
theorem dX11_ready_7 : decode cX11_ready 7 = .ok (.ldc 73, 2) := by decide +kernel
theorem dX11_ready_9 : decode cX11_ready 9 = .ok (.ireturn, 1) := by decide +kernel
theorem dX11_ready_10 : decode cX11_ready 10 = .ok (.aload_n 0, 1) := by decide +kernel
theorem dX11_ready_11 : decode cX11_ready 11 = .ok (.getfield 31, 3) := by decide +kernel
theorem dX11_ready_14 : decode cX11_ready 14 = .ok (.iload_n 1, 1) := by decide +kernel
theorem dX11_ready_15 : decode cX11_ready 15 = .ok (.aaload, 1) := by decide +kernel
theorem dX11_ready_16 : decode cX11_ready 16 = .ok (.astore_n 2, 1) := by decide +kernel
theorem dX11_ready_17 : decode cX11_ready 17 = .ok (.aload_n 2, 1) := by decide +kernel
theorem dX11_ready_18 : decode cX11_ready 18 = .ok (.invokevirtual 178, 3) := by decide +kernel
theorem dX11_ready_21 : decode cX11_ready 21 = .ok (.ifCond .eq 6, 3) := by decide +kernel
theorem dX11_ready_24 : decode cX11_ready 24 = .ok (.ldc 196, 2) := by decide +kernel
theorem dX11_ready_26 : decode cX11_ready 26 = .ok (.ireturn, 1) := by decide +kernel
theorem dX11_ready_27 : decode cX11_ready 27 = .ok (.aload_n 2, 1) := by decide +kernel
theorem dX11_ready_28 : decode cX11_ready 28 = .ok (.getfield 204, 3) := by decide +kernel
theorem dX11_ready_31 : decode cX11_ready 31 = .ok (.aload_n 0, 1) := by decide +kernel
theorem dX11_ready_32 : decode cX11_ready 32 = .ok (.getfield 18, 3) := by decide +kernel
theorem dX11_ready_35 : decode cX11_ready 35 = .ok (.getfield 151, 3) := by decide +kernel
theorem dX11_ready_38 : decode cX11_ready 38 = .ok (.aload_n 2, 1) := by decide +kernel
theorem dX11_ready_39 : decode cX11_ready 39 = .ok (.getfield 181, 3) := by decide +kernel
theorem dX11_ready_42 : decode cX11_ready 42 = .ok (.aaload, 1) := by decide +kernel
theorem dX11_ready_43 : decode cX11_ready 43 = .ok (.invokevirtual 155, 3) := by decide +kernel
theorem dX11_ready_46 : decode cX11_ready 46 = .ok (.aload_n 2, 1) := by decide +kernel
theorem dX11_ready_47 : decode cX11_ready 47 = .ok (.getfield 204, 3) := by decide +kernel
theorem dX11_ready_50 : decode cX11_ready 50 = .ok (.invokevirtual 165, 3) := by decide +kernel
theorem dX11_ready_53 : decode cX11_ready 53 = .ok (.ireturn, 1) := by decide +kernel
def bX11_ready_0 (f1 f2 f3 f4 : ox_F) (rc : Nat → ox_K) : ox_K := o_il 1 (o_ct f1 1 (o_ifne (rc 10) (o_ic (-1000001) (o_iret))))
def bX11_ready_10 (f1 f2 f3 f4 : ox_F) (rc : Nat → ox_K) : ox_K := o_al 0 (o_getr 11 3 (o_il 1 (o_aa 9 (o_as 2 (o_al 2 (o_cv f2 9 0 (o_ifeq (rc 27) (o_ic (-1000002) (o_iret)))))))))
def bX11_ready_27 (f1 f2 f3 f4 : ox_F) (rc : Nat → ox_K) : ox_K := o_al 2 (o_getr 9 4 (o_al 0 (o_getr 11 1 (o_getr 3 1 (o_al 2 (o_geti 9 2 (o_aa 6 (o_cv f3 4 1 (o_al 2 (o_getr 9 4 (o_cv f4 4 0 (o_iret))))))))))))
section SX11_ready
variable {p : Program} {l : Launch} {e : Env} {R : Room} {s : State} {m : MethodId} {args : Array Value} {below : List Frame} {meth : Method} {c : Code} {g : ox_G} {c0 t0 dp d1 d2 d3 d4 : Nat} {rc : Nat → ox_K} {f1 f2 f3 f4 : ox_F}
set_option maxRecDepth 100000 in
theorem kX11_ready_0 (C : ox_C p s m args c g 3 cX11_ready RX11) (hr : meth.sig.returnType = (some .int)) (hlk : meth.locks = false) (hnm : meth.name = "ready") (hR : R.frames = dp ∧ R.locals = 60 * dp) (h1 : ox_Sem yX11_isTank cX11_isTank 1 (some .boolean) d1 f1) (e1 : d1 + 1 ≤ dp) (h2 : ox_Sem yX9_isEmpty cX9_isEmpty 1 (some .boolean) d2 f2) (e2 : d2 + 1 ≤ dp) (h3 : ox_Sem yX4_goThrough cX4_goThrough 4 none d3 f3) (e3 : d3 + 1 ≤ dp) (h4 : ox_Sem yX4_state cX4_state 1 (some .int) d4 f4) (e4 : d4 + 1 ≤ dp) (hrc : ∀ b, ox_S p l e R s m args below meth c g 3 c0 t0 (ox_QM g below args s c0 t0) b (rc b)) : ox_S p l e R s m args below meth c g 3 c0 t0 (ox_QM g below args s c0 t0) 0 (bX11_ready_0 f1 f2 f3 f4 rc) := by
  refine s_iload_n (pc := 0) C dX11_ready_0 rfl ?_
  refine s_ct (pc := 1) C h1 wM_X11_172 wT_X11_isTank wN_X11 wC_X11_isTank (by decide +kernel) (ox_lv hR e1 (by decide)) dX11_ready_1 ?_
  refine s_ifne (pc := 4) 10 C dX11_ready_4 (by decide) (hrc 10) ?_
  refine s_ldc (pc := 7) C wK_X11_73 dX11_ready_7 ?_
  exact s_iret (pc := 9) C hr hlk dX11_ready_9
set_option maxRecDepth 100000 in
theorem kX11_ready_10 (C : ox_C p s m args c g 3 cX11_ready RX11) (hr : meth.sig.returnType = (some .int)) (hlk : meth.locks = false) (hnm : meth.name = "ready") (hR : R.frames = dp ∧ R.locals = 60 * dp) (h1 : ox_Sem yX11_isTank cX11_isTank 1 (some .boolean) d1 f1) (e1 : d1 + 1 ≤ dp) (h2 : ox_Sem yX9_isEmpty cX9_isEmpty 1 (some .boolean) d2 f2) (e2 : d2 + 1 ≤ dp) (h3 : ox_Sem yX4_goThrough cX4_goThrough 4 none d3 f3) (e3 : d3 + 1 ≤ dp) (h4 : ox_Sem yX4_state cX4_state 1 (some .int) d4 f4) (e4 : d4 + 1 ≤ dp) (hrc : ∀ b, ox_S p l e R s m args below meth c g 3 c0 t0 (ox_QM g below args s c0 t0) b (rc b)) : ox_S p l e R s m args below meth c g 3 c0 t0 (ox_QM g below args s c0 t0) 10 (bX11_ready_10 f1 f2 f3 f4 rc) := by
  refine s_aload_n (pc := 10) C dX11_ready_10 rfl ?_
  refine s_getr (pc := 11) (j := 3) (q := (RX11, TX11, 13)) C rfl (by decide) rfl wF_X11_31 dX11_ready_11 ?_
  refine s_iload_n (pc := 14) C dX11_ready_14 rfl ?_
  refine s_aa (pc := 15) (q := (RX9, TX9, 5)) 7 C rfl dX11_ready_15 ?_
  refine s_astore_n (pc := 16) C dX11_ready_16 rfl (by decide) ?_
  refine s_aload_n (pc := 17) C dX11_ready_17 rfl ?_
  refine s_cv (pc := 18) (q := (RX9, TX9, 5)) C h2 rfl wM_X11_178 wI_X9_isEmpty wS_X9_isEmpty wN_X9 wC_X9_isEmpty (by decide +kernel) (ox_lv hR e2 (by decide)) dX11_ready_18 ?_
  refine s_ifeq (pc := 21) 27 C dX11_ready_21 (by decide) (hrc 27) ?_
  refine s_ldc (pc := 24) C wK_X11_196 dX11_ready_24 ?_
  exact s_iret (pc := 26) C hr hlk dX11_ready_26
set_option maxRecDepth 100000 in
theorem kX11_ready_27 (C : ox_C p s m args c g 3 cX11_ready RX11) (hr : meth.sig.returnType = (some .int)) (hlk : meth.locks = false) (hnm : meth.name = "ready") (hR : R.frames = dp ∧ R.locals = 60 * dp) (h1 : ox_Sem yX11_isTank cX11_isTank 1 (some .boolean) d1 f1) (e1 : d1 + 1 ≤ dp) (h2 : ox_Sem yX9_isEmpty cX9_isEmpty 1 (some .boolean) d2 f2) (e2 : d2 + 1 ≤ dp) (h3 : ox_Sem yX4_goThrough cX4_goThrough 4 none d3 f3) (e3 : d3 + 1 ≤ dp) (h4 : ox_Sem yX4_state cX4_state 1 (some .int) d4 f4) (e4 : d4 + 1 ≤ dp) (hrc : ∀ b, ox_S p l e R s m args below meth c g 3 c0 t0 (ox_QM g below args s c0 t0) b (rc b)) : ox_S p l e R s m args below meth c g 3 c0 t0 (ox_QM g below args s c0 t0) 27 (bX11_ready_27 f1 f2 f3 f4 rc) := by
  refine s_aload_n (pc := 27) C dX11_ready_27 rfl ?_
  refine s_getr (pc := 28) (j := 4) (q := (RX9, TX9, 5)) C rfl (by decide) rfl wF_X11_204 dX11_ready_28 ?_
  refine s_aload_n (pc := 31) C dX11_ready_31 rfl ?_
  refine s_getr (pc := 32) (j := 1) (q := (RX11, TX11, 13)) C rfl (by decide) rfl wF_X11_18 dX11_ready_32 ?_
  refine s_getr (pc := 35) (j := 1) (q := (RX3, TX3, 6)) C rfl (by decide) rfl wF_X11_151 dX11_ready_35 ?_
  refine s_aload_n (pc := 38) C dX11_ready_38 rfl ?_
  refine s_geti (pc := 39) (j := 2) (q := (RX9, TX9, 5)) C rfl (by decide) rfl wF_X11_181 dX11_ready_39 ?_
  refine s_aa (pc := 42) (q := (RX6, TX6, 5)) 5 C rfl dX11_ready_42 ?_
  refine s_cv (pc := 43) (q := (RX4, TX4, 2)) C h3 rfl wM_X11_155 wI_X4_goThrough wS_X4_goThrough wN_X4 wC_X4_goThrough (by decide +kernel) (ox_lv hR e3 (by decide)) dX11_ready_43 ?_
  refine s_aload_n (pc := 46) C dX11_ready_46 rfl ?_
  refine s_getr (pc := 47) (j := 4) (q := (RX9, TX9, 5)) C rfl (by decide) rfl wF_X11_204 dX11_ready_47 ?_
  refine s_cv (pc := 50) (q := (RX4, TX4, 2)) C h4 rfl wM_X11_165 wI_X4_state wS_X4_state wN_X4 wC_X4_state (by decide +kernel) (ox_lv hR e4 (by decide)) dX11_ready_50 ?_
  exact s_iret (pc := 53) C hr hlk dX11_ready_53
end SX11_ready
def bsX11_ready (f1 f2 f3 f4 : ox_F) (b : Nat) (rc : Nat → ox_K) : ox_K := if b = 0 then bX11_ready_0 f1 f2 f3 f4 rc else if b = 10 then bX11_ready_10 f1 f2 f3 f4 rc else if b = 27 then bX11_ready_27 f1 f2 f3 f4 rc else ox_no
theorem mX11_ready {dp d1 d2 d3 d4 : Nat} {f1 f2 f3 f4 f : ox_F} (h1 : ox_Sem yX11_isTank cX11_isTank 1 (some .boolean) d1 f1) (e1 : d1 + 1 ≤ dp) (h2 : ox_Sem yX9_isEmpty cX9_isEmpty 1 (some .boolean) d2 f2) (e2 : d2 + 1 ≤ dp) (h3 : ox_Sem yX4_goThrough cX4_goThrough 4 none d3 f3) (e3 : d3 + 1 ≤ dp) (h4 : ox_Sem yX4_state cX4_state 1 (some .int) d4 f4) (e4 : d4 + 1 ≤ dp) (hf : ∀ as h r, f as h = some r → ox_cs as ≤ 3 ∧ ox_le h r.2 ∧ ∃ n, ox_run (bsX11_ready f1 f2 f3 f4) n 0 (lv_args 0 as) [] h = some r) : ox_Sem yX11_ready cX11_ready 3 (some .int) dp f := by
  refine ox_meth (bs := bsX11_ready f1 f2 f3 f4) (by decide) hf ?_
  intro p l e R s m args below meth c g c0 t0 C hr hlk hnm hR rc hrc b
  unfold bsX11_ready
  refine ox_br (kX11_ready_0 C hr hlk hnm hR h1 e1 h2 e2 h3 e3 h4 e4 hrc) ?_
  refine ox_br (kX11_ready_10 C hr hlk hnm hR h1 e1 h2 e2 h3 e3 h4 e4 hrc) ?_
  refine ox_br (kX11_ready_27 C hr hlk hnm hR h1 e1 h2 e2 h3 e3 h4 e4 hrc) ?_
  exact s_no
theorem dX11_drain_0 : decode cX11_drain 0 = .ok (.iload_n 1, 1) := by decide +kernel
theorem dX11_drain_1 : decode cX11_drain 1 = .ok (.invokestatic 172, 3) := by decide +kernel
theorem dX11_drain_4 : decode cX11_drain 4 = .ok (.ifCond .ne 6, 3) := by decide +kernel
theorem dX11_drain_7 : decode cX11_drain 7 = .ok (.ldc 73, 2) := by decide +kernel
theorem dX11_drain_9 : decode cX11_drain 9 = .ok (.ireturn, 1) := by decide +kernel
theorem dX11_drain_10 : decode cX11_drain 10 = .ok (.aload_n 0, 1) := by decide +kernel
theorem dX11_drain_11 : decode cX11_drain 11 = .ok (.getfield 31, 3) := by decide +kernel
theorem dX11_drain_14 : decode cX11_drain 14 = .ok (.iload_n 1, 1) := by decide +kernel
theorem dX11_drain_15 : decode cX11_drain 15 = .ok (.aaload, 1) := by decide +kernel
theorem dX11_drain_16 : decode cX11_drain 16 = .ok (.getfield 184, 3) := by decide +kernel
theorem dX11_drain_19 : decode cX11_drain 19 = .ok (.istore_n 2, 1) := by decide +kernel
theorem dX11_drain_20 : decode cX11_drain 20 = .ok (.aload_n 0, 1) := by decide +kernel
theorem dX11_drain_21 : decode cX11_drain 21 = .ok (.getfield 31, 3) := by decide +kernel
theorem dX11_drain_24 : decode cX11_drain 24 = .ok (.iload_n 1, 1) := by decide +kernel
theorem dX11_drain_25 : decode cX11_drain 25 = .ok (.aaload, 1) := by decide +kernel
theorem dX11_drain_26 : decode cX11_drain 26 = .ok (.iload_n 2, 1) := by decide +kernel
theorem dX11_drain_27 : decode cX11_drain 27 = .ok (.invokevirtual 207, 3) := by decide +kernel
theorem dX11_drain_30 : decode cX11_drain 30 = .ok (.aload_n 0, 1) := by decide +kernel
theorem dX11_drain_31 : decode cX11_drain 31 = .ok (.dup, 1) := by decide +kernel
theorem dX11_drain_32 : decode cX11_drain 32 = .ok (.getfield 211, 3) := by decide +kernel
theorem dX11_drain_35 : decode cX11_drain 35 = .ok (.iload_n 2, 1) := by decide +kernel
theorem dX11_drain_36 : decode cX11_drain 36 = .ok (.iadd, 1) := by decide +kernel
theorem dX11_drain_37 : decode cX11_drain 37 = .ok (.putfield 211, 3) := by decide +kernel
theorem dX11_drain_40 : decode cX11_drain 40 = .ok (.iload_n 2, 1) := by decide +kernel
theorem dX11_drain_41 : decode cX11_drain 41 = .ok (.ireturn, 1) := by decide +kernel
def bX11_drain_0 (f1 f2 : ox_F) (rc : Nat → ox_K) : ox_K := o_il 1 (o_ct f1 1 (o_ifne (rc 10) (o_ic (-1000001) (o_iret))))
def bX11_drain_10 (f1 f2 : ox_F) (rc : Nat → ox_K) : ox_K := o_al 0 (o_getr 11 3 (o_il 1 (o_aa 9 (o_geti 9 0 (o_is 2 (o_al 0 (o_getr 11 3 (o_il 1 (o_aa 9 (o_il 2 (o_cv f2 9 1 (o_al 0 (o_dup (o_geti 11 11 (o_il 2 (o_iadd (o_puti 11 11 (o_il 2 (o_iret)))))))))))))))))))
section SX11_drain
variable {p : Program} {l : Launch} {e : Env} {R : Room} {s : State} {m : MethodId} {args : Array Value} {below : List Frame} {meth : Method} {c : Code} {g : ox_G} {c0 t0 dp d1 d2 : Nat} {rc : Nat → ox_K} {f1 f2 : ox_F}
set_option maxRecDepth 100000 in
theorem kX11_drain_0 (C : ox_C p s m args c g 3 cX11_drain RX11) (hr : meth.sig.returnType = (some .int)) (hlk : meth.locks = false) (hnm : meth.name = "drain") (hR : R.frames = dp ∧ R.locals = 60 * dp) (h1 : ox_Sem yX11_isTank cX11_isTank 1 (some .boolean) d1 f1) (e1 : d1 + 1 ≤ dp) (h2 : ox_Sem yX9_giveOut cX9_giveOut 2 none d2 f2) (e2 : d2 + 1 ≤ dp) (hrc : ∀ b, ox_S p l e R s m args below meth c g 3 c0 t0 (ox_QM g below args s c0 t0) b (rc b)) : ox_S p l e R s m args below meth c g 3 c0 t0 (ox_QM g below args s c0 t0) 0 (bX11_drain_0 f1 f2 rc) := by
  refine s_iload_n (pc := 0) C dX11_drain_0 rfl ?_
  refine s_ct (pc := 1) C h1 wM_X11_172 wT_X11_isTank wN_X11 wC_X11_isTank (by decide +kernel) (ox_lv hR e1 (by decide)) dX11_drain_1 ?_
  refine s_ifne (pc := 4) 10 C dX11_drain_4 (by decide) (hrc 10) ?_
  refine s_ldc (pc := 7) C wK_X11_73 dX11_drain_7 ?_
  exact s_iret (pc := 9) C hr hlk dX11_drain_9
set_option maxRecDepth 100000 in
theorem kX11_drain_10 (C : ox_C p s m args c g 3 cX11_drain RX11) (hr : meth.sig.returnType = (some .int)) (hlk : meth.locks = false) (hnm : meth.name = "drain") (hR : R.frames = dp ∧ R.locals = 60 * dp) (h1 : ox_Sem yX11_isTank cX11_isTank 1 (some .boolean) d1 f1) (e1 : d1 + 1 ≤ dp) (h2 : ox_Sem yX9_giveOut cX9_giveOut 2 none d2 f2) (e2 : d2 + 1 ≤ dp) (hrc : ∀ b, ox_S p l e R s m args below meth c g 3 c0 t0 (ox_QM g below args s c0 t0) b (rc b)) : ox_S p l e R s m args below meth c g 3 c0 t0 (ox_QM g below args s c0 t0) 10 (bX11_drain_10 f1 f2 rc) := by
  refine s_aload_n (pc := 10) C dX11_drain_10 rfl ?_
  refine s_getr (pc := 11) (j := 3) (q := (RX11, TX11, 13)) C rfl (by decide) rfl wF_X11_31 dX11_drain_11 ?_
  refine s_iload_n (pc := 14) C dX11_drain_14 rfl ?_
  refine s_aa (pc := 15) (q := (RX9, TX9, 5)) 7 C rfl dX11_drain_15 ?_
  refine s_geti (pc := 16) (j := 0) (q := (RX9, TX9, 5)) C rfl (by decide) rfl wF_X11_184 dX11_drain_16 ?_
  refine s_istore_n (pc := 19) C dX11_drain_19 rfl (by decide) ?_
  refine s_aload_n (pc := 20) C dX11_drain_20 rfl ?_
  refine s_getr (pc := 21) (j := 3) (q := (RX11, TX11, 13)) C rfl (by decide) rfl wF_X11_31 dX11_drain_21 ?_
  refine s_iload_n (pc := 24) C dX11_drain_24 rfl ?_
  refine s_aa (pc := 25) (q := (RX9, TX9, 5)) 7 C rfl dX11_drain_25 ?_
  refine s_iload_n (pc := 26) C dX11_drain_26 rfl ?_
  refine s_cv (pc := 27) (q := (RX9, TX9, 5)) C h2 rfl wM_X11_207 wI_X9_giveOut wS_X9_giveOut wN_X9 wC_X9_giveOut (by decide +kernel) (ox_lv hR e2 (by decide)) dX11_drain_27 ?_
  refine s_aload_n (pc := 30) C dX11_drain_30 rfl ?_
  refine s_dup (pc := 31) C dX11_drain_31 ?_
  refine s_geti (pc := 32) (j := 11) (q := (RX11, TX11, 13)) C rfl (by decide) rfl wF_X11_211 dX11_drain_32 ?_
  refine s_iload_n (pc := 35) C dX11_drain_35 rfl ?_
  refine s_iadd (pc := 36) C dX11_drain_36 ?_
  refine s_puti (pc := 37) (j := 11) (q := (RX11, TX11, 13)) C rfl (by decide) rfl (Or.inl rfl) wF_X11_211 dX11_drain_37 ?_
  refine s_iload_n (pc := 40) C dX11_drain_40 rfl ?_
  exact s_iret (pc := 41) C hr hlk dX11_drain_41
end SX11_drain
def bsX11_drain (f1 f2 : ox_F) (b : Nat) (rc : Nat → ox_K) : ox_K := if b = 0 then bX11_drain_0 f1 f2 rc else if b = 10 then bX11_drain_10 f1 f2 rc else ox_no
theorem mX11_drain {dp d1 d2 : Nat} {f1 f2 f : ox_F} (h1 : ox_Sem yX11_isTank cX11_isTank 1 (some .boolean) d1 f1) (e1 : d1 + 1 ≤ dp) (h2 : ox_Sem yX9_giveOut cX9_giveOut 2 none d2 f2) (e2 : d2 + 1 ≤ dp) (hf : ∀ as h r, f as h = some r → ox_cs as ≤ 3 ∧ ox_le h r.2 ∧ ∃ n, ox_run (bsX11_drain f1 f2) n 0 (lv_args 0 as) [] h = some r) : ox_Sem yX11_drain cX11_drain 3 (some .int) dp f := by
  refine ox_meth (bs := bsX11_drain f1 f2) (by decide) hf ?_
  intro p l e R s m args below meth c g c0 t0 C hr hlk hnm hR rc hrc b
  unfold bsX11_drain
  refine ox_br (kX11_drain_0 C hr hlk hnm hR h1 e1 h2 e2 hrc) ?_
  refine ox_br (kX11_drain_10 C hr hlk hnm hR h1 e1 h2 e2 hrc) ?_
  exact s_no
theorem dX11_tank_0 : decode cX11_tank 0 = .ok (.iload_n 1, 1) := by decide +kernel
theorem dX11_tank_1 : decode cX11_tank 1 = .ok (.invokestatic 172, 3) := by decide +kernel
theorem dX11_tank_4 : decode cX11_tank 4 = .ok (.ifCond .ne 6, 3) := by decide +kernel
theorem dX11_tank_7 : decode cX11_tank 7 = .ok (.ldc 73, 2) := by decide +kernel
theorem dX11_tank_9 : decode cX11_tank 9 = .ok (.ireturn, 1) := by decide +kernel
theorem dX11_tank_10 : decode cX11_tank 10 = .ok (.aload_n 0, 1) := by decide +kernel
theorem dX11_tank_11 : decode cX11_tank 11 = .ok (.getfield 31, 3) := by decide +kernel
theorem dX11_tank_14 : decode cX11_tank 14 = .ok (.iload_n 1, 1) := by decide +kernel
theorem dX11_tank_15 : decode cX11_tank 15 = .ok (.aaload, 1) := by decide +kernel
theorem dX11_tank_16 : decode cX11_tank 16 = .ok (.astore_n 3, 1) := by decide +kernel
theorem dX11_tank_17 : decode cX11_tank 17 = .ok (.aload_n 3, 1) := by decide +kernel
theorem dX11_tank_18 : decode cX11_tank 18 = .ok (.invokevirtual 178, 3) := by decide +kernel
theorem dX11_tank_21 : decode cX11_tank 21 = .ok (.istore 4, 2) := by decide +kernel
theorem dX11_tank_23 : decode cX11_tank 23 = .ok (.iload_n 2, 1) := by decide +kernel
theorem dX11_tank_24 : decode cX11_tank 24 = .ok (.tableswitch 128 0 6 #[44, 49, 54, 69, 74, 92, 110], 44) := by decide +kernel
theorem dX11_tank_68 : decode cX11_tank 68 = .ok (.aload_n 3, 1) := by decide +kernel
theorem dX11_tank_69 : decode cX11_tank 69 = .ok (.getfield 184, 3) := by decide +kernel
theorem dX11_tank_72 : decode cX11_tank 72 = .ok (.ireturn, 1) := by decide +kernel
theorem dX11_tank_73 : decode cX11_tank 73 = .ok (.aload_n 3, 1) := by decide +kernel
theorem dX11_tank_74 : decode cX11_tank 74 = .ok (.getfield 187, 3) := by decide +kernel
theorem dX11_tank_77 : decode cX11_tank 77 = .ok (.ireturn, 1) := by decide +kernel
theorem dX11_tank_78 : decode cX11_tank 78 = .ok (.iload 4, 2) := by decide +kernel
theorem dX11_tank_80 : decode cX11_tank 80 = .ok (.ifCond .eq 8, 3) := by decide +kernel
theorem dX11_tank_83 : decode cX11_tank 83 = .ok (.ldc 214, 2) := by decide +kernel
theorem dX11_tank_85 : decode cX11_tank 85 = .ok (.goto 7, 3) := by decide +kernel
theorem dX11_tank_88 : decode cX11_tank 88 = .ok (.aload_n 3, 1) := by decide +kernel
theorem dX11_tank_89 : decode cX11_tank 89 = .ok (.getfield 181, 3) := by decide +kernel
theorem dX11_tank_92 : decode cX11_tank 92 = .ok (.ireturn, 1) := by decide +kernel
theorem dX11_tank_93 : decode cX11_tank 93 = .ok (.aload_n 3, 1) := by decide +kernel
theorem dX11_tank_94 : decode cX11_tank 94 = .ok (.getfield 215, 3) := by decide +kernel
theorem dX11_tank_97 : decode cX11_tank 97 = .ok (.ireturn, 1) := by decide +kernel
theorem dX11_tank_98 : decode cX11_tank 98 = .ok (.iload 4, 2) := by decide +kernel
theorem dX11_tank_100 : decode cX11_tank 100 = .ok (.ifCond .eq 8, 3) := by decide +kernel
theorem dX11_tank_103 : decode cX11_tank 103 = .ok (.ldc 214, 2) := by decide +kernel
theorem dX11_tank_105 : decode cX11_tank 105 = .ok (.goto 10, 3) := by decide +kernel
theorem dX11_tank_108 : decode cX11_tank 108 = .ok (.aload_n 3, 1) := by decide +kernel
theorem dX11_tank_109 : decode cX11_tank 109 = .ok (.getfield 204, 3) := by decide +kernel
theorem dX11_tank_112 : decode cX11_tank 112 = .ok (.getfield 159, 3) := by decide +kernel
theorem dX11_tank_115 : decode cX11_tank 115 = .ok (.ireturn, 1) := by decide +kernel
theorem dX11_tank_116 : decode cX11_tank 116 = .ok (.iload 4, 2) := by decide +kernel
theorem dX11_tank_118 : decode cX11_tank 118 = .ok (.ifCond .eq 8, 3) := by decide +kernel
theorem dX11_tank_121 : decode cX11_tank 121 = .ok (.ldc 214, 2) := by decide +kernel
theorem dX11_tank_123 : decode cX11_tank 123 = .ok (.goto 10, 3) := by decide +kernel
theorem dX11_tank_126 : decode cX11_tank 126 = .ok (.aload_n 3, 1) := by decide +kernel
theorem dX11_tank_127 : decode cX11_tank 127 = .ok (.getfield 204, 3) := by decide +kernel
theorem dX11_tank_130 : decode cX11_tank 130 = .ok (.getfield 162, 3) := by decide +kernel
theorem dX11_tank_133 : decode cX11_tank 133 = .ok (.ireturn, 1) := by decide +kernel
theorem dX11_tank_134 : decode cX11_tank 134 = .ok (.iload 4, 2) := by decide +kernel
theorem dX11_tank_136 : decode cX11_tank 136 = .ok (.ifCond .eq 8, 3) := by decide +kernel
theorem dX11_tank_139 : decode cX11_tank 139 = .ok (.ldc 214, 2) := by decide +kernel
theorem dX11_tank_141 : decode cX11_tank 141 = .ok (.goto 10, 3) := by decide +kernel
theorem dX11_tank_144 : decode cX11_tank 144 = .ok (.aload_n 3, 1) := by decide +kernel
theorem dX11_tank_145 : decode cX11_tank 145 = .ok (.getfield 204, 3) := by decide +kernel
theorem dX11_tank_148 : decode cX11_tank 148 = .ok (.invokevirtual 165, 3) := by decide +kernel
theorem dX11_tank_151 : decode cX11_tank 151 = .ok (.ireturn, 1) := by decide +kernel
theorem dX11_tank_152 : decode cX11_tank 152 = .ok (.ldc 73, 2) := by decide +kernel
theorem dX11_tank_154 : decode cX11_tank 154 = .ok (.ireturn, 1) := by decide +kernel
def bX11_tank_0 (f1 f2 f3 : ox_F) (rc : Nat → ox_K) : ox_K := o_il 1 (o_ct f1 1 (o_ifne (rc 10) (o_ic (-1000001) (o_iret))))
def bX11_tank_10 (f1 f2 f3 : ox_F) (rc : Nat → ox_K) : ox_K := o_al 0 (o_getr 11 3 (o_il 1 (o_aa 9 (o_as 3 (o_al 3 (o_cv f2 9 0 (o_is 4 (o_il 2 (o_tsw 0 [rc 68, rc 73, rc 78, rc 93, rc 98, rc 116, rc 134] (rc 152))))))))))
def bX11_tank_68 (f1 f2 f3 : ox_F) (rc : Nat → ox_K) : ox_K := o_al 3 (o_geti 9 0 (o_iret))
def bX11_tank_73 (f1 f2 f3 : ox_F) (rc : Nat → ox_K) : ox_K := o_al 3 (o_geti 9 1 (o_iret))
def bX11_tank_78 (f1 f2 f3 : ox_F) (rc : Nat → ox_K) : ox_K := o_il 4 (o_ifeq (rc 88) (o_ic (-1000000) (rc 92)))
def bX11_tank_88 (f1 f2 f3 : ox_F) (rc : Nat → ox_K) : ox_K := o_al 3 (o_geti 9 2 (rc 92))
def bX11_tank_92 (f1 f2 f3 : ox_F) (rc : Nat → ox_K) : ox_K := o_iret
def bX11_tank_93 (f1 f2 f3 : ox_F) (rc : Nat → ox_K) : ox_K := o_al 3 (o_geti 9 3 (o_iret))
def bX11_tank_98 (f1 f2 f3 : ox_F) (rc : Nat → ox_K) : ox_K := o_il 4 (o_ifeq (rc 108) (o_ic (-1000000) (rc 115)))
def bX11_tank_108 (f1 f2 f3 : ox_F) (rc : Nat → ox_K) : ox_K := o_al 3 (o_getr 9 4 (o_geti 4 0 (rc 115)))
def bX11_tank_115 (f1 f2 f3 : ox_F) (rc : Nat → ox_K) : ox_K := o_iret
def bX11_tank_116 (f1 f2 f3 : ox_F) (rc : Nat → ox_K) : ox_K := o_il 4 (o_ifeq (rc 126) (o_ic (-1000000) (rc 133)))
def bX11_tank_126 (f1 f2 f3 : ox_F) (rc : Nat → ox_K) : ox_K := o_al 3 (o_getr 9 4 (o_geti 4 1 (rc 133)))
def bX11_tank_133 (f1 f2 f3 : ox_F) (rc : Nat → ox_K) : ox_K := o_iret
def bX11_tank_134 (f1 f2 f3 : ox_F) (rc : Nat → ox_K) : ox_K := o_il 4 (o_ifeq (rc 144) (o_ic (-1000000) (rc 151)))
def bX11_tank_144 (f1 f2 f3 : ox_F) (rc : Nat → ox_K) : ox_K := o_al 3 (o_getr 9 4 (o_cv f3 4 0 (rc 151)))
def bX11_tank_151 (f1 f2 f3 : ox_F) (rc : Nat → ox_K) : ox_K := o_iret
def bX11_tank_152 (f1 f2 f3 : ox_F) (rc : Nat → ox_K) : ox_K := o_ic (-1000001) (o_iret)
section SX11_tank
variable {p : Program} {l : Launch} {e : Env} {R : Room} {s : State} {m : MethodId} {args : Array Value} {below : List Frame} {meth : Method} {c : Code} {g : ox_G} {c0 t0 dp d1 d2 d3 : Nat} {rc : Nat → ox_K} {f1 f2 f3 : ox_F}
set_option maxRecDepth 100000 in
theorem kX11_tank_0 (C : ox_C p s m args c g 5 cX11_tank RX11) (hr : meth.sig.returnType = (some .int)) (hlk : meth.locks = false) (hnm : meth.name = "tank") (hR : R.frames = dp ∧ R.locals = 60 * dp) (h1 : ox_Sem yX11_isTank cX11_isTank 1 (some .boolean) d1 f1) (e1 : d1 + 1 ≤ dp) (h2 : ox_Sem yX9_isEmpty cX9_isEmpty 1 (some .boolean) d2 f2) (e2 : d2 + 1 ≤ dp) (h3 : ox_Sem yX4_state cX4_state 1 (some .int) d3 f3) (e3 : d3 + 1 ≤ dp) (hrc : ∀ b, ox_S p l e R s m args below meth c g 5 c0 t0 (ox_QM g below args s c0 t0) b (rc b)) : ox_S p l e R s m args below meth c g 5 c0 t0 (ox_QM g below args s c0 t0) 0 (bX11_tank_0 f1 f2 f3 rc) := by
  refine s_iload_n (pc := 0) C dX11_tank_0 rfl ?_
  refine s_ct (pc := 1) C h1 wM_X11_172 wT_X11_isTank wN_X11 wC_X11_isTank (by decide +kernel) (ox_lv hR e1 (by decide)) dX11_tank_1 ?_
  refine s_ifne (pc := 4) 10 C dX11_tank_4 (by decide) (hrc 10) ?_
  refine s_ldc (pc := 7) C wK_X11_73 dX11_tank_7 ?_
  exact s_iret (pc := 9) C hr hlk dX11_tank_9
set_option maxRecDepth 100000 in
theorem kX11_tank_10 (C : ox_C p s m args c g 5 cX11_tank RX11) (hr : meth.sig.returnType = (some .int)) (hlk : meth.locks = false) (hnm : meth.name = "tank") (hR : R.frames = dp ∧ R.locals = 60 * dp) (h1 : ox_Sem yX11_isTank cX11_isTank 1 (some .boolean) d1 f1) (e1 : d1 + 1 ≤ dp) (h2 : ox_Sem yX9_isEmpty cX9_isEmpty 1 (some .boolean) d2 f2) (e2 : d2 + 1 ≤ dp) (h3 : ox_Sem yX4_state cX4_state 1 (some .int) d3 f3) (e3 : d3 + 1 ≤ dp) (hrc : ∀ b, ox_S p l e R s m args below meth c g 5 c0 t0 (ox_QM g below args s c0 t0) b (rc b)) : ox_S p l e R s m args below meth c g 5 c0 t0 (ox_QM g below args s c0 t0) 10 (bX11_tank_10 f1 f2 f3 rc) := by
  refine s_aload_n (pc := 10) C dX11_tank_10 rfl ?_
  refine s_getr (pc := 11) (j := 3) (q := (RX11, TX11, 13)) C rfl (by decide) rfl wF_X11_31 dX11_tank_11 ?_
  refine s_iload_n (pc := 14) C dX11_tank_14 rfl ?_
  refine s_aa (pc := 15) (q := (RX9, TX9, 5)) 7 C rfl dX11_tank_15 ?_
  refine s_astore_n (pc := 16) C dX11_tank_16 rfl (by decide) ?_
  refine s_aload_n (pc := 17) C dX11_tank_17 rfl ?_
  refine s_cv (pc := 18) (q := (RX9, TX9, 5)) C h2 rfl wM_X11_178 wI_X9_isEmpty wS_X9_isEmpty wN_X9 wC_X9_isEmpty (by decide +kernel) (ox_lv hR e2 (by decide)) dX11_tank_18 ?_
  refine s_istore (pc := 21) C dX11_tank_21 (by decide) ?_
  refine s_iload_n (pc := 23) C dX11_tank_23 rfl ?_
  exact s_tsw (pc := 24) 152 [68, 73, 78, 93, 98, 116, 134] C dX11_tank_24 (by decide) rfl (by decide +kernel) (hrc 152) (ox_ts hrc [68, 73, 78, 93, 98, 116, 134]) rfl
set_option maxRecDepth 100000 in
theorem kX11_tank_68 (C : ox_C p s m args c g 5 cX11_tank RX11) (hr : meth.sig.returnType = (some .int)) (hlk : meth.locks = false) (hnm : meth.name = "tank") (hR : R.frames = dp ∧ R.locals = 60 * dp) (h1 : ox_Sem yX11_isTank cX11_isTank 1 (some .boolean) d1 f1) (e1 : d1 + 1 ≤ dp) (h2 : ox_Sem yX9_isEmpty cX9_isEmpty 1 (some .boolean) d2 f2) (e2 : d2 + 1 ≤ dp) (h3 : ox_Sem yX4_state cX4_state 1 (some .int) d3 f3) (e3 : d3 + 1 ≤ dp) (hrc : ∀ b, ox_S p l e R s m args below meth c g 5 c0 t0 (ox_QM g below args s c0 t0) b (rc b)) : ox_S p l e R s m args below meth c g 5 c0 t0 (ox_QM g below args s c0 t0) 68 (bX11_tank_68 f1 f2 f3 rc) := by
  refine s_aload_n (pc := 68) C dX11_tank_68 rfl ?_
  refine s_geti (pc := 69) (j := 0) (q := (RX9, TX9, 5)) C rfl (by decide) rfl wF_X11_184 dX11_tank_69 ?_
  exact s_iret (pc := 72) C hr hlk dX11_tank_72
set_option maxRecDepth 100000 in
theorem kX11_tank_73 (C : ox_C p s m args c g 5 cX11_tank RX11) (hr : meth.sig.returnType = (some .int)) (hlk : meth.locks = false) (hnm : meth.name = "tank") (hR : R.frames = dp ∧ R.locals = 60 * dp) (h1 : ox_Sem yX11_isTank cX11_isTank 1 (some .boolean) d1 f1) (e1 : d1 + 1 ≤ dp) (h2 : ox_Sem yX9_isEmpty cX9_isEmpty 1 (some .boolean) d2 f2) (e2 : d2 + 1 ≤ dp) (h3 : ox_Sem yX4_state cX4_state 1 (some .int) d3 f3) (e3 : d3 + 1 ≤ dp) (hrc : ∀ b, ox_S p l e R s m args below meth c g 5 c0 t0 (ox_QM g below args s c0 t0) b (rc b)) : ox_S p l e R s m args below meth c g 5 c0 t0 (ox_QM g below args s c0 t0) 73 (bX11_tank_73 f1 f2 f3 rc) := by
  refine s_aload_n (pc := 73) C dX11_tank_73 rfl ?_
  refine s_geti (pc := 74) (j := 1) (q := (RX9, TX9, 5)) C rfl (by decide) rfl wF_X11_187 dX11_tank_74 ?_
  exact s_iret (pc := 77) C hr hlk dX11_tank_77
set_option maxRecDepth 100000 in
theorem kX11_tank_78 (C : ox_C p s m args c g 5 cX11_tank RX11) (hr : meth.sig.returnType = (some .int)) (hlk : meth.locks = false) (hnm : meth.name = "tank") (hR : R.frames = dp ∧ R.locals = 60 * dp) (h1 : ox_Sem yX11_isTank cX11_isTank 1 (some .boolean) d1 f1) (e1 : d1 + 1 ≤ dp) (h2 : ox_Sem yX9_isEmpty cX9_isEmpty 1 (some .boolean) d2 f2) (e2 : d2 + 1 ≤ dp) (h3 : ox_Sem yX4_state cX4_state 1 (some .int) d3 f3) (e3 : d3 + 1 ≤ dp) (hrc : ∀ b, ox_S p l e R s m args below meth c g 5 c0 t0 (ox_QM g below args s c0 t0) b (rc b)) : ox_S p l e R s m args below meth c g 5 c0 t0 (ox_QM g below args s c0 t0) 78 (bX11_tank_78 f1 f2 f3 rc) := by
  refine s_iload (pc := 78) C dX11_tank_78 ?_
  refine s_ifeq (pc := 80) 88 C dX11_tank_80 (by decide) (hrc 88) ?_
  refine s_ldc (pc := 83) C wK_X11_214 dX11_tank_83 ?_
  exact s_goto (pc := 85) 92 C dX11_tank_85 (by decide) (hrc 92)
set_option maxRecDepth 100000 in
theorem kX11_tank_88 (C : ox_C p s m args c g 5 cX11_tank RX11) (hr : meth.sig.returnType = (some .int)) (hlk : meth.locks = false) (hnm : meth.name = "tank") (hR : R.frames = dp ∧ R.locals = 60 * dp) (h1 : ox_Sem yX11_isTank cX11_isTank 1 (some .boolean) d1 f1) (e1 : d1 + 1 ≤ dp) (h2 : ox_Sem yX9_isEmpty cX9_isEmpty 1 (some .boolean) d2 f2) (e2 : d2 + 1 ≤ dp) (h3 : ox_Sem yX4_state cX4_state 1 (some .int) d3 f3) (e3 : d3 + 1 ≤ dp) (hrc : ∀ b, ox_S p l e R s m args below meth c g 5 c0 t0 (ox_QM g below args s c0 t0) b (rc b)) : ox_S p l e R s m args below meth c g 5 c0 t0 (ox_QM g below args s c0 t0) 88 (bX11_tank_88 f1 f2 f3 rc) := by
  refine s_aload_n (pc := 88) C dX11_tank_88 rfl ?_
  refine s_geti (pc := 89) (j := 2) (q := (RX9, TX9, 5)) C rfl (by decide) rfl wF_X11_181 dX11_tank_89 ?_
  exact hrc 92
set_option maxRecDepth 100000 in
theorem kX11_tank_92 (C : ox_C p s m args c g 5 cX11_tank RX11) (hr : meth.sig.returnType = (some .int)) (hlk : meth.locks = false) (hnm : meth.name = "tank") (hR : R.frames = dp ∧ R.locals = 60 * dp) (h1 : ox_Sem yX11_isTank cX11_isTank 1 (some .boolean) d1 f1) (e1 : d1 + 1 ≤ dp) (h2 : ox_Sem yX9_isEmpty cX9_isEmpty 1 (some .boolean) d2 f2) (e2 : d2 + 1 ≤ dp) (h3 : ox_Sem yX4_state cX4_state 1 (some .int) d3 f3) (e3 : d3 + 1 ≤ dp) (hrc : ∀ b, ox_S p l e R s m args below meth c g 5 c0 t0 (ox_QM g below args s c0 t0) b (rc b)) : ox_S p l e R s m args below meth c g 5 c0 t0 (ox_QM g below args s c0 t0) 92 (bX11_tank_92 f1 f2 f3 rc) := by
  exact s_iret (pc := 92) C hr hlk dX11_tank_92
set_option maxRecDepth 100000 in
theorem kX11_tank_93 (C : ox_C p s m args c g 5 cX11_tank RX11) (hr : meth.sig.returnType = (some .int)) (hlk : meth.locks = false) (hnm : meth.name = "tank") (hR : R.frames = dp ∧ R.locals = 60 * dp) (h1 : ox_Sem yX11_isTank cX11_isTank 1 (some .boolean) d1 f1) (e1 : d1 + 1 ≤ dp) (h2 : ox_Sem yX9_isEmpty cX9_isEmpty 1 (some .boolean) d2 f2) (e2 : d2 + 1 ≤ dp) (h3 : ox_Sem yX4_state cX4_state 1 (some .int) d3 f3) (e3 : d3 + 1 ≤ dp) (hrc : ∀ b, ox_S p l e R s m args below meth c g 5 c0 t0 (ox_QM g below args s c0 t0) b (rc b)) : ox_S p l e R s m args below meth c g 5 c0 t0 (ox_QM g below args s c0 t0) 93 (bX11_tank_93 f1 f2 f3 rc) := by
  refine s_aload_n (pc := 93) C dX11_tank_93 rfl ?_
  refine s_geti (pc := 94) (j := 3) (q := (RX9, TX9, 5)) C rfl (by decide) rfl wF_X11_215 dX11_tank_94 ?_
  exact s_iret (pc := 97) C hr hlk dX11_tank_97
set_option maxRecDepth 100000 in
theorem kX11_tank_98 (C : ox_C p s m args c g 5 cX11_tank RX11) (hr : meth.sig.returnType = (some .int)) (hlk : meth.locks = false) (hnm : meth.name = "tank") (hR : R.frames = dp ∧ R.locals = 60 * dp) (h1 : ox_Sem yX11_isTank cX11_isTank 1 (some .boolean) d1 f1) (e1 : d1 + 1 ≤ dp) (h2 : ox_Sem yX9_isEmpty cX9_isEmpty 1 (some .boolean) d2 f2) (e2 : d2 + 1 ≤ dp) (h3 : ox_Sem yX4_state cX4_state 1 (some .int) d3 f3) (e3 : d3 + 1 ≤ dp) (hrc : ∀ b, ox_S p l e R s m args below meth c g 5 c0 t0 (ox_QM g below args s c0 t0) b (rc b)) : ox_S p l e R s m args below meth c g 5 c0 t0 (ox_QM g below args s c0 t0) 98 (bX11_tank_98 f1 f2 f3 rc) := by
  refine s_iload (pc := 98) C dX11_tank_98 ?_
  refine s_ifeq (pc := 100) 108 C dX11_tank_100 (by decide) (hrc 108) ?_
  refine s_ldc (pc := 103) C wK_X11_214 dX11_tank_103 ?_
  exact s_goto (pc := 105) 115 C dX11_tank_105 (by decide) (hrc 115)
set_option maxRecDepth 100000 in
theorem kX11_tank_108 (C : ox_C p s m args c g 5 cX11_tank RX11) (hr : meth.sig.returnType = (some .int)) (hlk : meth.locks = false) (hnm : meth.name = "tank") (hR : R.frames = dp ∧ R.locals = 60 * dp) (h1 : ox_Sem yX11_isTank cX11_isTank 1 (some .boolean) d1 f1) (e1 : d1 + 1 ≤ dp) (h2 : ox_Sem yX9_isEmpty cX9_isEmpty 1 (some .boolean) d2 f2) (e2 : d2 + 1 ≤ dp) (h3 : ox_Sem yX4_state cX4_state 1 (some .int) d3 f3) (e3 : d3 + 1 ≤ dp) (hrc : ∀ b, ox_S p l e R s m args below meth c g 5 c0 t0 (ox_QM g below args s c0 t0) b (rc b)) : ox_S p l e R s m args below meth c g 5 c0 t0 (ox_QM g below args s c0 t0) 108 (bX11_tank_108 f1 f2 f3 rc) := by
  refine s_aload_n (pc := 108) C dX11_tank_108 rfl ?_
  refine s_getr (pc := 109) (j := 4) (q := (RX9, TX9, 5)) C rfl (by decide) rfl wF_X11_204 dX11_tank_109 ?_
  refine s_geti (pc := 112) (j := 0) (q := (RX4, TX4, 2)) C rfl (by decide) rfl wF_X11_159 dX11_tank_112 ?_
  exact hrc 115
set_option maxRecDepth 100000 in
theorem kX11_tank_115 (C : ox_C p s m args c g 5 cX11_tank RX11) (hr : meth.sig.returnType = (some .int)) (hlk : meth.locks = false) (hnm : meth.name = "tank") (hR : R.frames = dp ∧ R.locals = 60 * dp) (h1 : ox_Sem yX11_isTank cX11_isTank 1 (some .boolean) d1 f1) (e1 : d1 + 1 ≤ dp) (h2 : ox_Sem yX9_isEmpty cX9_isEmpty 1 (some .boolean) d2 f2) (e2 : d2 + 1 ≤ dp) (h3 : ox_Sem yX4_state cX4_state 1 (some .int) d3 f3) (e3 : d3 + 1 ≤ dp) (hrc : ∀ b, ox_S p l e R s m args below meth c g 5 c0 t0 (ox_QM g below args s c0 t0) b (rc b)) : ox_S p l e R s m args below meth c g 5 c0 t0 (ox_QM g below args s c0 t0) 115 (bX11_tank_115 f1 f2 f3 rc) := by
  exact s_iret (pc := 115) C hr hlk dX11_tank_115
set_option maxRecDepth 100000 in
theorem kX11_tank_116 (C : ox_C p s m args c g 5 cX11_tank RX11) (hr : meth.sig.returnType = (some .int)) (hlk : meth.locks = false) (hnm : meth.name = "tank") (hR : R.frames = dp ∧ R.locals = 60 * dp) (h1 : ox_Sem yX11_isTank cX11_isTank 1 (some .boolean) d1 f1) (e1 : d1 + 1 ≤ dp) (h2 : ox_Sem yX9_isEmpty cX9_isEmpty 1 (some .boolean) d2 f2) (e2 : d2 + 1 ≤ dp) (h3 : ox_Sem yX4_state cX4_state 1 (some .int) d3 f3) (e3 : d3 + 1 ≤ dp) (hrc : ∀ b, ox_S p l e R s m args below meth c g 5 c0 t0 (ox_QM g below args s c0 t0) b (rc b)) : ox_S p l e R s m args below meth c g 5 c0 t0 (ox_QM g below args s c0 t0) 116 (bX11_tank_116 f1 f2 f3 rc) := by
  refine s_iload (pc := 116) C dX11_tank_116 ?_
  refine s_ifeq (pc := 118) 126 C dX11_tank_118 (by decide) (hrc 126) ?_
  refine s_ldc (pc := 121) C wK_X11_214 dX11_tank_121 ?_
  exact s_goto (pc := 123) 133 C dX11_tank_123 (by decide) (hrc 133)
set_option maxRecDepth 100000 in
theorem kX11_tank_126 (C : ox_C p s m args c g 5 cX11_tank RX11) (hr : meth.sig.returnType = (some .int)) (hlk : meth.locks = false) (hnm : meth.name = "tank") (hR : R.frames = dp ∧ R.locals = 60 * dp) (h1 : ox_Sem yX11_isTank cX11_isTank 1 (some .boolean) d1 f1) (e1 : d1 + 1 ≤ dp) (h2 : ox_Sem yX9_isEmpty cX9_isEmpty 1 (some .boolean) d2 f2) (e2 : d2 + 1 ≤ dp) (h3 : ox_Sem yX4_state cX4_state 1 (some .int) d3 f3) (e3 : d3 + 1 ≤ dp) (hrc : ∀ b, ox_S p l e R s m args below meth c g 5 c0 t0 (ox_QM g below args s c0 t0) b (rc b)) : ox_S p l e R s m args below meth c g 5 c0 t0 (ox_QM g below args s c0 t0) 126 (bX11_tank_126 f1 f2 f3 rc) := by
  refine s_aload_n (pc := 126) C dX11_tank_126 rfl ?_
  refine s_getr (pc := 127) (j := 4) (q := (RX9, TX9, 5)) C rfl (by decide) rfl wF_X11_204 dX11_tank_127 ?_
  refine s_geti (pc := 130) (j := 1) (q := (RX4, TX4, 2)) C rfl (by decide) rfl wF_X11_162 dX11_tank_130 ?_
  exact hrc 133
set_option maxRecDepth 100000 in
theorem kX11_tank_133 (C : ox_C p s m args c g 5 cX11_tank RX11) (hr : meth.sig.returnType = (some .int)) (hlk : meth.locks = false) (hnm : meth.name = "tank") (hR : R.frames = dp ∧ R.locals = 60 * dp) (h1 : ox_Sem yX11_isTank cX11_isTank 1 (some .boolean) d1 f1) (e1 : d1 + 1 ≤ dp) (h2 : ox_Sem yX9_isEmpty cX9_isEmpty 1 (some .boolean) d2 f2) (e2 : d2 + 1 ≤ dp) (h3 : ox_Sem yX4_state cX4_state 1 (some .int) d3 f3) (e3 : d3 + 1 ≤ dp) (hrc : ∀ b, ox_S p l e R s m args below meth c g 5 c0 t0 (ox_QM g below args s c0 t0) b (rc b)) : ox_S p l e R s m args below meth c g 5 c0 t0 (ox_QM g below args s c0 t0) 133 (bX11_tank_133 f1 f2 f3 rc) := by
  exact s_iret (pc := 133) C hr hlk dX11_tank_133
set_option maxRecDepth 100000 in
theorem kX11_tank_134 (C : ox_C p s m args c g 5 cX11_tank RX11) (hr : meth.sig.returnType = (some .int)) (hlk : meth.locks = false) (hnm : meth.name = "tank") (hR : R.frames = dp ∧ R.locals = 60 * dp) (h1 : ox_Sem yX11_isTank cX11_isTank 1 (some .boolean) d1 f1) (e1 : d1 + 1 ≤ dp) (h2 : ox_Sem yX9_isEmpty cX9_isEmpty 1 (some .boolean) d2 f2) (e2 : d2 + 1 ≤ dp) (h3 : ox_Sem yX4_state cX4_state 1 (some .int) d3 f3) (e3 : d3 + 1 ≤ dp) (hrc : ∀ b, ox_S p l e R s m args below meth c g 5 c0 t0 (ox_QM g below args s c0 t0) b (rc b)) : ox_S p l e R s m args below meth c g 5 c0 t0 (ox_QM g below args s c0 t0) 134 (bX11_tank_134 f1 f2 f3 rc) := by
  refine s_iload (pc := 134) C dX11_tank_134 ?_
  refine s_ifeq (pc := 136) 144 C dX11_tank_136 (by decide) (hrc 144) ?_
  refine s_ldc (pc := 139) C wK_X11_214 dX11_tank_139 ?_
  exact s_goto (pc := 141) 151 C dX11_tank_141 (by decide) (hrc 151)
set_option maxRecDepth 100000 in
theorem kX11_tank_144 (C : ox_C p s m args c g 5 cX11_tank RX11) (hr : meth.sig.returnType = (some .int)) (hlk : meth.locks = false) (hnm : meth.name = "tank") (hR : R.frames = dp ∧ R.locals = 60 * dp) (h1 : ox_Sem yX11_isTank cX11_isTank 1 (some .boolean) d1 f1) (e1 : d1 + 1 ≤ dp) (h2 : ox_Sem yX9_isEmpty cX9_isEmpty 1 (some .boolean) d2 f2) (e2 : d2 + 1 ≤ dp) (h3 : ox_Sem yX4_state cX4_state 1 (some .int) d3 f3) (e3 : d3 + 1 ≤ dp) (hrc : ∀ b, ox_S p l e R s m args below meth c g 5 c0 t0 (ox_QM g below args s c0 t0) b (rc b)) : ox_S p l e R s m args below meth c g 5 c0 t0 (ox_QM g below args s c0 t0) 144 (bX11_tank_144 f1 f2 f3 rc) := by
  refine s_aload_n (pc := 144) C dX11_tank_144 rfl ?_
  refine s_getr (pc := 145) (j := 4) (q := (RX9, TX9, 5)) C rfl (by decide) rfl wF_X11_204 dX11_tank_145 ?_
  refine s_cv (pc := 148) (q := (RX4, TX4, 2)) C h3 rfl wM_X11_165 wI_X4_state wS_X4_state wN_X4 wC_X4_state (by decide +kernel) (ox_lv hR e3 (by decide)) dX11_tank_148 ?_
  exact hrc 151
set_option maxRecDepth 100000 in
theorem kX11_tank_151 (C : ox_C p s m args c g 5 cX11_tank RX11) (hr : meth.sig.returnType = (some .int)) (hlk : meth.locks = false) (hnm : meth.name = "tank") (hR : R.frames = dp ∧ R.locals = 60 * dp) (h1 : ox_Sem yX11_isTank cX11_isTank 1 (some .boolean) d1 f1) (e1 : d1 + 1 ≤ dp) (h2 : ox_Sem yX9_isEmpty cX9_isEmpty 1 (some .boolean) d2 f2) (e2 : d2 + 1 ≤ dp) (h3 : ox_Sem yX4_state cX4_state 1 (some .int) d3 f3) (e3 : d3 + 1 ≤ dp) (hrc : ∀ b, ox_S p l e R s m args below meth c g 5 c0 t0 (ox_QM g below args s c0 t0) b (rc b)) : ox_S p l e R s m args below meth c g 5 c0 t0 (ox_QM g below args s c0 t0) 151 (bX11_tank_151 f1 f2 f3 rc) := by
  exact s_iret (pc := 151) C hr hlk dX11_tank_151
set_option maxRecDepth 100000 in
theorem kX11_tank_152 (C : ox_C p s m args c g 5 cX11_tank RX11) (hr : meth.sig.returnType = (some .int)) (hlk : meth.locks = false) (hnm : meth.name = "tank") (hR : R.frames = dp ∧ R.locals = 60 * dp) (h1 : ox_Sem yX11_isTank cX11_isTank 1 (some .boolean) d1 f1) (e1 : d1 + 1 ≤ dp) (h2 : ox_Sem yX9_isEmpty cX9_isEmpty 1 (some .boolean) d2 f2) (e2 : d2 + 1 ≤ dp) (h3 : ox_Sem yX4_state cX4_state 1 (some .int) d3 f3) (e3 : d3 + 1 ≤ dp) (hrc : ∀ b, ox_S p l e R s m args below meth c g 5 c0 t0 (ox_QM g below args s c0 t0) b (rc b)) : ox_S p l e R s m args below meth c g 5 c0 t0 (ox_QM g below args s c0 t0) 152 (bX11_tank_152 f1 f2 f3 rc) := by
  refine s_ldc (pc := 152) C wK_X11_73 dX11_tank_152 ?_
  exact s_iret (pc := 154) C hr hlk dX11_tank_154
end SX11_tank
def bsX11_tank (f1 f2 f3 : ox_F) (b : Nat) (rc : Nat → ox_K) : ox_K := if b = 0 then bX11_tank_0 f1 f2 f3 rc else if b = 10 then bX11_tank_10 f1 f2 f3 rc else if b = 68 then bX11_tank_68 f1 f2 f3 rc else if b = 73 then bX11_tank_73 f1 f2 f3 rc else if b = 78 then bX11_tank_78 f1 f2 f3 rc else if b = 88 then bX11_tank_88 f1 f2 f3 rc else if b = 92 then bX11_tank_92 f1 f2 f3 rc else if b = 93 then bX11_tank_93 f1 f2 f3 rc else if b = 98 then bX11_tank_98 f1 f2 f3 rc else if b = 108 then bX11_tank_108 f1 f2 f3 rc else if b = 115 then bX11_tank_115 f1 f2 f3 rc else if b = 116 then bX11_tank_116 f1 f2 f3 rc else if b = 126 then bX11_tank_126 f1 f2 f3 rc else if b = 133 then bX11_tank_133 f1 f2 f3 rc else if b = 134 then bX11_tank_134 f1 f2 f3 rc else if b = 144 then bX11_tank_144 f1 f2 f3 rc else if b = 151 then bX11_tank_151 f1 f2 f3 rc else if b = 152 then bX11_tank_152 f1 f2 f3 rc else ox_no
theorem mX11_tank {dp d1 d2 d3 : Nat} {f1 f2 f3 f : ox_F} (h1 : ox_Sem yX11_isTank cX11_isTank 1 (some .boolean) d1 f1) (e1 : d1 + 1 ≤ dp) (h2 : ox_Sem yX9_isEmpty cX9_isEmpty 1 (some .boolean) d2 f2) (e2 : d2 + 1 ≤ dp) (h3 : ox_Sem yX4_state cX4_state 1 (some .int) d3 f3) (e3 : d3 + 1 ≤ dp) (hf : ∀ as h r, f as h = some r → ox_cs as ≤ 5 ∧ ox_le h r.2 ∧ ∃ n, ox_run (bsX11_tank f1 f2 f3) n 0 (lv_args 0 as) [] h = some r) : ox_Sem yX11_tank cX11_tank 5 (some .int) dp f := by
  refine ox_meth (bs := bsX11_tank f1 f2 f3) (by decide) hf ?_
  intro p l e R s m args below meth c g c0 t0 C hr hlk hnm hR rc hrc b
  unfold bsX11_tank
  refine ox_br (kX11_tank_0 C hr hlk hnm hR h1 e1 h2 e2 h3 e3 hrc) ?_
  refine ox_br (kX11_tank_10 C hr hlk hnm hR h1 e1 h2 e2 h3 e3 hrc) ?_
  refine ox_br (kX11_tank_68 C hr hlk hnm hR h1 e1 h2 e2 h3 e3 hrc) ?_
  refine ox_br (kX11_tank_73 C hr hlk hnm hR h1 e1 h2 e2 h3 e3 hrc) ?_
  refine ox_br (kX11_tank_78 C hr hlk hnm hR h1 e1 h2 e2 h3 e3 hrc) ?_
  refine ox_br (kX11_tank_88 C hr hlk hnm hR h1 e1 h2 e2 h3 e3 hrc) ?_
  refine ox_br (kX11_tank_92 C hr hlk hnm hR h1 e1 h2 e2 h3 e3 hrc) ?_
  refine ox_br (kX11_tank_93 C hr hlk hnm hR h1 e1 h2 e2 h3 e3 hrc) ?_
  refine ox_br (kX11_tank_98 C hr hlk hnm hR h1 e1 h2 e2 h3 e3 hrc) ?_
  refine ox_br (kX11_tank_108 C hr hlk hnm hR h1 e1 h2 e2 h3 e3 hrc) ?_
  refine ox_br (kX11_tank_115 C hr hlk hnm hR h1 e1 h2 e2 h3 e3 hrc) ?_
  refine ox_br (kX11_tank_116 C hr hlk hnm hR h1 e1 h2 e2 h3 e3 hrc) ?_
  refine ox_br (kX11_tank_126 C hr hlk hnm hR h1 e1 h2 e2 h3 e3 hrc) ?_
  refine ox_br (kX11_tank_133 C hr hlk hnm hR h1 e1 h2 e2 h3 e3 hrc) ?_
  refine ox_br (kX11_tank_134 C hr hlk hnm hR h1 e1 h2 e2 h3 e3 hrc) ?_
  refine ox_br (kX11_tank_144 C hr hlk hnm hR h1 e1 h2 e2 h3 e3 hrc) ?_
  refine ox_br (kX11_tank_151 C hr hlk hnm hR h1 e1 h2 e2 h3 e3 hrc) ?_
  refine ox_br (kX11_tank_152 C hr hlk hnm hR h1 e1 h2 e2 h3 e3 hrc) ?_
  exact s_no
theorem dX11_belt_0 : decode cX11_belt 0 = .ok (.iload_n 1, 1) := by decide +kernel
theorem dX11_belt_1 : decode cX11_belt 1 = .ok (.bipush 6, 2) := by decide +kernel
theorem dX11_belt_3 : decode cX11_belt 3 = .ok (.bipush 15, 2) := by decide +kernel
theorem dX11_belt_5 : decode cX11_belt 5 = .ok (.invokestatic 69, 3) := by decide +kernel
theorem dX11_belt_8 : decode cX11_belt 8 = .ok (.ifCond .ne 6, 3) := by decide +kernel
theorem dX11_belt_11 : decode cX11_belt 11 = .ok (.ldc 73, 2) := by decide +kernel
theorem dX11_belt_13 : decode cX11_belt 13 = .ok (.ireturn, 1) := by decide +kernel
theorem dX11_belt_14 : decode cX11_belt 14 = .ok (.aload_n 0, 1) := by decide +kernel
theorem dX11_belt_15 : decode cX11_belt 15 = .ok (.getfield 42, 3) := by decide +kernel
theorem dX11_belt_18 : decode cX11_belt 18 = .ok (.invokevirtual 218, 3) := by decide +kernel
theorem dX11_belt_21 : decode cX11_belt 21 = .ok (.ifCond .le 6, 3) := by decide +kernel
theorem dX11_belt_24 : decode cX11_belt 24 = .ok (.ldc 196, 2) := by decide +kernel
theorem dX11_belt_26 : decode cX11_belt 26 = .ok (.ireturn, 1) := by decide +kernel
theorem dX11_belt_27 : decode cX11_belt 27 = .ok (.aload_n 0, 1) := by decide +kernel
theorem dX11_belt_28 : decode cX11_belt 28 = .ok (.getfield 42, 3) := by decide +kernel
theorem dX11_belt_31 : decode cX11_belt 31 = .ok (.getfield 221, 3) := by decide +kernel
theorem dX11_belt_34 : decode cX11_belt 34 = .ok (.istore_n 2, 1) := by decide +kernel
theorem dX11_belt_35 : decode cX11_belt 35 = .ok (.aload_n 0, 1) := by decide +kernel
theorem dX11_belt_36 : decode cX11_belt 36 = .ok (.getfield 42, 3) := by decide +kernel
theorem dX11_belt_39 : decode cX11_belt 39 = .ok (.iload_n 1, 1) := by decide +kernel
theorem dX11_belt_40 : decode cX11_belt 40 = .ok (.putfield 221, 3) := by decide +kernel
theorem dX11_belt_43 : decode cX11_belt 43 = .ok (.iload_n 2, 1) := by decide +kernel
theorem dX11_belt_44 : decode cX11_belt 44 = .ok (.ireturn, 1) := by decide +kernel
def bX11_belt_0 (f1 f2 : ox_F) (rc : Nat → ox_K) : ox_K := o_il 1 (o_ic (6) (o_ic (15) (o_ct f1 3 (o_ifne (rc 14) (o_ic (-1000001) (o_iret))))))
def bX11_belt_14 (f1 f2 : ox_F) (rc : Nat → ox_K) : ox_K := o_al 0 (o_getr 11 5 (o_cv f2 2 0 (o_ifle (rc 27) (o_ic (-1000002) (o_iret)))))
def bX11_belt_27 (f1 f2 : ox_F) (rc : Nat → ox_K) : ox_K := o_al 0 (o_getr 11 5 (o_geti 2 2 (o_is 2 (o_al 0 (o_getr 11 5 (o_il 1 (o_puti 2 2 (o_il 2 (o_iret)))))))))
section SX11_belt
variable {p : Program} {l : Launch} {e : Env} {R : Room} {s : State} {m : MethodId} {args : Array Value} {below : List Frame} {meth : Method} {c : Code} {g : ox_G} {c0 t0 dp d1 d2 : Nat} {rc : Nat → ox_K} {f1 f2 : ox_F}
set_option maxRecDepth 100000 in
theorem kX11_belt_0 (C : ox_C p s m args c g 3 cX11_belt RX11) (hr : meth.sig.returnType = (some .int)) (hlk : meth.locks = false) (hnm : meth.name = "belt") (hR : R.frames = dp ∧ R.locals = 60 * dp) (h1 : ox_Sem yX11_within cX11_within 3 (some .boolean) d1 f1) (e1 : d1 + 1 ≤ dp) (h2 : ox_Sem yX2_fullMoulds cX2_fullMoulds 3 (some .int) d2 f2) (e2 : d2 + 1 ≤ dp) (hrc : ∀ b, ox_S p l e R s m args below meth c g 3 c0 t0 (ox_QM g below args s c0 t0) b (rc b)) : ox_S p l e R s m args below meth c g 3 c0 t0 (ox_QM g below args s c0 t0) 0 (bX11_belt_0 f1 f2 rc) := by
  refine s_iload_n (pc := 0) C dX11_belt_0 rfl ?_
  refine s_bipush (pc := 1) C dX11_belt_1 (by decide) ?_
  refine s_bipush (pc := 3) C dX11_belt_3 (by decide) ?_
  refine s_ct (pc := 5) C h1 wM_X11_69 wT_X11_within wN_X11 wC_X11_within (by decide +kernel) (ox_lv hR e1 (by decide)) dX11_belt_5 ?_
  refine s_ifne (pc := 8) 14 C dX11_belt_8 (by decide) (hrc 14) ?_
  refine s_ldc (pc := 11) C wK_X11_73 dX11_belt_11 ?_
  exact s_iret (pc := 13) C hr hlk dX11_belt_13
set_option maxRecDepth 100000 in
theorem kX11_belt_14 (C : ox_C p s m args c g 3 cX11_belt RX11) (hr : meth.sig.returnType = (some .int)) (hlk : meth.locks = false) (hnm : meth.name = "belt") (hR : R.frames = dp ∧ R.locals = 60 * dp) (h1 : ox_Sem yX11_within cX11_within 3 (some .boolean) d1 f1) (e1 : d1 + 1 ≤ dp) (h2 : ox_Sem yX2_fullMoulds cX2_fullMoulds 3 (some .int) d2 f2) (e2 : d2 + 1 ≤ dp) (hrc : ∀ b, ox_S p l e R s m args below meth c g 3 c0 t0 (ox_QM g below args s c0 t0) b (rc b)) : ox_S p l e R s m args below meth c g 3 c0 t0 (ox_QM g below args s c0 t0) 14 (bX11_belt_14 f1 f2 rc) := by
  refine s_aload_n (pc := 14) C dX11_belt_14 rfl ?_
  refine s_getr (pc := 15) (j := 5) (q := (RX11, TX11, 13)) C rfl (by decide) rfl wF_X11_42 dX11_belt_15 ?_
  refine s_cv (pc := 18) (q := (RX2, TX2, 6)) C h2 rfl wM_X11_218 wI_X2_fullMoulds wS_X2_fullMoulds wN_X2 wC_X2_fullMoulds (by decide +kernel) (ox_lv hR e2 (by decide)) dX11_belt_18 ?_
  refine s_ifle (pc := 21) 27 C dX11_belt_21 (by decide) (hrc 27) ?_
  refine s_ldc (pc := 24) C wK_X11_196 dX11_belt_24 ?_
  exact s_iret (pc := 26) C hr hlk dX11_belt_26
set_option maxRecDepth 100000 in
theorem kX11_belt_27 (C : ox_C p s m args c g 3 cX11_belt RX11) (hr : meth.sig.returnType = (some .int)) (hlk : meth.locks = false) (hnm : meth.name = "belt") (hR : R.frames = dp ∧ R.locals = 60 * dp) (h1 : ox_Sem yX11_within cX11_within 3 (some .boolean) d1 f1) (e1 : d1 + 1 ≤ dp) (h2 : ox_Sem yX2_fullMoulds cX2_fullMoulds 3 (some .int) d2 f2) (e2 : d2 + 1 ≤ dp) (hrc : ∀ b, ox_S p l e R s m args below meth c g 3 c0 t0 (ox_QM g below args s c0 t0) b (rc b)) : ox_S p l e R s m args below meth c g 3 c0 t0 (ox_QM g below args s c0 t0) 27 (bX11_belt_27 f1 f2 rc) := by
  refine s_aload_n (pc := 27) C dX11_belt_27 rfl ?_
  refine s_getr (pc := 28) (j := 5) (q := (RX11, TX11, 13)) C rfl (by decide) rfl wF_X11_42 dX11_belt_28 ?_
  refine s_geti (pc := 31) (j := 2) (q := (RX2, TX2, 6)) C rfl (by decide) rfl wF_X11_221 dX11_belt_31 ?_
  refine s_istore_n (pc := 34) C dX11_belt_34 rfl (by decide) ?_
  refine s_aload_n (pc := 35) C dX11_belt_35 rfl ?_
  refine s_getr (pc := 36) (j := 5) (q := (RX11, TX11, 13)) C rfl (by decide) rfl wF_X11_42 dX11_belt_36 ?_
  refine s_iload_n (pc := 39) C dX11_belt_39 rfl ?_
  refine s_puti (pc := 40) (j := 2) (q := (RX2, TX2, 6)) C rfl (by decide) rfl (Or.inl rfl) wF_X11_221 dX11_belt_40 ?_
  refine s_iload_n (pc := 43) C dX11_belt_43 rfl ?_
  exact s_iret (pc := 44) C hr hlk dX11_belt_44
end SX11_belt
def bsX11_belt (f1 f2 : ox_F) (b : Nat) (rc : Nat → ox_K) : ox_K := if b = 0 then bX11_belt_0 f1 f2 rc else if b = 14 then bX11_belt_14 f1 f2 rc else if b = 27 then bX11_belt_27 f1 f2 rc else ox_no
theorem mX11_belt {dp d1 d2 : Nat} {f1 f2 f : ox_F} (h1 : ox_Sem yX11_within cX11_within 3 (some .boolean) d1 f1) (e1 : d1 + 1 ≤ dp) (h2 : ox_Sem yX2_fullMoulds cX2_fullMoulds 3 (some .int) d2 f2) (e2 : d2 + 1 ≤ dp) (hf : ∀ as h r, f as h = some r → ox_cs as ≤ 3 ∧ ox_le h r.2 ∧ ∃ n, ox_run (bsX11_belt f1 f2) n 0 (lv_args 0 as) [] h = some r) : ox_Sem yX11_belt cX11_belt 3 (some .int) dp f := by
  refine ox_meth (bs := bsX11_belt f1 f2) (by decide) hf ?_
  intro p l e R s m args below meth c g c0 t0 C hr hlk hnm hR rc hrc b
  unfold bsX11_belt
  refine ox_br (kX11_belt_0 C hr hlk hnm hR h1 e1 h2 e2 hrc) ?_
  refine ox_br (kX11_belt_14 C hr hlk hnm hR h1 e1 h2 e2 hrc) ?_
  refine ox_br (kX11_belt_27 C hr hlk hnm hR h1 e1 h2 e2 hrc) ?_
  exact s_no
theorem dX11_gear_0 : decode cX11_gear 0 = .ok (.iload_n 1, 1) := by decide +kernel
theorem dX11_gear_1 : decode cX11_gear 1 = .ok (.iconst 0, 1) := by decide +kernel
theorem dX11_gear_2 : decode cX11_gear 2 = .ok (.bipush 14, 2) := by decide +kernel
theorem dX11_gear_4 : decode cX11_gear 4 = .ok (.invokestatic 69, 3) := by decide +kernel
theorem dX11_gear_7 : decode cX11_gear 7 = .ok (.ifCond .eq 20, 3) := by decide +kernel
theorem dX11_gear_10 : decode cX11_gear 10 = .ok (.iload_n 2, 1) := by decide +kernel
theorem dX11_gear_11 : decode cX11_gear 11 = .ok (.getstatic 224, 3) := by decide +kernel
theorem dX11_gear_14 : decode cX11_gear 14 = .ok (.iload_n 1, 1) := by decide +kernel
theorem dX11_gear_15 : decode cX11_gear 15 = .ok (.iaload, 1) := by decide +kernel
theorem dX11_gear_16 : decode cX11_gear 16 = .ok (.getstatic 227, 3) := by decide +kernel
theorem dX11_gear_19 : decode cX11_gear 19 = .ok (.iload_n 1, 1) := by decide +kernel
theorem dX11_gear_20 : decode cX11_gear 20 = .ok (.iaload, 1) := by decide +kernel
theorem dX11_gear_21 : decode cX11_gear 21 = .ok (.invokestatic 69, 3) := by decide +kernel
theorem dX11_gear_24 : decode cX11_gear 24 = .ok (.ifCond .ne 6, 3) := by decide +kernel
theorem dX11_gear_27 : decode cX11_gear 27 = .ok (.ldc 73, 2) := by decide +kernel
theorem dX11_gear_29 : decode cX11_gear 29 = .ok (.ireturn, 1) := by decide +kernel
theorem dX11_gear_30 : decode cX11_gear 30 = .ok (.aload_n 0, 1) := by decide +kernel
theorem dX11_gear_31 : decode cX11_gear 31 = .ok (.getfield 42, 3) := by decide +kernel
theorem dX11_gear_34 : decode cX11_gear 34 = .ok (.getfield 230, 3) := by decide +kernel
theorem dX11_gear_37 : decode cX11_gear 37 = .ok (.iload_n 1, 1) := by decide +kernel
theorem dX11_gear_38 : decode cX11_gear 38 = .ok (.iaload, 1) := by decide +kernel
theorem dX11_gear_39 : decode cX11_gear 39 = .ok (.istore_n 3, 1) := by decide +kernel
theorem dX11_gear_40 : decode cX11_gear 40 = .ok (.aload_n 0, 1) := by decide +kernel
theorem dX11_gear_41 : decode cX11_gear 41 = .ok (.getfield 42, 3) := by decide +kernel
theorem dX11_gear_44 : decode cX11_gear 44 = .ok (.getfield 230, 3) := by decide +kernel
theorem dX11_gear_47 : decode cX11_gear 47 = .ok (.iload_n 1, 1) := by decide +kernel
theorem dX11_gear_48 : decode cX11_gear 48 = .ok (.iload_n 2, 1) := by decide +kernel
theorem dX11_gear_49 : decode cX11_gear 49 = .ok (.iastore, 1) := by decide +kernel
theorem dX11_gear_50 : decode cX11_gear 50 = .ok (.iload_n 3, 1) := by decide +kernel
theorem dX11_gear_51 : decode cX11_gear 51 = .ok (.ireturn, 1) := by decide +kernel
def bX11_gear_0 (f1 : ox_F) (rc : Nat → ox_K) : ox_K := o_il 1 (o_ic (0) (o_ic (14) (o_ct f1 3 (o_ifeq (rc 27) (o_il 2 (o_gs 3 (o_il 1 (o_ia (o_gs 4 (o_il 1 (o_ia (o_ct f1 3 (o_ifne (rc 30) (rc 27))))))))))))))
def bX11_gear_27 (f1 : ox_F) (rc : Nat → ox_K) : ox_K := o_ic (-1000001) (o_iret)
def bX11_gear_30 (f1 : ox_F) (rc : Nat → ox_K) : ox_K := o_al 0 (o_getr 11 5 (o_getr 2 1 (o_il 1 (o_ia (o_is 3 (o_al 0 (o_getr 11 5 (o_getr 2 1 (o_il 1 (o_il 2 (o_iast (o_il 3 (o_iret)))))))))))))
section SX11_gear
variable {p : Program} {l : Launch} {e : Env} {R : Room} {s : State} {m : MethodId} {args : Array Value} {below : List Frame} {meth : Method} {c : Code} {g : ox_G} {c0 t0 dp d1 : Nat} {rc : Nat → ox_K} {f1 : ox_F}
set_option maxRecDepth 100000 in
theorem kX11_gear_0 (C : ox_C p s m args c g 4 cX11_gear RX11) (hr : meth.sig.returnType = (some .int)) (hlk : meth.locks = false) (hnm : meth.name = "gear") (hR : R.frames = dp ∧ R.locals = 60 * dp) (h1 : ox_Sem yX11_within cX11_within 3 (some .boolean) d1 f1) (e1 : d1 + 1 ≤ dp) (hrc : ∀ b, ox_S p l e R s m args below meth c g 4 c0 t0 (ox_QM g below args s c0 t0) b (rc b)) : ox_S p l e R s m args below meth c g 4 c0 t0 (ox_QM g below args s c0 t0) 0 (bX11_gear_0 f1 rc) := by
  refine s_iload_n (pc := 0) C dX11_gear_0 rfl ?_
  refine s_iconst (pc := 1) C dX11_gear_1 (by decide) ?_
  refine s_bipush (pc := 2) C dX11_gear_2 (by decide) ?_
  refine s_ct (pc := 4) C h1 wM_X11_69 wT_X11_within wN_X11 wC_X11_within (by decide +kernel) (ox_lv hR e1 (by decide)) dX11_gear_4 ?_
  refine s_ifeq (pc := 7) 27 C dX11_gear_7 (by decide) (hrc 27) ?_
  refine s_iload_n (pc := 10) C dX11_gear_10 rfl ?_
  refine s_gs (pc := 11) (C1 := "SweetLine$Belt") (n1 := "GEAR_LEAST") (d1 := "[I") C (by decide +kernel) wF_X11_224 dX11_gear_11 ?_
  refine s_iload_n (pc := 14) C dX11_gear_14 rfl ?_
  refine s_ia (pc := 15) C dX11_gear_15 ?_
  refine s_gs (pc := 16) (C1 := "SweetLine$Belt") (n1 := "GEAR_MOST") (d1 := "[I") C (by decide +kernel) wF_X11_227 dX11_gear_16 ?_
  refine s_iload_n (pc := 19) C dX11_gear_19 rfl ?_
  refine s_ia (pc := 20) C dX11_gear_20 ?_
  refine s_ct (pc := 21) C h1 wM_X11_69 wT_X11_within wN_X11 wC_X11_within (by decide +kernel) (ox_lv hR e1 (by decide)) dX11_gear_21 ?_
  refine s_ifne (pc := 24) 30 C dX11_gear_24 (by decide) (hrc 30) ?_
  exact hrc 27
set_option maxRecDepth 100000 in
theorem kX11_gear_27 (C : ox_C p s m args c g 4 cX11_gear RX11) (hr : meth.sig.returnType = (some .int)) (hlk : meth.locks = false) (hnm : meth.name = "gear") (hR : R.frames = dp ∧ R.locals = 60 * dp) (h1 : ox_Sem yX11_within cX11_within 3 (some .boolean) d1 f1) (e1 : d1 + 1 ≤ dp) (hrc : ∀ b, ox_S p l e R s m args below meth c g 4 c0 t0 (ox_QM g below args s c0 t0) b (rc b)) : ox_S p l e R s m args below meth c g 4 c0 t0 (ox_QM g below args s c0 t0) 27 (bX11_gear_27 f1 rc) := by
  refine s_ldc (pc := 27) C wK_X11_73 dX11_gear_27 ?_
  exact s_iret (pc := 29) C hr hlk dX11_gear_29
set_option maxRecDepth 100000 in
theorem kX11_gear_30 (C : ox_C p s m args c g 4 cX11_gear RX11) (hr : meth.sig.returnType = (some .int)) (hlk : meth.locks = false) (hnm : meth.name = "gear") (hR : R.frames = dp ∧ R.locals = 60 * dp) (h1 : ox_Sem yX11_within cX11_within 3 (some .boolean) d1 f1) (e1 : d1 + 1 ≤ dp) (hrc : ∀ b, ox_S p l e R s m args below meth c g 4 c0 t0 (ox_QM g below args s c0 t0) b (rc b)) : ox_S p l e R s m args below meth c g 4 c0 t0 (ox_QM g below args s c0 t0) 30 (bX11_gear_30 f1 rc) := by
  refine s_aload_n (pc := 30) C dX11_gear_30 rfl ?_
  refine s_getr (pc := 31) (j := 5) (q := (RX11, TX11, 13)) C rfl (by decide) rfl wF_X11_42 dX11_gear_31 ?_
  refine s_getr (pc := 34) (j := 1) (q := (RX2, TX2, 6)) C rfl (by decide) rfl wF_X11_230 dX11_gear_34 ?_
  refine s_iload_n (pc := 37) C dX11_gear_37 rfl ?_
  refine s_ia (pc := 38) C dX11_gear_38 ?_
  refine s_istore_n (pc := 39) C dX11_gear_39 rfl (by decide) ?_
  refine s_aload_n (pc := 40) C dX11_gear_40 rfl ?_
  refine s_getr (pc := 41) (j := 5) (q := (RX11, TX11, 13)) C rfl (by decide) rfl wF_X11_42 dX11_gear_41 ?_
  refine s_getr (pc := 44) (j := 1) (q := (RX2, TX2, 6)) C rfl (by decide) rfl wF_X11_230 dX11_gear_44 ?_
  refine s_iload_n (pc := 47) C dX11_gear_47 rfl ?_
  refine s_iload_n (pc := 48) C dX11_gear_48 rfl ?_
  refine s_iast (pc := 49) C dX11_gear_49 ?_
  refine s_iload_n (pc := 50) C dX11_gear_50 rfl ?_
  exact s_iret (pc := 51) C hr hlk dX11_gear_51
end SX11_gear
def bsX11_gear (f1 : ox_F) (b : Nat) (rc : Nat → ox_K) : ox_K := if b = 0 then bX11_gear_0 f1 rc else if b = 27 then bX11_gear_27 f1 rc else if b = 30 then bX11_gear_30 f1 rc else ox_no
theorem mX11_gear {dp d1 : Nat} {f1 f : ox_F} (h1 : ox_Sem yX11_within cX11_within 3 (some .boolean) d1 f1) (e1 : d1 + 1 ≤ dp) (hf : ∀ as h r, f as h = some r → ox_cs as ≤ 4 ∧ ox_le h r.2 ∧ ∃ n, ox_run (bsX11_gear f1) n 0 (lv_args 0 as) [] h = some r) : ox_Sem yX11_gear cX11_gear 4 (some .int) dp f := by
  refine ox_meth (bs := bsX11_gear f1) (by decide) hf ?_
  intro p l e R s m args below meth c g c0 t0 C hr hlk hnm hR rc hrc b
  unfold bsX11_gear
  refine ox_br (kX11_gear_0 C hr hlk hnm hR h1 e1 hrc) ?_
  refine ox_br (kX11_gear_27 C hr hlk hnm hR h1 e1 hrc) ?_
  refine ox_br (kX11_gear_30 C hr hlk hnm hR h1 e1 hrc) ?_
  exact s_no
theorem dX11_beat_0 : decode cX11_beat 0 = .ok (.iload_n 1, 1) := by decide +kernel
theorem dX11_beat_1 : decode cX11_beat 1 = .ok (.iconst 1, 1) := by decide +kernel
theorem dX11_beat_2 : decode cX11_beat 2 = .ok (.bipush 100, 2) := by decide +kernel
theorem dX11_beat_4 : decode cX11_beat 4 = .ok (.invokestatic 69, 3) := by decide +kernel
theorem dX11_beat_7 : decode cX11_beat 7 = .ok (.ifCond .ne 6, 3) := by decide +kernel
theorem dX11_beat_10 : decode cX11_beat 10 = .ok (.ldc 73, 2) := by decide +kernel
theorem dX11_beat_12 : decode cX11_beat 12 = .ok (.ireturn, 1) := by decide +kernel
theorem dX11_beat_13 : decode cX11_beat 13 = .ok (.aload_n 0, 1) := by decide +kernel
theorem dX11_beat_14 : decode cX11_beat 14 = .ok (.getfield 49, 3) := by decide +kernel
theorem dX11_beat_17 : decode cX11_beat 17 = .ok (.getfield 233, 3) := by decide +kernel
theorem dX11_beat_20 : decode cX11_beat 20 = .ok (.istore_n 2, 1) := by decide +kernel
theorem dX11_beat_21 : decode cX11_beat 21 = .ok (.iconst 0, 1) := by decide +kernel
theorem dX11_beat_22 : decode cX11_beat 22 = .ok (.istore_n 3, 1) := by decide +kernel
theorem dX11_beat_23 : decode cX11_beat 23 = .ok (.iload_n 3, 1) := by decide +kernel
theorem dX11_beat_24 : decode cX11_beat 24 = .ok (.iload_n 1, 1) := by decide +kernel
theorem dX11_beat_25 : decode cX11_beat 25 = .ok (.if_icmp .ge 34, 3) := by decide +kernel
theorem dX11_beat_28 : decode cX11_beat 28 = .ok (.aload_n 0, 1) := by decide +kernel
theorem dX11_beat_29 : decode cX11_beat 29 = .ok (.getfield 42, 3) := by decide +kernel
theorem dX11_beat_32 : decode cX11_beat 32 = .ok (.aload_n 0, 1) := by decide +kernel
theorem dX11_beat_33 : decode cX11_beat 33 = .ok (.getfield 31, 3) := by decide +kernel
theorem dX11_beat_36 : decode cX11_beat 36 = .ok (.aload_n 0, 1) := by decide +kernel
theorem dX11_beat_37 : decode cX11_beat 37 = .ok (.getfield 42, 3) := by decide +kernel
theorem dX11_beat_40 : decode cX11_beat 40 = .ok (.getfield 230, 3) := by decide +kernel
theorem dX11_beat_43 : decode cX11_beat 43 = .ok (.iconst 2, 1) := by decide +kernel
theorem dX11_beat_44 : decode cX11_beat 44 = .ok (.iaload, 1) := by decide +kernel
theorem dX11_beat_45 : decode cX11_beat 45 = .ok (.aaload, 1) := by decide +kernel
theorem dX11_beat_46 : decode cX11_beat 46 = .ok (.aload_n 0, 1) := by decide +kernel
theorem dX11_beat_47 : decode cX11_beat 47 = .ok (.getfield 49, 3) := by decide +kernel
theorem dX11_beat_50 : decode cX11_beat 50 = .ok (.invokevirtual 236, 3) := by decide +kernel
theorem dX11_beat_53 : decode cX11_beat 53 = .ok (.iinc 3 1, 3) := by decide +kernel
theorem dX11_beat_56 : decode cX11_beat 56 = .ok (.goto (-33), 3) := by decide +kernel
theorem dX11_beat_59 : decode cX11_beat 59 = .ok (.aload_n 0, 1) := by decide +kernel
theorem dX11_beat_60 : decode cX11_beat 60 = .ok (.getfield 49, 3) := by decide +kernel
theorem dX11_beat_63 : decode cX11_beat 63 = .ok (.getfield 233, 3) := by decide +kernel
theorem dX11_beat_66 : decode cX11_beat 66 = .ok (.iload_n 2, 1) := by decide +kernel
theorem dX11_beat_67 : decode cX11_beat 67 = .ok (.isub, 1) := by decide +kernel
theorem dX11_beat_68 : decode cX11_beat 68 = .ok (.ireturn, 1) := by decide +kernel
def bX11_beat_0 (f1 f2 : ox_F) (rc : Nat → ox_K) : ox_K := o_il 1 (o_ic (1) (o_ic (100) (o_ct f1 3 (o_ifne (rc 13) (o_ic (-1000001) (o_iret))))))
def bX11_beat_13 (f1 f2 : ox_F) (rc : Nat → ox_K) : ox_K := o_al 0 (o_getr 11 6 (o_geti 1 2 (o_is 2 (o_ic (0) (o_is 3 (rc 23))))))
def bX11_beat_23 (f1 f2 : ox_F) (rc : Nat → ox_K) : ox_K := o_keep [0, 1, 2, 3] (o_il 3 (o_il 1 (o_icge (rc 59) (o_al 0 (o_getr 11 5 (o_al 0 (o_getr 11 3 (o_al 0 (o_getr 11 5 (o_getr 2 1 (o_ic (2) (o_ia (o_aa 9 (o_al 0 (o_getr 11 6 (o_cv f2 2 2 (o_inc 3 (1) (rc 23))))))))))))))))))
def bX11_beat_59 (f1 f2 : ox_F) (rc : Nat → ox_K) : ox_K := o_al 0 (o_getr 11 6 (o_geti 1 2 (o_il 2 (o_isub (o_iret)))))
section SX11_beat
variable {p : Program} {l : Launch} {e : Env} {R : Room} {s : State} {m : MethodId} {args : Array Value} {below : List Frame} {meth : Method} {c : Code} {g : ox_G} {c0 t0 dp d1 d2 : Nat} {rc : Nat → ox_K} {f1 f2 : ox_F}
set_option maxRecDepth 100000 in
theorem kX11_beat_0 (C : ox_C p s m args c g 4 cX11_beat RX11) (hr : meth.sig.returnType = (some .int)) (hlk : meth.locks = false) (hnm : meth.name = "beat") (hR : R.frames = dp ∧ R.locals = 60 * dp) (h1 : ox_Sem yX11_within cX11_within 3 (some .boolean) d1 f1) (e1 : d1 + 1 ≤ dp) (h2 : ox_Sem yX2_advance cX2_advance 4 none d2 f2) (e2 : d2 + 1 ≤ dp) (hrc : ∀ b, ox_S p l e R s m args below meth c g 4 c0 t0 (ox_QM g below args s c0 t0) b (rc b)) : ox_S p l e R s m args below meth c g 4 c0 t0 (ox_QM g below args s c0 t0) 0 (bX11_beat_0 f1 f2 rc) := by
  refine s_iload_n (pc := 0) C dX11_beat_0 rfl ?_
  refine s_iconst (pc := 1) C dX11_beat_1 (by decide) ?_
  refine s_bipush (pc := 2) C dX11_beat_2 (by decide) ?_
  refine s_ct (pc := 4) C h1 wM_X11_69 wT_X11_within wN_X11 wC_X11_within (by decide +kernel) (ox_lv hR e1 (by decide)) dX11_beat_4 ?_
  refine s_ifne (pc := 7) 13 C dX11_beat_7 (by decide) (hrc 13) ?_
  refine s_ldc (pc := 10) C wK_X11_73 dX11_beat_10 ?_
  exact s_iret (pc := 12) C hr hlk dX11_beat_12
set_option maxRecDepth 100000 in
theorem kX11_beat_13 (C : ox_C p s m args c g 4 cX11_beat RX11) (hr : meth.sig.returnType = (some .int)) (hlk : meth.locks = false) (hnm : meth.name = "beat") (hR : R.frames = dp ∧ R.locals = 60 * dp) (h1 : ox_Sem yX11_within cX11_within 3 (some .boolean) d1 f1) (e1 : d1 + 1 ≤ dp) (h2 : ox_Sem yX2_advance cX2_advance 4 none d2 f2) (e2 : d2 + 1 ≤ dp) (hrc : ∀ b, ox_S p l e R s m args below meth c g 4 c0 t0 (ox_QM g below args s c0 t0) b (rc b)) : ox_S p l e R s m args below meth c g 4 c0 t0 (ox_QM g below args s c0 t0) 13 (bX11_beat_13 f1 f2 rc) := by
  refine s_aload_n (pc := 13) C dX11_beat_13 rfl ?_
  refine s_getr (pc := 14) (j := 6) (q := (RX11, TX11, 13)) C rfl (by decide) rfl wF_X11_49 dX11_beat_14 ?_
  refine s_geti (pc := 17) (j := 2) (q := (RX1, TX1, 7)) C rfl (by decide) rfl wF_X11_233 dX11_beat_17 ?_
  refine s_istore_n (pc := 20) C dX11_beat_20 rfl (by decide) ?_
  refine s_iconst (pc := 21) C dX11_beat_21 (by decide) ?_
  refine s_istore_n (pc := 22) C dX11_beat_22 rfl (by decide) ?_
  exact hrc 23
set_option maxRecDepth 100000 in
theorem kX11_beat_23 (C : ox_C p s m args c g 4 cX11_beat RX11) (hr : meth.sig.returnType = (some .int)) (hlk : meth.locks = false) (hnm : meth.name = "beat") (hR : R.frames = dp ∧ R.locals = 60 * dp) (h1 : ox_Sem yX11_within cX11_within 3 (some .boolean) d1 f1) (e1 : d1 + 1 ≤ dp) (h2 : ox_Sem yX2_advance cX2_advance 4 none d2 f2) (e2 : d2 + 1 ≤ dp) (hrc : ∀ b, ox_S p l e R s m args below meth c g 4 c0 t0 (ox_QM g below args s c0 t0) b (rc b)) : ox_S p l e R s m args below meth c g 4 c0 t0 (ox_QM g below args s c0 t0) 23 (bX11_beat_23 f1 f2 rc) := by
  refine s_keep ?_
  refine s_iload_n (pc := 23) C dX11_beat_23 rfl ?_
  refine s_iload_n (pc := 24) C dX11_beat_24 rfl ?_
  refine s_icmpge (pc := 25) 59 C dX11_beat_25 (by decide) (hrc 59) ?_
  refine s_aload_n (pc := 28) C dX11_beat_28 rfl ?_
  refine s_getr (pc := 29) (j := 5) (q := (RX11, TX11, 13)) C rfl (by decide) rfl wF_X11_42 dX11_beat_29 ?_
  refine s_aload_n (pc := 32) C dX11_beat_32 rfl ?_
  refine s_getr (pc := 33) (j := 3) (q := (RX11, TX11, 13)) C rfl (by decide) rfl wF_X11_31 dX11_beat_33 ?_
  refine s_aload_n (pc := 36) C dX11_beat_36 rfl ?_
  refine s_getr (pc := 37) (j := 5) (q := (RX11, TX11, 13)) C rfl (by decide) rfl wF_X11_42 dX11_beat_37 ?_
  refine s_getr (pc := 40) (j := 1) (q := (RX2, TX2, 6)) C rfl (by decide) rfl wF_X11_230 dX11_beat_40 ?_
  refine s_iconst (pc := 43) C dX11_beat_43 (by decide) ?_
  refine s_ia (pc := 44) C dX11_beat_44 ?_
  refine s_aa (pc := 45) (q := (RX9, TX9, 5)) 7 C rfl dX11_beat_45 ?_
  refine s_aload_n (pc := 46) C dX11_beat_46 rfl ?_
  refine s_getr (pc := 47) (j := 6) (q := (RX11, TX11, 13)) C rfl (by decide) rfl wF_X11_49 dX11_beat_47 ?_
  refine s_cv (pc := 50) (q := (RX2, TX2, 6)) C h2 rfl wM_X11_236 wI_X2_advance wS_X2_advance wN_X2 wC_X2_advance (by decide +kernel) (ox_lv hR e2 (by decide)) dX11_beat_50 ?_
  refine s_iinc (pc := 53) C dX11_beat_53 (by decide) (by decide) ?_
  exact s_goto (pc := 56) 23 C dX11_beat_56 (by decide) (hrc 23)
set_option maxRecDepth 100000 in
theorem kX11_beat_59 (C : ox_C p s m args c g 4 cX11_beat RX11) (hr : meth.sig.returnType = (some .int)) (hlk : meth.locks = false) (hnm : meth.name = "beat") (hR : R.frames = dp ∧ R.locals = 60 * dp) (h1 : ox_Sem yX11_within cX11_within 3 (some .boolean) d1 f1) (e1 : d1 + 1 ≤ dp) (h2 : ox_Sem yX2_advance cX2_advance 4 none d2 f2) (e2 : d2 + 1 ≤ dp) (hrc : ∀ b, ox_S p l e R s m args below meth c g 4 c0 t0 (ox_QM g below args s c0 t0) b (rc b)) : ox_S p l e R s m args below meth c g 4 c0 t0 (ox_QM g below args s c0 t0) 59 (bX11_beat_59 f1 f2 rc) := by
  refine s_aload_n (pc := 59) C dX11_beat_59 rfl ?_
  refine s_getr (pc := 60) (j := 6) (q := (RX11, TX11, 13)) C rfl (by decide) rfl wF_X11_49 dX11_beat_60 ?_
  refine s_geti (pc := 63) (j := 2) (q := (RX1, TX1, 7)) C rfl (by decide) rfl wF_X11_233 dX11_beat_63 ?_
  refine s_iload_n (pc := 66) C dX11_beat_66 rfl ?_
  refine s_isub (pc := 67) C dX11_beat_67 ?_
  exact s_iret (pc := 68) C hr hlk dX11_beat_68
end SX11_beat
def bsX11_beat (f1 f2 : ox_F) (b : Nat) (rc : Nat → ox_K) : ox_K := if b = 0 then bX11_beat_0 f1 f2 rc else if b = 13 then bX11_beat_13 f1 f2 rc else if b = 23 then bX11_beat_23 f1 f2 rc else if b = 59 then bX11_beat_59 f1 f2 rc else ox_no
theorem mX11_beat {dp d1 d2 : Nat} {f1 f2 f : ox_F} (h1 : ox_Sem yX11_within cX11_within 3 (some .boolean) d1 f1) (e1 : d1 + 1 ≤ dp) (h2 : ox_Sem yX2_advance cX2_advance 4 none d2 f2) (e2 : d2 + 1 ≤ dp) (hf : ∀ as h r, f as h = some r → ox_cs as ≤ 4 ∧ ox_le h r.2 ∧ ∃ n, ox_run (bsX11_beat f1 f2) n 0 (lv_args 0 as) [] h = some r) : ox_Sem yX11_beat cX11_beat 4 (some .int) dp f := by
  refine ox_meth (bs := bsX11_beat f1 f2) (by decide) hf ?_
  intro p l e R s m args below meth c g c0 t0 C hr hlk hnm hR rc hrc b
  unfold bsX11_beat
  refine ox_br (kX11_beat_0 C hr hlk hnm hR h1 e1 h2 e2 hrc) ?_
  refine ox_br (kX11_beat_13 C hr hlk hnm hR h1 e1 h2 e2 hrc) ?_
  refine ox_br (kX11_beat_23 C hr hlk hnm hR h1 e1 h2 e2 hrc) ?_
  refine ox_br (kX11_beat_59 C hr hlk hnm hR h1 e1 h2 e2 hrc) ?_
  exact s_no
theorem dX11_mould_0 : decode cX11_mould 0 = .ok (.iload_n 1, 1) := by decide +kernel
theorem dX11_mould_1 : decode cX11_mould 1 = .ok (.iconst 0, 1) := by decide +kernel
theorem dX11_mould_2 : decode cX11_mould 2 = .ok (.aload_n 0, 1) := by decide +kernel
theorem dX11_mould_3 : decode cX11_mould 3 = .ok (.getfield 42, 3) := by decide +kernel
theorem dX11_mould_6 : decode cX11_mould 6 = .ok (.getfield 221, 3) := by decide +kernel
theorem dX11_mould_9 : decode cX11_mould 9 = .ok (.iconst 1, 1) := by decide +kernel
theorem dX11_mould_10 : decode cX11_mould 10 = .ok (.isub, 1) := by decide +kernel
theorem dX11_mould_11 : decode cX11_mould 11 = .ok (.invokestatic 69, 3) := by decide +kernel
theorem dX11_mould_14 : decode cX11_mould 14 = .ok (.ifCond .eq 12, 3) := by decide +kernel
theorem dX11_mould_17 : decode cX11_mould 17 = .ok (.iload_n 2, 1) := by decide +kernel
theorem dX11_mould_18 : decode cX11_mould 18 = .ok (.iconst 0, 1) := by decide +kernel
theorem dX11_mould_19 : decode cX11_mould 19 = .ok (.iconst 5, 1) := by decide +kernel
theorem dX11_mould_20 : decode cX11_mould 20 = .ok (.invokestatic 69, 3) := by decide +kernel
theorem dX11_mould_23 : decode cX11_mould 23 = .ok (.ifCond .ne 6, 3) := by decide +kernel
theorem dX11_mould_26 : decode cX11_mould 26 = .ok (.ldc 73, 2) := by decide +kernel
theorem dX11_mould_28 : decode cX11_mould 28 = .ok (.ireturn, 1) := by decide +kernel
theorem dX11_mould_29 : decode cX11_mould 29 = .ok (.aload_n 0, 1) := by decide +kernel
theorem dX11_mould_30 : decode cX11_mould 30 = .ok (.getfield 42, 3) := by decide +kernel
theorem dX11_mould_33 : decode cX11_mould 33 = .ok (.getfield 240, 3) := by decide +kernel
theorem dX11_mould_36 : decode cX11_mould 36 = .ok (.iload_n 1, 1) := by decide +kernel
theorem dX11_mould_37 : decode cX11_mould 37 = .ok (.aaload, 1) := by decide +kernel
theorem dX11_mould_38 : decode cX11_mould 38 = .ok (.astore_n 3, 1) := by decide +kernel
theorem dX11_mould_39 : decode cX11_mould 39 = .ok (.aload_n 3, 1) := by decide +kernel
theorem dX11_mould_40 : decode cX11_mould 40 = .ok (.invokevirtual 244, 3) := by decide +kernel
theorem dX11_mould_43 : decode cX11_mould 43 = .ok (.ifCond .eq 6, 3) := by decide +kernel
theorem dX11_mould_46 : decode cX11_mould 46 = .ok (.ldc 214, 2) := by decide +kernel
theorem dX11_mould_48 : decode cX11_mould 48 = .ok (.ireturn, 1) := by decide +kernel
theorem dX11_mould_49 : decode cX11_mould 49 = .ok (.iload_n 2, 1) := by decide +kernel
theorem dX11_mould_50 : decode cX11_mould 50 = .ok (.tableswitch 67 0 4 #[34, 39, 44, 49, 54], 34) := by decide +kernel
theorem dX11_mould_84 : decode cX11_mould 84 = .ok (.aload_n 3, 1) := by decide +kernel
theorem dX11_mould_85 : decode cX11_mould 85 = .ok (.getfield 247, 3) := by decide +kernel
theorem dX11_mould_88 : decode cX11_mould 88 = .ok (.ireturn, 1) := by decide +kernel
theorem dX11_mould_89 : decode cX11_mould 89 = .ok (.aload_n 3, 1) := by decide +kernel
theorem dX11_mould_90 : decode cX11_mould 90 = .ok (.getfield 250, 3) := by decide +kernel
theorem dX11_mould_93 : decode cX11_mould 93 = .ok (.ireturn, 1) := by decide +kernel
theorem dX11_mould_94 : decode cX11_mould 94 = .ok (.aload_n 3, 1) := by decide +kernel
theorem dX11_mould_95 : decode cX11_mould 95 = .ok (.getfield 253, 3) := by decide +kernel
theorem dX11_mould_98 : decode cX11_mould 98 = .ok (.ireturn, 1) := by decide +kernel
theorem dX11_mould_99 : decode cX11_mould 99 = .ok (.aload_n 3, 1) := by decide +kernel
theorem dX11_mould_100 : decode cX11_mould 100 = .ok (.getfield 254, 3) := by decide +kernel
theorem dX11_mould_103 : decode cX11_mould 103 = .ok (.ireturn, 1) := by decide +kernel
theorem dX11_mould_104 : decode cX11_mould 104 = .ok (.aload_n 3, 1) := by decide +kernel
theorem dX11_mould_105 : decode cX11_mould 105 = .ok (.getfield 255, 3) := by decide +kernel
theorem dX11_mould_108 : decode cX11_mould 108 = .ok (.ifCond .eq 7, 3) := by decide +kernel
theorem dX11_mould_111 : decode cX11_mould 111 = .ok (.iconst 1, 1) := by decide +kernel
theorem dX11_mould_112 : decode cX11_mould 112 = .ok (.goto 4, 3) := by decide +kernel
theorem dX11_mould_115 : decode cX11_mould 115 = .ok (.iconst 0, 1) := by decide +kernel
theorem dX11_mould_116 : decode cX11_mould 116 = .ok (.ireturn, 1) := by decide +kernel
theorem dX11_mould_117 : decode cX11_mould 117 = .ok (.aload_n 3, 1) := by decide +kernel
theorem dX11_mould_118 : decode cX11_mould 118 = .ok (.getfield 258, 3) := by decide +kernel
theorem dX11_mould_121 : decode cX11_mould 121 = .ok (.ifCond .eq 7, 3) := by decide +kernel
theorem dX11_mould_124 : decode cX11_mould 124 = .ok (.iconst 1, 1) := by decide +kernel
theorem dX11_mould_125 : decode cX11_mould 125 = .ok (.goto 4, 3) := by decide +kernel
theorem dX11_mould_128 : decode cX11_mould 128 = .ok (.iconst 0, 1) := by decide +kernel
theorem dX11_mould_129 : decode cX11_mould 129 = .ok (.ireturn, 1) := by decide +kernel
def bX11_mould_0 (f1 f2 : ox_F) (rc : Nat → ox_K) : ox_K := o_il 1 (o_ic (0) (o_al 0 (o_getr 11 5 (o_geti 2 2 (o_ic (1) (o_isub (o_ct f1 3 (o_ifeq (rc 26) (o_il 2 (o_ic (0) (o_ic (5) (o_ct f1 3 (o_ifne (rc 29) (rc 26))))))))))))))
def bX11_mould_26 (f1 f2 : ox_F) (rc : Nat → ox_K) : ox_K := o_ic (-1000001) (o_iret)
def bX11_mould_29 (f1 f2 : ox_F) (rc : Nat → ox_K) : ox_K := o_al 0 (o_getr 11 5 (o_getr 2 0 (o_il 1 (o_aa 5 (o_as 3 (o_al 3 (o_cv f2 5 0 (o_ifeq (rc 49) (o_ic (-1000000) (o_iret))))))))))
def bX11_mould_49 (f1 f2 : ox_F) (rc : Nat → ox_K) : ox_K := o_il 2 (o_tsw 0 [rc 84, rc 89, rc 94, rc 99, rc 104] (rc 117))
def bX11_mould_84 (f1 f2 : ox_F) (rc : Nat → ox_K) : ox_K := o_al 3 (o_geti 5 0 (o_iret))
def bX11_mould_89 (f1 f2 : ox_F) (rc : Nat → ox_K) : ox_K := o_al 3 (o_geti 5 1 (o_iret))
def bX11_mould_94 (f1 f2 : ox_F) (rc : Nat → ox_K) : ox_K := o_al 3 (o_geti 5 2 (o_iret))
def bX11_mould_99 (f1 f2 : ox_F) (rc : Nat → ox_K) : ox_K := o_al 3 (o_geti 5 4 (o_iret))
def bX11_mould_104 (f1 f2 : ox_F) (rc : Nat → ox_K) : ox_K := o_al 3 (o_geti 5 6 (o_ifeq (rc 115) (o_ic (1) (rc 116))))
def bX11_mould_115 (f1 f2 : ox_F) (rc : Nat → ox_K) : ox_K := o_ic (0) (rc 116)
def bX11_mould_116 (f1 f2 : ox_F) (rc : Nat → ox_K) : ox_K := o_iret
def bX11_mould_117 (f1 f2 : ox_F) (rc : Nat → ox_K) : ox_K := o_al 3 (o_geti 5 5 (o_ifeq (rc 128) (o_ic (1) (rc 129))))
def bX11_mould_128 (f1 f2 : ox_F) (rc : Nat → ox_K) : ox_K := o_ic (0) (rc 129)
def bX11_mould_129 (f1 f2 : ox_F) (rc : Nat → ox_K) : ox_K := o_iret
section SX11_mould
variable {p : Program} {l : Launch} {e : Env} {R : Room} {s : State} {m : MethodId} {args : Array Value} {below : List Frame} {meth : Method} {c : Code} {g : ox_G} {c0 t0 dp d1 d2 : Nat} {rc : Nat → ox_K} {f1 f2 : ox_F}
set_option maxRecDepth 100000 in
theorem kX11_mould_0 (C : ox_C p s m args c g 4 cX11_mould RX11) (hr : meth.sig.returnType = (some .int)) (hlk : meth.locks = false) (hnm : meth.name = "mould") (hR : R.frames = dp ∧ R.locals = 60 * dp) (h1 : ox_Sem yX11_within cX11_within 3 (some .boolean) d1 f1) (e1 : d1 + 1 ≤ dp) (h2 : ox_Sem yX5_isEmpty cX5_isEmpty 1 (some .boolean) d2 f2) (e2 : d2 + 1 ≤ dp) (hrc : ∀ b, ox_S p l e R s m args below meth c g 4 c0 t0 (ox_QM g below args s c0 t0) b (rc b)) : ox_S p l e R s m args below meth c g 4 c0 t0 (ox_QM g below args s c0 t0) 0 (bX11_mould_0 f1 f2 rc) := by
  refine s_iload_n (pc := 0) C dX11_mould_0 rfl ?_
  refine s_iconst (pc := 1) C dX11_mould_1 (by decide) ?_
  refine s_aload_n (pc := 2) C dX11_mould_2 rfl ?_
  refine s_getr (pc := 3) (j := 5) (q := (RX11, TX11, 13)) C rfl (by decide) rfl wF_X11_42 dX11_mould_3 ?_
  refine s_geti (pc := 6) (j := 2) (q := (RX2, TX2, 6)) C rfl (by decide) rfl wF_X11_221 dX11_mould_6 ?_
  refine s_iconst (pc := 9) C dX11_mould_9 (by decide) ?_
  refine s_isub (pc := 10) C dX11_mould_10 ?_
  refine s_ct (pc := 11) C h1 wM_X11_69 wT_X11_within wN_X11 wC_X11_within (by decide +kernel) (ox_lv hR e1 (by decide)) dX11_mould_11 ?_
  refine s_ifeq (pc := 14) 26 C dX11_mould_14 (by decide) (hrc 26) ?_
  refine s_iload_n (pc := 17) C dX11_mould_17 rfl ?_
  refine s_iconst (pc := 18) C dX11_mould_18 (by decide) ?_
  refine s_iconst (pc := 19) C dX11_mould_19 (by decide) ?_
  refine s_ct (pc := 20) C h1 wM_X11_69 wT_X11_within wN_X11 wC_X11_within (by decide +kernel) (ox_lv hR e1 (by decide)) dX11_mould_20 ?_
  refine s_ifne (pc := 23) 29 C dX11_mould_23 (by decide) (hrc 29) ?_
  exact hrc 26
set_option maxRecDepth 100000 in
theorem kX11_mould_26 (C : ox_C p s m args c g 4 cX11_mould RX11) (hr : meth.sig.returnType = (some .int)) (hlk : meth.locks = false) (hnm : meth.name = "mould") (hR : R.frames = dp ∧ R.locals = 60 * dp) (h1 : ox_Sem yX11_within cX11_within 3 (some .boolean) d1 f1) (e1 : d1 + 1 ≤ dp) (h2 : ox_Sem yX5_isEmpty cX5_isEmpty 1 (some .boolean) d2 f2) (e2 : d2 + 1 ≤ dp) (hrc : ∀ b, ox_S p l e R s m args below meth c g 4 c0 t0 (ox_QM g below args s c0 t0) b (rc b)) : ox_S p l e R s m args below meth c g 4 c0 t0 (ox_QM g below args s c0 t0) 26 (bX11_mould_26 f1 f2 rc) := by
  refine s_ldc (pc := 26) C wK_X11_73 dX11_mould_26 ?_
  exact s_iret (pc := 28) C hr hlk dX11_mould_28
set_option maxRecDepth 100000 in
theorem kX11_mould_29 (C : ox_C p s m args c g 4 cX11_mould RX11) (hr : meth.sig.returnType = (some .int)) (hlk : meth.locks = false) (hnm : meth.name = "mould") (hR : R.frames = dp ∧ R.locals = 60 * dp) (h1 : ox_Sem yX11_within cX11_within 3 (some .boolean) d1 f1) (e1 : d1 + 1 ≤ dp) (h2 : ox_Sem yX5_isEmpty cX5_isEmpty 1 (some .boolean) d2 f2) (e2 : d2 + 1 ≤ dp) (hrc : ∀ b, ox_S p l e R s m args below meth c g 4 c0 t0 (ox_QM g below args s c0 t0) b (rc b)) : ox_S p l e R s m args below meth c g 4 c0 t0 (ox_QM g below args s c0 t0) 29 (bX11_mould_29 f1 f2 rc) := by
  refine s_aload_n (pc := 29) C dX11_mould_29 rfl ?_
  refine s_getr (pc := 30) (j := 5) (q := (RX11, TX11, 13)) C rfl (by decide) rfl wF_X11_42 dX11_mould_30 ?_
  refine s_getr (pc := 33) (j := 0) (q := (RX2, TX2, 6)) C rfl (by decide) rfl wF_X11_240 dX11_mould_33 ?_
  refine s_iload_n (pc := 36) C dX11_mould_36 rfl ?_
  refine s_aa (pc := 37) (q := (RX5, TX5, 8)) 4 C rfl dX11_mould_37 ?_
  refine s_astore_n (pc := 38) C dX11_mould_38 rfl (by decide) ?_
  refine s_aload_n (pc := 39) C dX11_mould_39 rfl ?_
  refine s_cv (pc := 40) (q := (RX5, TX5, 8)) C h2 rfl wM_X11_244 wI_X5_isEmpty wS_X5_isEmpty wN_X5 wC_X5_isEmpty (by decide +kernel) (ox_lv hR e2 (by decide)) dX11_mould_40 ?_
  refine s_ifeq (pc := 43) 49 C dX11_mould_43 (by decide) (hrc 49) ?_
  refine s_ldc (pc := 46) C wK_X11_214 dX11_mould_46 ?_
  exact s_iret (pc := 48) C hr hlk dX11_mould_48
set_option maxRecDepth 100000 in
theorem kX11_mould_49 (C : ox_C p s m args c g 4 cX11_mould RX11) (hr : meth.sig.returnType = (some .int)) (hlk : meth.locks = false) (hnm : meth.name = "mould") (hR : R.frames = dp ∧ R.locals = 60 * dp) (h1 : ox_Sem yX11_within cX11_within 3 (some .boolean) d1 f1) (e1 : d1 + 1 ≤ dp) (h2 : ox_Sem yX5_isEmpty cX5_isEmpty 1 (some .boolean) d2 f2) (e2 : d2 + 1 ≤ dp) (hrc : ∀ b, ox_S p l e R s m args below meth c g 4 c0 t0 (ox_QM g below args s c0 t0) b (rc b)) : ox_S p l e R s m args below meth c g 4 c0 t0 (ox_QM g below args s c0 t0) 49 (bX11_mould_49 f1 f2 rc) := by
  refine s_iload_n (pc := 49) C dX11_mould_49 rfl ?_
  exact s_tsw (pc := 50) 117 [84, 89, 94, 99, 104] C dX11_mould_50 (by decide) rfl (by decide +kernel) (hrc 117) (ox_ts hrc [84, 89, 94, 99, 104]) rfl
set_option maxRecDepth 100000 in
theorem kX11_mould_84 (C : ox_C p s m args c g 4 cX11_mould RX11) (hr : meth.sig.returnType = (some .int)) (hlk : meth.locks = false) (hnm : meth.name = "mould") (hR : R.frames = dp ∧ R.locals = 60 * dp) (h1 : ox_Sem yX11_within cX11_within 3 (some .boolean) d1 f1) (e1 : d1 + 1 ≤ dp) (h2 : ox_Sem yX5_isEmpty cX5_isEmpty 1 (some .boolean) d2 f2) (e2 : d2 + 1 ≤ dp) (hrc : ∀ b, ox_S p l e R s m args below meth c g 4 c0 t0 (ox_QM g below args s c0 t0) b (rc b)) : ox_S p l e R s m args below meth c g 4 c0 t0 (ox_QM g below args s c0 t0) 84 (bX11_mould_84 f1 f2 rc) := by
  refine s_aload_n (pc := 84) C dX11_mould_84 rfl ?_
  refine s_geti (pc := 85) (j := 0) (q := (RX5, TX5, 8)) C rfl (by decide) rfl wF_X11_247 dX11_mould_85 ?_
  exact s_iret (pc := 88) C hr hlk dX11_mould_88
set_option maxRecDepth 100000 in
theorem kX11_mould_89 (C : ox_C p s m args c g 4 cX11_mould RX11) (hr : meth.sig.returnType = (some .int)) (hlk : meth.locks = false) (hnm : meth.name = "mould") (hR : R.frames = dp ∧ R.locals = 60 * dp) (h1 : ox_Sem yX11_within cX11_within 3 (some .boolean) d1 f1) (e1 : d1 + 1 ≤ dp) (h2 : ox_Sem yX5_isEmpty cX5_isEmpty 1 (some .boolean) d2 f2) (e2 : d2 + 1 ≤ dp) (hrc : ∀ b, ox_S p l e R s m args below meth c g 4 c0 t0 (ox_QM g below args s c0 t0) b (rc b)) : ox_S p l e R s m args below meth c g 4 c0 t0 (ox_QM g below args s c0 t0) 89 (bX11_mould_89 f1 f2 rc) := by
  refine s_aload_n (pc := 89) C dX11_mould_89 rfl ?_
  refine s_geti (pc := 90) (j := 1) (q := (RX5, TX5, 8)) C rfl (by decide) rfl wF_X11_250 dX11_mould_90 ?_
  exact s_iret (pc := 93) C hr hlk dX11_mould_93
set_option maxRecDepth 100000 in
theorem kX11_mould_94 (C : ox_C p s m args c g 4 cX11_mould RX11) (hr : meth.sig.returnType = (some .int)) (hlk : meth.locks = false) (hnm : meth.name = "mould") (hR : R.frames = dp ∧ R.locals = 60 * dp) (h1 : ox_Sem yX11_within cX11_within 3 (some .boolean) d1 f1) (e1 : d1 + 1 ≤ dp) (h2 : ox_Sem yX5_isEmpty cX5_isEmpty 1 (some .boolean) d2 f2) (e2 : d2 + 1 ≤ dp) (hrc : ∀ b, ox_S p l e R s m args below meth c g 4 c0 t0 (ox_QM g below args s c0 t0) b (rc b)) : ox_S p l e R s m args below meth c g 4 c0 t0 (ox_QM g below args s c0 t0) 94 (bX11_mould_94 f1 f2 rc) := by
  refine s_aload_n (pc := 94) C dX11_mould_94 rfl ?_
  refine s_geti (pc := 95) (j := 2) (q := (RX5, TX5, 8)) C rfl (by decide) rfl wF_X11_253 dX11_mould_95 ?_
  exact s_iret (pc := 98) C hr hlk dX11_mould_98
set_option maxRecDepth 100000 in
theorem kX11_mould_99 (C : ox_C p s m args c g 4 cX11_mould RX11) (hr : meth.sig.returnType = (some .int)) (hlk : meth.locks = false) (hnm : meth.name = "mould") (hR : R.frames = dp ∧ R.locals = 60 * dp) (h1 : ox_Sem yX11_within cX11_within 3 (some .boolean) d1 f1) (e1 : d1 + 1 ≤ dp) (h2 : ox_Sem yX5_isEmpty cX5_isEmpty 1 (some .boolean) d2 f2) (e2 : d2 + 1 ≤ dp) (hrc : ∀ b, ox_S p l e R s m args below meth c g 4 c0 t0 (ox_QM g below args s c0 t0) b (rc b)) : ox_S p l e R s m args below meth c g 4 c0 t0 (ox_QM g below args s c0 t0) 99 (bX11_mould_99 f1 f2 rc) := by
  refine s_aload_n (pc := 99) C dX11_mould_99 rfl ?_
  refine s_geti (pc := 100) (j := 4) (q := (RX5, TX5, 8)) C rfl (by decide) rfl wF_X11_254 dX11_mould_100 ?_
  exact s_iret (pc := 103) C hr hlk dX11_mould_103
set_option maxRecDepth 100000 in
theorem kX11_mould_104 (C : ox_C p s m args c g 4 cX11_mould RX11) (hr : meth.sig.returnType = (some .int)) (hlk : meth.locks = false) (hnm : meth.name = "mould") (hR : R.frames = dp ∧ R.locals = 60 * dp) (h1 : ox_Sem yX11_within cX11_within 3 (some .boolean) d1 f1) (e1 : d1 + 1 ≤ dp) (h2 : ox_Sem yX5_isEmpty cX5_isEmpty 1 (some .boolean) d2 f2) (e2 : d2 + 1 ≤ dp) (hrc : ∀ b, ox_S p l e R s m args below meth c g 4 c0 t0 (ox_QM g below args s c0 t0) b (rc b)) : ox_S p l e R s m args below meth c g 4 c0 t0 (ox_QM g below args s c0 t0) 104 (bX11_mould_104 f1 f2 rc) := by
  refine s_aload_n (pc := 104) C dX11_mould_104 rfl ?_
  refine s_geti (pc := 105) (j := 6) (q := (RX5, TX5, 8)) C rfl (by decide) rfl wF_X11_255 dX11_mould_105 ?_
  refine s_ifeq (pc := 108) 115 C dX11_mould_108 (by decide) (hrc 115) ?_
  refine s_iconst (pc := 111) C dX11_mould_111 (by decide) ?_
  exact s_goto (pc := 112) 116 C dX11_mould_112 (by decide) (hrc 116)
set_option maxRecDepth 100000 in
theorem kX11_mould_115 (C : ox_C p s m args c g 4 cX11_mould RX11) (hr : meth.sig.returnType = (some .int)) (hlk : meth.locks = false) (hnm : meth.name = "mould") (hR : R.frames = dp ∧ R.locals = 60 * dp) (h1 : ox_Sem yX11_within cX11_within 3 (some .boolean) d1 f1) (e1 : d1 + 1 ≤ dp) (h2 : ox_Sem yX5_isEmpty cX5_isEmpty 1 (some .boolean) d2 f2) (e2 : d2 + 1 ≤ dp) (hrc : ∀ b, ox_S p l e R s m args below meth c g 4 c0 t0 (ox_QM g below args s c0 t0) b (rc b)) : ox_S p l e R s m args below meth c g 4 c0 t0 (ox_QM g below args s c0 t0) 115 (bX11_mould_115 f1 f2 rc) := by
  refine s_iconst (pc := 115) C dX11_mould_115 (by decide) ?_
  exact hrc 116
set_option maxRecDepth 100000 in
theorem kX11_mould_116 (C : ox_C p s m args c g 4 cX11_mould RX11) (hr : meth.sig.returnType = (some .int)) (hlk : meth.locks = false) (hnm : meth.name = "mould") (hR : R.frames = dp ∧ R.locals = 60 * dp) (h1 : ox_Sem yX11_within cX11_within 3 (some .boolean) d1 f1) (e1 : d1 + 1 ≤ dp) (h2 : ox_Sem yX5_isEmpty cX5_isEmpty 1 (some .boolean) d2 f2) (e2 : d2 + 1 ≤ dp) (hrc : ∀ b, ox_S p l e R s m args below meth c g 4 c0 t0 (ox_QM g below args s c0 t0) b (rc b)) : ox_S p l e R s m args below meth c g 4 c0 t0 (ox_QM g below args s c0 t0) 116 (bX11_mould_116 f1 f2 rc) := by
  exact s_iret (pc := 116) C hr hlk dX11_mould_116
set_option maxRecDepth 100000 in
theorem kX11_mould_117 (C : ox_C p s m args c g 4 cX11_mould RX11) (hr : meth.sig.returnType = (some .int)) (hlk : meth.locks = false) (hnm : meth.name = "mould") (hR : R.frames = dp ∧ R.locals = 60 * dp) (h1 : ox_Sem yX11_within cX11_within 3 (some .boolean) d1 f1) (e1 : d1 + 1 ≤ dp) (h2 : ox_Sem yX5_isEmpty cX5_isEmpty 1 (some .boolean) d2 f2) (e2 : d2 + 1 ≤ dp) (hrc : ∀ b, ox_S p l e R s m args below meth c g 4 c0 t0 (ox_QM g below args s c0 t0) b (rc b)) : ox_S p l e R s m args below meth c g 4 c0 t0 (ox_QM g below args s c0 t0) 117 (bX11_mould_117 f1 f2 rc) := by
  refine s_aload_n (pc := 117) C dX11_mould_117 rfl ?_
  refine s_geti (pc := 118) (j := 5) (q := (RX5, TX5, 8)) C rfl (by decide) rfl wF_X11_258 dX11_mould_118 ?_
  refine s_ifeq (pc := 121) 128 C dX11_mould_121 (by decide) (hrc 128) ?_
  refine s_iconst (pc := 124) C dX11_mould_124 (by decide) ?_
  exact s_goto (pc := 125) 129 C dX11_mould_125 (by decide) (hrc 129)
set_option maxRecDepth 100000 in
theorem kX11_mould_128 (C : ox_C p s m args c g 4 cX11_mould RX11) (hr : meth.sig.returnType = (some .int)) (hlk : meth.locks = false) (hnm : meth.name = "mould") (hR : R.frames = dp ∧ R.locals = 60 * dp) (h1 : ox_Sem yX11_within cX11_within 3 (some .boolean) d1 f1) (e1 : d1 + 1 ≤ dp) (h2 : ox_Sem yX5_isEmpty cX5_isEmpty 1 (some .boolean) d2 f2) (e2 : d2 + 1 ≤ dp) (hrc : ∀ b, ox_S p l e R s m args below meth c g 4 c0 t0 (ox_QM g below args s c0 t0) b (rc b)) : ox_S p l e R s m args below meth c g 4 c0 t0 (ox_QM g below args s c0 t0) 128 (bX11_mould_128 f1 f2 rc) := by
  refine s_iconst (pc := 128) C dX11_mould_128 (by decide) ?_
  exact hrc 129
set_option maxRecDepth 100000 in
theorem kX11_mould_129 (C : ox_C p s m args c g 4 cX11_mould RX11) (hr : meth.sig.returnType = (some .int)) (hlk : meth.locks = false) (hnm : meth.name = "mould") (hR : R.frames = dp ∧ R.locals = 60 * dp) (h1 : ox_Sem yX11_within cX11_within 3 (some .boolean) d1 f1) (e1 : d1 + 1 ≤ dp) (h2 : ox_Sem yX5_isEmpty cX5_isEmpty 1 (some .boolean) d2 f2) (e2 : d2 + 1 ≤ dp) (hrc : ∀ b, ox_S p l e R s m args below meth c g 4 c0 t0 (ox_QM g below args s c0 t0) b (rc b)) : ox_S p l e R s m args below meth c g 4 c0 t0 (ox_QM g below args s c0 t0) 129 (bX11_mould_129 f1 f2 rc) := by
  exact s_iret (pc := 129) C hr hlk dX11_mould_129
end SX11_mould
def bsX11_mould (f1 f2 : ox_F) (b : Nat) (rc : Nat → ox_K) : ox_K := if b = 0 then bX11_mould_0 f1 f2 rc else if b = 26 then bX11_mould_26 f1 f2 rc else if b = 29 then bX11_mould_29 f1 f2 rc else if b = 49 then bX11_mould_49 f1 f2 rc else if b = 84 then bX11_mould_84 f1 f2 rc else if b = 89 then bX11_mould_89 f1 f2 rc else if b = 94 then bX11_mould_94 f1 f2 rc else if b = 99 then bX11_mould_99 f1 f2 rc else if b = 104 then bX11_mould_104 f1 f2 rc else if b = 115 then bX11_mould_115 f1 f2 rc else if b = 116 then bX11_mould_116 f1 f2 rc else if b = 117 then bX11_mould_117 f1 f2 rc else if b = 128 then bX11_mould_128 f1 f2 rc else if b = 129 then bX11_mould_129 f1 f2 rc else ox_no
theorem mX11_mould {dp d1 d2 : Nat} {f1 f2 f : ox_F} (h1 : ox_Sem yX11_within cX11_within 3 (some .boolean) d1 f1) (e1 : d1 + 1 ≤ dp) (h2 : ox_Sem yX5_isEmpty cX5_isEmpty 1 (some .boolean) d2 f2) (e2 : d2 + 1 ≤ dp) (hf : ∀ as h r, f as h = some r → ox_cs as ≤ 4 ∧ ox_le h r.2 ∧ ∃ n, ox_run (bsX11_mould f1 f2) n 0 (lv_args 0 as) [] h = some r) : ox_Sem yX11_mould cX11_mould 4 (some .int) dp f := by
  refine ox_meth (bs := bsX11_mould f1 f2) (by decide) hf ?_
  intro p l e R s m args below meth c g c0 t0 C hr hlk hnm hR rc hrc b
  unfold bsX11_mould
  refine ox_br (kX11_mould_0 C hr hlk hnm hR h1 e1 h2 e2 hrc) ?_
  refine ox_br (kX11_mould_26 C hr hlk hnm hR h1 e1 h2 e2 hrc) ?_
  refine ox_br (kX11_mould_29 C hr hlk hnm hR h1 e1 h2 e2 hrc) ?_
  refine ox_br (kX11_mould_49 C hr hlk hnm hR h1 e1 h2 e2 hrc) ?_
  refine ox_br (kX11_mould_84 C hr hlk hnm hR h1 e1 h2 e2 hrc) ?_
  refine ox_br (kX11_mould_89 C hr hlk hnm hR h1 e1 h2 e2 hrc) ?_
  refine ox_br (kX11_mould_94 C hr hlk hnm hR h1 e1 h2 e2 hrc) ?_
  refine ox_br (kX11_mould_99 C hr hlk hnm hR h1 e1 h2 e2 hrc) ?_
  refine ox_br (kX11_mould_104 C hr hlk hnm hR h1 e1 h2 e2 hrc) ?_
  refine ox_br (kX11_mould_115 C hr hlk hnm hR h1 e1 h2 e2 hrc) ?_
  refine ox_br (kX11_mould_116 C hr hlk hnm hR h1 e1 h2 e2 hrc) ?_
  refine ox_br (kX11_mould_117 C hr hlk hnm hR h1 e1 h2 e2 hrc) ?_
  refine ox_br (kX11_mould_128 C hr hlk hnm hR h1 e1 h2 e2 hrc) ?_
  refine ox_br (kX11_mould_129 C hr hlk hnm hR h1 e1 h2 e2 hrc) ?_
  exact s_no
theorem dX11_correct_0 : decode cX11_correct 0 = .ok (.aload_n 0, 1) := by decide +kernel
theorem dX11_correct_1 : decode cX11_correct 1 = .ok (.getfield 49, 3) := by decide +kernel
theorem dX11_correct_4 : decode cX11_correct 4 = .ok (.getfield 233, 3) := by decide +kernel
theorem dX11_correct_7 : decode cX11_correct 7 = .ok (.ifCond .ne 6, 3) := by decide +kernel
theorem dX11_correct_10 : decode cX11_correct 10 = .ok (.ldc 196, 2) := by decide +kernel
theorem dX11_correct_12 : decode cX11_correct 12 = .ok (.ireturn, 1) := by decide +kernel
theorem dX11_correct_13 : decode cX11_correct 13 = .ok (.aload_n 0, 1) := by decide +kernel
theorem dX11_correct_14 : decode cX11_correct 14 = .ok (.getfield 42, 3) := by decide +kernel
theorem dX11_correct_17 : decode cX11_correct 17 = .ok (.getfield 230, 3) := by decide +kernel
theorem dX11_correct_20 : decode cX11_correct 20 = .ok (.iconst 0, 1) := by decide +kernel
theorem dX11_correct_21 : decode cX11_correct 21 = .ok (.iaload, 1) := by decide +kernel
theorem dX11_correct_22 : decode cX11_correct 22 = .ok (.aload_n 0, 1) := by decide +kernel
theorem dX11_correct_23 : decode cX11_correct 23 = .ok (.getfield 49, 3) := by decide +kernel
theorem dX11_correct_26 : decode cX11_correct 26 = .ok (.invokevirtual 261, 3) := by decide +kernel
theorem dX11_correct_29 : decode cX11_correct 29 = .ok (.invokestatic 264, 3) := by decide +kernel
theorem dX11_correct_32 : decode cX11_correct 32 = .ok (.istore_n 1, 1) := by decide +kernel
theorem dX11_correct_33 : decode cX11_correct 33 = .ok (.aload_n 0, 1) := by decide +kernel
theorem dX11_correct_34 : decode cX11_correct 34 = .ok (.getfield 42, 3) := by decide +kernel
theorem dX11_correct_37 : decode cX11_correct 37 = .ok (.getfield 230, 3) := by decide +kernel
theorem dX11_correct_40 : decode cX11_correct 40 = .ok (.bipush 13, 2) := by decide +kernel
theorem dX11_correct_42 : decode cX11_correct 42 = .ok (.iaload, 1) := by decide +kernel
theorem dX11_correct_43 : decode cX11_correct 43 = .ok (.iload_n 1, 1) := by decide +kernel
theorem dX11_correct_44 : decode cX11_correct 44 = .ok (.iadd, 1) := by decide +kernel
theorem dX11_correct_45 : decode cX11_correct 45 = .ok (.istore_n 2, 1) := by decide +kernel
theorem dX11_correct_46 : decode cX11_correct 46 = .ok (.aload_n 0, 1) := by decide +kernel
theorem dX11_correct_47 : decode cX11_correct 47 = .ok (.getfield 42, 3) := by decide +kernel
theorem dX11_correct_50 : decode cX11_correct 50 = .ok (.getfield 230, 3) := by decide +kernel
theorem dX11_correct_53 : decode cX11_correct 53 = .ok (.bipush 13, 2) := by decide +kernel
theorem dX11_correct_55 : decode cX11_correct 55 = .ok (.getstatic 224, 3) := by decide +kernel
theorem dX11_correct_58 : decode cX11_correct 58 = .ok (.bipush 13, 2) := by decide +kernel
theorem dX11_correct_60 : decode cX11_correct 60 = .ok (.iaload, 1) := by decide +kernel
theorem dX11_correct_61 : decode cX11_correct 61 = .ok (.iload_n 2, 1) := by decide +kernel
theorem dX11_correct_62 : decode cX11_correct 62 = .ok (.getstatic 227, 3) := by decide +kernel
theorem dX11_correct_65 : decode cX11_correct 65 = .ok (.bipush 13, 2) := by decide +kernel
theorem dX11_correct_67 : decode cX11_correct 67 = .ok (.iaload, 1) := by decide +kernel
theorem dX11_correct_68 : decode cX11_correct 68 = .ok (.invokestatic 270, 3) := by decide +kernel
theorem dX11_correct_71 : decode cX11_correct 71 = .ok (.invokestatic 275, 3) := by decide +kernel
theorem dX11_correct_74 : decode cX11_correct 74 = .ok (.iastore, 1) := by decide +kernel
theorem dX11_correct_75 : decode cX11_correct 75 = .ok (.aload_n 0, 1) := by decide +kernel
theorem dX11_correct_76 : decode cX11_correct 76 = .ok (.getfield 42, 3) := by decide +kernel
theorem dX11_correct_79 : decode cX11_correct 79 = .ok (.getfield 230, 3) := by decide +kernel
theorem dX11_correct_82 : decode cX11_correct 82 = .ok (.bipush 13, 2) := by decide +kernel
theorem dX11_correct_84 : decode cX11_correct 84 = .ok (.iaload, 1) := by decide +kernel
theorem dX11_correct_85 : decode cX11_correct 85 = .ok (.ireturn, 1) := by decide +kernel
def bX11_correct_0 (f1 f2 : ox_F) (rc : Nat → ox_K) : ox_K := o_al 0 (o_getr 11 6 (o_geti 1 2 (o_ifne (rc 13) (o_ic (-1000002) (o_iret)))))
def bX11_correct_13 (f1 f2 : ox_F) (rc : Nat → ox_K) : ox_K := o_al 0 (o_getr 11 5 (o_getr 2 1 (o_ic (0) (o_ia (o_al 0 (o_getr 11 6 (o_cv f1 1 0 (o_ct f2 2 (o_is 1 (o_al 0 (o_getr 11 5 (o_getr 2 1 (o_ic (13) (o_ia (o_il 1 (o_iadd (o_is 2 (o_al 0 (o_getr 11 5 (o_getr 2 1 (o_ic (13) (o_gs 3 (o_ic (13) (o_ia (o_il 2 (o_gs 4 (o_ic (13) (o_ia (o_mmin (o_mmax (o_iast (o_al 0 (o_getr 11 5 (o_getr 2 1 (o_ic (13) (o_ia (o_iret)))))))))))))))))))))))))))))))))))))
section SX11_correct
variable {p : Program} {l : Launch} {e : Env} {R : Room} {s : State} {m : MethodId} {args : Array Value} {below : List Frame} {meth : Method} {c : Code} {g : ox_G} {c0 t0 dp d1 d2 : Nat} {rc : Nat → ox_K} {f1 f2 : ox_F}
set_option maxRecDepth 100000 in
theorem kX11_correct_0 (C : ox_C p s m args c g 3 cX11_correct RX11) (hr : meth.sig.returnType = (some .int)) (hlk : meth.locks = false) (hnm : meth.name = "correct") (hR : R.frames = dp ∧ R.locals = 60 * dp) (e0 : 1 ≤ dp) (h1 : ox_Sem yX1_recentMean cX1_recentMean 3 (some .int) d1 f1) (e1 : d1 + 1 ≤ dp) (h2 : ox_Sem yJ6_compare_7cf53 cJ6_compare_7cf53 2 (some .int) d2 f2) (e2 : d2 + 1 ≤ dp) (hrc : ∀ b, ox_S p l e R s m args below meth c g 3 c0 t0 (ox_QM g below args s c0 t0) b (rc b)) : ox_S p l e R s m args below meth c g 3 c0 t0 (ox_QM g below args s c0 t0) 0 (bX11_correct_0 f1 f2 rc) := by
  refine s_aload_n (pc := 0) C dX11_correct_0 rfl ?_
  refine s_getr (pc := 1) (j := 6) (q := (RX11, TX11, 13)) C rfl (by decide) rfl wF_X11_49 dX11_correct_1 ?_
  refine s_geti (pc := 4) (j := 2) (q := (RX1, TX1, 7)) C rfl (by decide) rfl wF_X11_233 dX11_correct_4 ?_
  refine s_ifne (pc := 7) 13 C dX11_correct_7 (by decide) (hrc 13) ?_
  refine s_ldc (pc := 10) C wK_X11_196 dX11_correct_10 ?_
  exact s_iret (pc := 12) C hr hlk dX11_correct_12
set_option maxRecDepth 100000 in
theorem kX11_correct_13 (C : ox_C p s m args c g 3 cX11_correct RX11) (hr : meth.sig.returnType = (some .int)) (hlk : meth.locks = false) (hnm : meth.name = "correct") (hR : R.frames = dp ∧ R.locals = 60 * dp) (e0 : 1 ≤ dp) (h1 : ox_Sem yX1_recentMean cX1_recentMean 3 (some .int) d1 f1) (e1 : d1 + 1 ≤ dp) (h2 : ox_Sem yJ6_compare_7cf53 cJ6_compare_7cf53 2 (some .int) d2 f2) (e2 : d2 + 1 ≤ dp) (hrc : ∀ b, ox_S p l e R s m args below meth c g 3 c0 t0 (ox_QM g below args s c0 t0) b (rc b)) : ox_S p l e R s m args below meth c g 3 c0 t0 (ox_QM g below args s c0 t0) 13 (bX11_correct_13 f1 f2 rc) := by
  refine s_aload_n (pc := 13) C dX11_correct_13 rfl ?_
  refine s_getr (pc := 14) (j := 5) (q := (RX11, TX11, 13)) C rfl (by decide) rfl wF_X11_42 dX11_correct_14 ?_
  refine s_getr (pc := 17) (j := 1) (q := (RX2, TX2, 6)) C rfl (by decide) rfl wF_X11_230 dX11_correct_17 ?_
  refine s_iconst (pc := 20) C dX11_correct_20 (by decide) ?_
  refine s_ia (pc := 21) C dX11_correct_21 ?_
  refine s_aload_n (pc := 22) C dX11_correct_22 rfl ?_
  refine s_getr (pc := 23) (j := 6) (q := (RX11, TX11, 13)) C rfl (by decide) rfl wF_X11_49 dX11_correct_23 ?_
  refine s_cv (pc := 26) (q := (RX1, TX1, 7)) C h1 rfl wM_X11_261 wI_X1_recentMean wS_X1_recentMean wN_X1 wC_X1_recentMean (by decide +kernel) (ox_lv hR e1 (by decide)) dX11_correct_26 ?_
  refine s_ct (pc := 29) C h2 wM_X11_264 wT_J6_compare_7cf53 wN_J6 wC_J6_compare_7cf53 (by decide +kernel) (ox_lv hR e2 (by decide)) dX11_correct_29 ?_
  refine s_istore_n (pc := 32) C dX11_correct_32 rfl (by decide) ?_
  refine s_aload_n (pc := 33) C dX11_correct_33 rfl ?_
  refine s_getr (pc := 34) (j := 5) (q := (RX11, TX11, 13)) C rfl (by decide) rfl wF_X11_42 dX11_correct_34 ?_
  refine s_getr (pc := 37) (j := 1) (q := (RX2, TX2, 6)) C rfl (by decide) rfl wF_X11_230 dX11_correct_37 ?_
  refine s_bipush (pc := 40) C dX11_correct_40 (by decide) ?_
  refine s_ia (pc := 42) C dX11_correct_42 ?_
  refine s_iload_n (pc := 43) C dX11_correct_43 rfl ?_
  refine s_iadd (pc := 44) C dX11_correct_44 ?_
  refine s_istore_n (pc := 45) C dX11_correct_45 rfl (by decide) ?_
  refine s_aload_n (pc := 46) C dX11_correct_46 rfl ?_
  refine s_getr (pc := 47) (j := 5) (q := (RX11, TX11, 13)) C rfl (by decide) rfl wF_X11_42 dX11_correct_47 ?_
  refine s_getr (pc := 50) (j := 1) (q := (RX2, TX2, 6)) C rfl (by decide) rfl wF_X11_230 dX11_correct_50 ?_
  refine s_bipush (pc := 53) C dX11_correct_53 (by decide) ?_
  refine s_gs (pc := 55) (C1 := "SweetLine$Belt") (n1 := "GEAR_LEAST") (d1 := "[I") C (by decide +kernel) wF_X11_224 dX11_correct_55 ?_
  refine s_bipush (pc := 58) C dX11_correct_58 (by decide) ?_
  refine s_ia (pc := 60) C dX11_correct_60 ?_
  refine s_iload_n (pc := 61) C dX11_correct_61 rfl ?_
  refine s_gs (pc := 62) (C1 := "SweetLine$Belt") (n1 := "GEAR_MOST") (d1 := "[I") C (by decide +kernel) wF_X11_227 dX11_correct_62 ?_
  refine s_bipush (pc := 65) C dX11_correct_65 (by decide) ?_
  refine s_ia (pc := 67) C dX11_correct_67 ?_
  refine s_mmin (pc := 68) C wM_X11_270 wT_mmin wN_J9 wC_mmin (ox_lv3 hR e0) dX11_correct_68 ?_
  refine s_mmax (pc := 71) C wM_X11_275 wT_mmax wN_J9 wC_mmax (ox_lv3 hR e0) dX11_correct_71 ?_
  refine s_iast (pc := 74) C dX11_correct_74 ?_
  refine s_aload_n (pc := 75) C dX11_correct_75 rfl ?_
  refine s_getr (pc := 76) (j := 5) (q := (RX11, TX11, 13)) C rfl (by decide) rfl wF_X11_42 dX11_correct_76 ?_
  refine s_getr (pc := 79) (j := 1) (q := (RX2, TX2, 6)) C rfl (by decide) rfl wF_X11_230 dX11_correct_79 ?_
  refine s_bipush (pc := 82) C dX11_correct_82 (by decide) ?_
  refine s_ia (pc := 84) C dX11_correct_84 ?_
  exact s_iret (pc := 85) C hr hlk dX11_correct_85
end SX11_correct
def bsX11_correct (f1 f2 : ox_F) (b : Nat) (rc : Nat → ox_K) : ox_K := if b = 0 then bX11_correct_0 f1 f2 rc else if b = 13 then bX11_correct_13 f1 f2 rc else ox_no
theorem mX11_correct {dp d1 d2 : Nat} {f1 f2 f : ox_F} (e0 : 1 ≤ dp) (h1 : ox_Sem yX1_recentMean cX1_recentMean 3 (some .int) d1 f1) (e1 : d1 + 1 ≤ dp) (h2 : ox_Sem yJ6_compare_7cf53 cJ6_compare_7cf53 2 (some .int) d2 f2) (e2 : d2 + 1 ≤ dp) (hf : ∀ as h r, f as h = some r → ox_cs as ≤ 3 ∧ ox_le h r.2 ∧ ∃ n, ox_run (bsX11_correct f1 f2) n 0 (lv_args 0 as) [] h = some r) : ox_Sem yX11_correct cX11_correct 3 (some .int) dp f := by
  refine ox_meth (bs := bsX11_correct f1 f2) (by decide) hf ?_
  intro p l e R s m args below meth c g c0 t0 C hr hlk hnm hR rc hrc b
  unfold bsX11_correct
  refine ox_br (kX11_correct_0 C hr hlk hnm hR e0 h1 e1 h2 e2 hrc) ?_
  refine ox_br (kX11_correct_13 C hr hlk hnm hR e0 h1 e1 h2 e2 hrc) ?_
  exact s_no
theorem dX11_bar_0 : decode cX11_bar 0 = .ok (.aload_n 0, 1) := by decide +kernel
theorem dX11_bar_1 : decode cX11_bar 1 = .ok (.iload_n 1, 1) := by decide +kernel
theorem dX11_bar_2 : decode cX11_bar 2 = .ok (.invokevirtual 278, 3) := by decide +kernel
theorem dX11_bar_5 : decode cX11_bar 5 = .ok (.ifCond .ne 6, 3) := by decide +kernel
theorem dX11_bar_8 : decode cX11_bar 8 = .ok (.ldc 73, 2) := by decide +kernel
theorem dX11_bar_10 : decode cX11_bar 10 = .ok (.ireturn, 1) := by decide +kernel
theorem dX11_bar_11 : decode cX11_bar 11 = .ok (.aload_n 0, 1) := by decide +kernel
theorem dX11_bar_12 : decode cX11_bar 12 = .ok (.getfield 49, 3) := by decide +kernel
theorem dX11_bar_15 : decode cX11_bar 15 = .ok (.getfield 281, 3) := by decide +kernel
theorem dX11_bar_18 : decode cX11_bar 18 = .ok (.iload_n 1, 1) := by decide +kernel
theorem dX11_bar_19 : decode cX11_bar 19 = .ok (.aaload, 1) := by decide +kernel
theorem dX11_bar_20 : decode cX11_bar 20 = .ok (.astore_n 3, 1) := by decide +kernel
theorem dX11_bar_21 : decode cX11_bar 21 = .ok (.iload_n 2, 1) := by decide +kernel
theorem dX11_bar_22 : decode cX11_bar 22 = .ok (.tableswitch 93 0 6 #[42, 47, 52, 57, 62, 75, 80], 42) := by decide +kernel
theorem dX11_bar_64 : decode cX11_bar 64 = .ok (.aload_n 3, 1) := by decide +kernel
theorem dX11_bar_65 : decode cX11_bar 65 = .ok (.getfield 285, 3) := by decide +kernel
theorem dX11_bar_68 : decode cX11_bar 68 = .ok (.ireturn, 1) := by decide +kernel
theorem dX11_bar_69 : decode cX11_bar 69 = .ok (.aload_n 3, 1) := by decide +kernel
theorem dX11_bar_70 : decode cX11_bar 70 = .ok (.getfield 288, 3) := by decide +kernel
theorem dX11_bar_73 : decode cX11_bar 73 = .ok (.ireturn, 1) := by decide +kernel
theorem dX11_bar_74 : decode cX11_bar 74 = .ok (.aload_n 3, 1) := by decide +kernel
theorem dX11_bar_75 : decode cX11_bar 75 = .ok (.getfield 289, 3) := by decide +kernel
theorem dX11_bar_78 : decode cX11_bar 78 = .ok (.ireturn, 1) := by decide +kernel
theorem dX11_bar_79 : decode cX11_bar 79 = .ok (.aload_n 3, 1) := by decide +kernel
theorem dX11_bar_80 : decode cX11_bar 80 = .ok (.getfield 290, 3) := by decide +kernel
theorem dX11_bar_83 : decode cX11_bar 83 = .ok (.ireturn, 1) := by decide +kernel
theorem dX11_bar_84 : decode cX11_bar 84 = .ok (.aload_n 3, 1) := by decide +kernel
theorem dX11_bar_85 : decode cX11_bar 85 = .ok (.getfield 291, 3) := by decide +kernel
theorem dX11_bar_88 : decode cX11_bar 88 = .ok (.ifCond .eq 7, 3) := by decide +kernel
theorem dX11_bar_91 : decode cX11_bar 91 = .ok (.iconst 1, 1) := by decide +kernel
theorem dX11_bar_92 : decode cX11_bar 92 = .ok (.goto 4, 3) := by decide +kernel
theorem dX11_bar_95 : decode cX11_bar 95 = .ok (.iconst 0, 1) := by decide +kernel
theorem dX11_bar_96 : decode cX11_bar 96 = .ok (.ireturn, 1) := by decide +kernel
theorem dX11_bar_97 : decode cX11_bar 97 = .ok (.aload_n 3, 1) := by decide +kernel
theorem dX11_bar_98 : decode cX11_bar 98 = .ok (.getfield 292, 3) := by decide +kernel
theorem dX11_bar_101 : decode cX11_bar 101 = .ok (.ireturn, 1) := by decide +kernel
theorem dX11_bar_102 : decode cX11_bar 102 = .ok (.aload_n 3, 1) := by decide +kernel
theorem dX11_bar_103 : decode cX11_bar 103 = .ok (.getfield 295, 3) := by decide +kernel
theorem dX11_bar_106 : decode cX11_bar 106 = .ok (.ifCond .eq 7, 3) := by decide +kernel
theorem dX11_bar_109 : decode cX11_bar 109 = .ok (.iconst 1, 1) := by decide +kernel
theorem dX11_bar_110 : decode cX11_bar 110 = .ok (.goto 4, 3) := by decide +kernel
theorem dX11_bar_113 : decode cX11_bar 113 = .ok (.iconst 0, 1) := by decide +kernel
theorem dX11_bar_114 : decode cX11_bar 114 = .ok (.ireturn, 1) := by decide +kernel
theorem dX11_bar_115 : decode cX11_bar 115 = .ok (.ldc 73, 2) := by decide +kernel
theorem dX11_bar_117 : decode cX11_bar 117 = .ok (.ireturn, 1) := by decide +kernel
def bX11_bar_0 (f1 : ox_F) (rc : Nat → ox_K) : ox_K := o_al 0 (o_il 1 (o_cv f1 11 1 (o_ifne (rc 11) (o_ic (-1000001) (o_iret)))))
def bX11_bar_11 (f1 : ox_F) (rc : Nat → ox_K) : ox_K := o_al 0 (o_getr 11 6 (o_getr 1 0 (o_il 1 (o_aa 0 (o_as 3 (o_il 2 (o_tsw 0 [rc 64, rc 69, rc 74, rc 79, rc 84, rc 97, rc 102] (rc 115))))))))
def bX11_bar_64 (f1 : ox_F) (rc : Nat → ox_K) : ox_K := o_al 3 (o_geti 0 0 (o_iret))
def bX11_bar_69 (f1 : ox_F) (rc : Nat → ox_K) : ox_K := o_al 3 (o_geti 0 1 (o_iret))
def bX11_bar_74 (f1 : ox_F) (rc : Nat → ox_K) : ox_K := o_al 3 (o_geti 0 2 (o_iret))
def bX11_bar_79 (f1 : ox_F) (rc : Nat → ox_K) : ox_K := o_al 3 (o_geti 0 3 (o_iret))
def bX11_bar_84 (f1 : ox_F) (rc : Nat → ox_K) : ox_K := o_al 3 (o_geti 0 4 (o_ifeq (rc 95) (o_ic (1) (rc 96))))
def bX11_bar_95 (f1 : ox_F) (rc : Nat → ox_K) : ox_K := o_ic (0) (rc 96)
def bX11_bar_96 (f1 : ox_F) (rc : Nat → ox_K) : ox_K := o_iret
def bX11_bar_97 (f1 : ox_F) (rc : Nat → ox_K) : ox_K := o_al 3 (o_geti 0 5 (o_iret))
def bX11_bar_102 (f1 : ox_F) (rc : Nat → ox_K) : ox_K := o_al 3 (o_geti 0 6 (o_ifeq (rc 113) (o_ic (1) (rc 114))))
def bX11_bar_113 (f1 : ox_F) (rc : Nat → ox_K) : ox_K := o_ic (0) (rc 114)
def bX11_bar_114 (f1 : ox_F) (rc : Nat → ox_K) : ox_K := o_iret
def bX11_bar_115 (f1 : ox_F) (rc : Nat → ox_K) : ox_K := o_ic (-1000001) (o_iret)
section SX11_bar
variable {p : Program} {l : Launch} {e : Env} {R : Room} {s : State} {m : MethodId} {args : Array Value} {below : List Frame} {meth : Method} {c : Code} {g : ox_G} {c0 t0 dp d1 : Nat} {rc : Nat → ox_K} {f1 : ox_F}
set_option maxRecDepth 100000 in
theorem kX11_bar_0 (C : ox_C p s m args c g 4 cX11_bar RX11) (hr : meth.sig.returnType = (some .int)) (hlk : meth.locks = false) (hnm : meth.name = "bar") (hR : R.frames = dp ∧ R.locals = 60 * dp) (h1 : ox_Sem yX11_isKept cX11_isKept 2 (some .boolean) d1 f1) (e1 : d1 + 1 ≤ dp) (hrc : ∀ b, ox_S p l e R s m args below meth c g 4 c0 t0 (ox_QM g below args s c0 t0) b (rc b)) : ox_S p l e R s m args below meth c g 4 c0 t0 (ox_QM g below args s c0 t0) 0 (bX11_bar_0 f1 rc) := by
  refine s_aload_n (pc := 0) C dX11_bar_0 rfl ?_
  refine s_iload_n (pc := 1) C dX11_bar_1 rfl ?_
  refine s_cv (pc := 2) (q := (RX11, TX11, 13)) C h1 rfl wM_X11_278 wI_X11_isKept wS_X11_isKept wN_X11 wC_X11_isKept (by decide +kernel) (ox_lv hR e1 (by decide)) dX11_bar_2 ?_
  refine s_ifne (pc := 5) 11 C dX11_bar_5 (by decide) (hrc 11) ?_
  refine s_ldc (pc := 8) C wK_X11_73 dX11_bar_8 ?_
  exact s_iret (pc := 10) C hr hlk dX11_bar_10
set_option maxRecDepth 100000 in
theorem kX11_bar_11 (C : ox_C p s m args c g 4 cX11_bar RX11) (hr : meth.sig.returnType = (some .int)) (hlk : meth.locks = false) (hnm : meth.name = "bar") (hR : R.frames = dp ∧ R.locals = 60 * dp) (h1 : ox_Sem yX11_isKept cX11_isKept 2 (some .boolean) d1 f1) (e1 : d1 + 1 ≤ dp) (hrc : ∀ b, ox_S p l e R s m args below meth c g 4 c0 t0 (ox_QM g below args s c0 t0) b (rc b)) : ox_S p l e R s m args below meth c g 4 c0 t0 (ox_QM g below args s c0 t0) 11 (bX11_bar_11 f1 rc) := by
  refine s_aload_n (pc := 11) C dX11_bar_11 rfl ?_
  refine s_getr (pc := 12) (j := 6) (q := (RX11, TX11, 13)) C rfl (by decide) rfl wF_X11_49 dX11_bar_12 ?_
  refine s_getr (pc := 15) (j := 0) (q := (RX1, TX1, 7)) C rfl (by decide) rfl wF_X11_281 dX11_bar_15 ?_
  refine s_iload_n (pc := 18) C dX11_bar_18 rfl ?_
  refine s_aa (pc := 19) (q := (RX0, TX0, 7)) 3 C rfl dX11_bar_19 ?_
  refine s_astore_n (pc := 20) C dX11_bar_20 rfl (by decide) ?_
  refine s_iload_n (pc := 21) C dX11_bar_21 rfl ?_
  exact s_tsw (pc := 22) 115 [64, 69, 74, 79, 84, 97, 102] C dX11_bar_22 (by decide) rfl (by decide +kernel) (hrc 115) (ox_ts hrc [64, 69, 74, 79, 84, 97, 102]) rfl
set_option maxRecDepth 100000 in
theorem kX11_bar_64 (C : ox_C p s m args c g 4 cX11_bar RX11) (hr : meth.sig.returnType = (some .int)) (hlk : meth.locks = false) (hnm : meth.name = "bar") (hR : R.frames = dp ∧ R.locals = 60 * dp) (h1 : ox_Sem yX11_isKept cX11_isKept 2 (some .boolean) d1 f1) (e1 : d1 + 1 ≤ dp) (hrc : ∀ b, ox_S p l e R s m args below meth c g 4 c0 t0 (ox_QM g below args s c0 t0) b (rc b)) : ox_S p l e R s m args below meth c g 4 c0 t0 (ox_QM g below args s c0 t0) 64 (bX11_bar_64 f1 rc) := by
  refine s_aload_n (pc := 64) C dX11_bar_64 rfl ?_
  refine s_geti (pc := 65) (j := 0) (q := (RX0, TX0, 7)) C rfl (by decide) rfl wF_X11_285 dX11_bar_65 ?_
  exact s_iret (pc := 68) C hr hlk dX11_bar_68
set_option maxRecDepth 100000 in
theorem kX11_bar_69 (C : ox_C p s m args c g 4 cX11_bar RX11) (hr : meth.sig.returnType = (some .int)) (hlk : meth.locks = false) (hnm : meth.name = "bar") (hR : R.frames = dp ∧ R.locals = 60 * dp) (h1 : ox_Sem yX11_isKept cX11_isKept 2 (some .boolean) d1 f1) (e1 : d1 + 1 ≤ dp) (hrc : ∀ b, ox_S p l e R s m args below meth c g 4 c0 t0 (ox_QM g below args s c0 t0) b (rc b)) : ox_S p l e R s m args below meth c g 4 c0 t0 (ox_QM g below args s c0 t0) 69 (bX11_bar_69 f1 rc) := by
  refine s_aload_n (pc := 69) C dX11_bar_69 rfl ?_
  refine s_geti (pc := 70) (j := 1) (q := (RX0, TX0, 7)) C rfl (by decide) rfl wF_X11_288 dX11_bar_70 ?_
  exact s_iret (pc := 73) C hr hlk dX11_bar_73
set_option maxRecDepth 100000 in
theorem kX11_bar_74 (C : ox_C p s m args c g 4 cX11_bar RX11) (hr : meth.sig.returnType = (some .int)) (hlk : meth.locks = false) (hnm : meth.name = "bar") (hR : R.frames = dp ∧ R.locals = 60 * dp) (h1 : ox_Sem yX11_isKept cX11_isKept 2 (some .boolean) d1 f1) (e1 : d1 + 1 ≤ dp) (hrc : ∀ b, ox_S p l e R s m args below meth c g 4 c0 t0 (ox_QM g below args s c0 t0) b (rc b)) : ox_S p l e R s m args below meth c g 4 c0 t0 (ox_QM g below args s c0 t0) 74 (bX11_bar_74 f1 rc) := by
  refine s_aload_n (pc := 74) C dX11_bar_74 rfl ?_
  refine s_geti (pc := 75) (j := 2) (q := (RX0, TX0, 7)) C rfl (by decide) rfl wF_X11_289 dX11_bar_75 ?_
  exact s_iret (pc := 78) C hr hlk dX11_bar_78
set_option maxRecDepth 100000 in
theorem kX11_bar_79 (C : ox_C p s m args c g 4 cX11_bar RX11) (hr : meth.sig.returnType = (some .int)) (hlk : meth.locks = false) (hnm : meth.name = "bar") (hR : R.frames = dp ∧ R.locals = 60 * dp) (h1 : ox_Sem yX11_isKept cX11_isKept 2 (some .boolean) d1 f1) (e1 : d1 + 1 ≤ dp) (hrc : ∀ b, ox_S p l e R s m args below meth c g 4 c0 t0 (ox_QM g below args s c0 t0) b (rc b)) : ox_S p l e R s m args below meth c g 4 c0 t0 (ox_QM g below args s c0 t0) 79 (bX11_bar_79 f1 rc) := by
  refine s_aload_n (pc := 79) C dX11_bar_79 rfl ?_
  refine s_geti (pc := 80) (j := 3) (q := (RX0, TX0, 7)) C rfl (by decide) rfl wF_X11_290 dX11_bar_80 ?_
  exact s_iret (pc := 83) C hr hlk dX11_bar_83
set_option maxRecDepth 100000 in
theorem kX11_bar_84 (C : ox_C p s m args c g 4 cX11_bar RX11) (hr : meth.sig.returnType = (some .int)) (hlk : meth.locks = false) (hnm : meth.name = "bar") (hR : R.frames = dp ∧ R.locals = 60 * dp) (h1 : ox_Sem yX11_isKept cX11_isKept 2 (some .boolean) d1 f1) (e1 : d1 + 1 ≤ dp) (hrc : ∀ b, ox_S p l e R s m args below meth c g 4 c0 t0 (ox_QM g below args s c0 t0) b (rc b)) : ox_S p l e R s m args below meth c g 4 c0 t0 (ox_QM g below args s c0 t0) 84 (bX11_bar_84 f1 rc) := by
  refine s_aload_n (pc := 84) C dX11_bar_84 rfl ?_
  refine s_geti (pc := 85) (j := 4) (q := (RX0, TX0, 7)) C rfl (by decide) rfl wF_X11_291 dX11_bar_85 ?_
  refine s_ifeq (pc := 88) 95 C dX11_bar_88 (by decide) (hrc 95) ?_
  refine s_iconst (pc := 91) C dX11_bar_91 (by decide) ?_
  exact s_goto (pc := 92) 96 C dX11_bar_92 (by decide) (hrc 96)
set_option maxRecDepth 100000 in
theorem kX11_bar_95 (C : ox_C p s m args c g 4 cX11_bar RX11) (hr : meth.sig.returnType = (some .int)) (hlk : meth.locks = false) (hnm : meth.name = "bar") (hR : R.frames = dp ∧ R.locals = 60 * dp) (h1 : ox_Sem yX11_isKept cX11_isKept 2 (some .boolean) d1 f1) (e1 : d1 + 1 ≤ dp) (hrc : ∀ b, ox_S p l e R s m args below meth c g 4 c0 t0 (ox_QM g below args s c0 t0) b (rc b)) : ox_S p l e R s m args below meth c g 4 c0 t0 (ox_QM g below args s c0 t0) 95 (bX11_bar_95 f1 rc) := by
  refine s_iconst (pc := 95) C dX11_bar_95 (by decide) ?_
  exact hrc 96
set_option maxRecDepth 100000 in
theorem kX11_bar_96 (C : ox_C p s m args c g 4 cX11_bar RX11) (hr : meth.sig.returnType = (some .int)) (hlk : meth.locks = false) (hnm : meth.name = "bar") (hR : R.frames = dp ∧ R.locals = 60 * dp) (h1 : ox_Sem yX11_isKept cX11_isKept 2 (some .boolean) d1 f1) (e1 : d1 + 1 ≤ dp) (hrc : ∀ b, ox_S p l e R s m args below meth c g 4 c0 t0 (ox_QM g below args s c0 t0) b (rc b)) : ox_S p l e R s m args below meth c g 4 c0 t0 (ox_QM g below args s c0 t0) 96 (bX11_bar_96 f1 rc) := by
  exact s_iret (pc := 96) C hr hlk dX11_bar_96
set_option maxRecDepth 100000 in
theorem kX11_bar_97 (C : ox_C p s m args c g 4 cX11_bar RX11) (hr : meth.sig.returnType = (some .int)) (hlk : meth.locks = false) (hnm : meth.name = "bar") (hR : R.frames = dp ∧ R.locals = 60 * dp) (h1 : ox_Sem yX11_isKept cX11_isKept 2 (some .boolean) d1 f1) (e1 : d1 + 1 ≤ dp) (hrc : ∀ b, ox_S p l e R s m args below meth c g 4 c0 t0 (ox_QM g below args s c0 t0) b (rc b)) : ox_S p l e R s m args below meth c g 4 c0 t0 (ox_QM g below args s c0 t0) 97 (bX11_bar_97 f1 rc) := by
  refine s_aload_n (pc := 97) C dX11_bar_97 rfl ?_
  refine s_geti (pc := 98) (j := 5) (q := (RX0, TX0, 7)) C rfl (by decide) rfl wF_X11_292 dX11_bar_98 ?_
  exact s_iret (pc := 101) C hr hlk dX11_bar_101
set_option maxRecDepth 100000 in
theorem kX11_bar_102 (C : ox_C p s m args c g 4 cX11_bar RX11) (hr : meth.sig.returnType = (some .int)) (hlk : meth.locks = false) (hnm : meth.name = "bar") (hR : R.frames = dp ∧ R.locals = 60 * dp) (h1 : ox_Sem yX11_isKept cX11_isKept 2 (some .boolean) d1 f1) (e1 : d1 + 1 ≤ dp) (hrc : ∀ b, ox_S p l e R s m args below meth c g 4 c0 t0 (ox_QM g below args s c0 t0) b (rc b)) : ox_S p l e R s m args below meth c g 4 c0 t0 (ox_QM g below args s c0 t0) 102 (bX11_bar_102 f1 rc) := by
  refine s_aload_n (pc := 102) C dX11_bar_102 rfl ?_
  refine s_geti (pc := 103) (j := 6) (q := (RX0, TX0, 7)) C rfl (by decide) rfl wF_X11_295 dX11_bar_103 ?_
  refine s_ifeq (pc := 106) 113 C dX11_bar_106 (by decide) (hrc 113) ?_
  refine s_iconst (pc := 109) C dX11_bar_109 (by decide) ?_
  exact s_goto (pc := 110) 114 C dX11_bar_110 (by decide) (hrc 114)
set_option maxRecDepth 100000 in
theorem kX11_bar_113 (C : ox_C p s m args c g 4 cX11_bar RX11) (hr : meth.sig.returnType = (some .int)) (hlk : meth.locks = false) (hnm : meth.name = "bar") (hR : R.frames = dp ∧ R.locals = 60 * dp) (h1 : ox_Sem yX11_isKept cX11_isKept 2 (some .boolean) d1 f1) (e1 : d1 + 1 ≤ dp) (hrc : ∀ b, ox_S p l e R s m args below meth c g 4 c0 t0 (ox_QM g below args s c0 t0) b (rc b)) : ox_S p l e R s m args below meth c g 4 c0 t0 (ox_QM g below args s c0 t0) 113 (bX11_bar_113 f1 rc) := by
  refine s_iconst (pc := 113) C dX11_bar_113 (by decide) ?_
  exact hrc 114
set_option maxRecDepth 100000 in
theorem kX11_bar_114 (C : ox_C p s m args c g 4 cX11_bar RX11) (hr : meth.sig.returnType = (some .int)) (hlk : meth.locks = false) (hnm : meth.name = "bar") (hR : R.frames = dp ∧ R.locals = 60 * dp) (h1 : ox_Sem yX11_isKept cX11_isKept 2 (some .boolean) d1 f1) (e1 : d1 + 1 ≤ dp) (hrc : ∀ b, ox_S p l e R s m args below meth c g 4 c0 t0 (ox_QM g below args s c0 t0) b (rc b)) : ox_S p l e R s m args below meth c g 4 c0 t0 (ox_QM g below args s c0 t0) 114 (bX11_bar_114 f1 rc) := by
  exact s_iret (pc := 114) C hr hlk dX11_bar_114
set_option maxRecDepth 100000 in
theorem kX11_bar_115 (C : ox_C p s m args c g 4 cX11_bar RX11) (hr : meth.sig.returnType = (some .int)) (hlk : meth.locks = false) (hnm : meth.name = "bar") (hR : R.frames = dp ∧ R.locals = 60 * dp) (h1 : ox_Sem yX11_isKept cX11_isKept 2 (some .boolean) d1 f1) (e1 : d1 + 1 ≤ dp) (hrc : ∀ b, ox_S p l e R s m args below meth c g 4 c0 t0 (ox_QM g below args s c0 t0) b (rc b)) : ox_S p l e R s m args below meth c g 4 c0 t0 (ox_QM g below args s c0 t0) 115 (bX11_bar_115 f1 rc) := by
  refine s_ldc (pc := 115) C wK_X11_73 dX11_bar_115 ?_
  exact s_iret (pc := 117) C hr hlk dX11_bar_117
end SX11_bar
def bsX11_bar (f1 : ox_F) (b : Nat) (rc : Nat → ox_K) : ox_K := if b = 0 then bX11_bar_0 f1 rc else if b = 11 then bX11_bar_11 f1 rc else if b = 64 then bX11_bar_64 f1 rc else if b = 69 then bX11_bar_69 f1 rc else if b = 74 then bX11_bar_74 f1 rc else if b = 79 then bX11_bar_79 f1 rc else if b = 84 then bX11_bar_84 f1 rc else if b = 95 then bX11_bar_95 f1 rc else if b = 96 then bX11_bar_96 f1 rc else if b = 97 then bX11_bar_97 f1 rc else if b = 102 then bX11_bar_102 f1 rc else if b = 113 then bX11_bar_113 f1 rc else if b = 114 then bX11_bar_114 f1 rc else if b = 115 then bX11_bar_115 f1 rc else ox_no
theorem mX11_bar {dp d1 : Nat} {f1 f : ox_F} (h1 : ox_Sem yX11_isKept cX11_isKept 2 (some .boolean) d1 f1) (e1 : d1 + 1 ≤ dp) (hf : ∀ as h r, f as h = some r → ox_cs as ≤ 4 ∧ ox_le h r.2 ∧ ∃ n, ox_run (bsX11_bar f1) n 0 (lv_args 0 as) [] h = some r) : ox_Sem yX11_bar cX11_bar 4 (some .int) dp f := by
  refine ox_meth (bs := bsX11_bar f1) (by decide) hf ?_
  intro p l e R s m args below meth c g c0 t0 C hr hlk hnm hR rc hrc b
  unfold bsX11_bar
  refine ox_br (kX11_bar_0 C hr hlk hnm hR h1 e1 hrc) ?_
  refine ox_br (kX11_bar_11 C hr hlk hnm hR h1 e1 hrc) ?_
  refine ox_br (kX11_bar_64 C hr hlk hnm hR h1 e1 hrc) ?_
  refine ox_br (kX11_bar_69 C hr hlk hnm hR h1 e1 hrc) ?_
  refine ox_br (kX11_bar_74 C hr hlk hnm hR h1 e1 hrc) ?_
  refine ox_br (kX11_bar_79 C hr hlk hnm hR h1 e1 hrc) ?_
  refine ox_br (kX11_bar_84 C hr hlk hnm hR h1 e1 hrc) ?_
  refine ox_br (kX11_bar_95 C hr hlk hnm hR h1 e1 hrc) ?_
  refine ox_br (kX11_bar_96 C hr hlk hnm hR h1 e1 hrc) ?_
  refine ox_br (kX11_bar_97 C hr hlk hnm hR h1 e1 hrc) ?_
  refine ox_br (kX11_bar_102 C hr hlk hnm hR h1 e1 hrc) ?_
  refine ox_br (kX11_bar_113 C hr hlk hnm hR h1 e1 hrc) ?_
  refine ox_br (kX11_bar_114 C hr hlk hnm hR h1 e1 hrc) ?_
  refine ox_br (kX11_bar_115 C hr hlk hnm hR h1 e1 hrc) ?_
  exact s_no
theorem dX11_recall_0 : decode cX11_recall 0 = .ok (.iload_n 1, 1) := by decide +kernel
theorem dX11_recall_1 : decode cX11_recall 1 = .ok (.invokestatic 175, 3) := by decide +kernel
theorem dX11_recall_4 : decode cX11_recall 4 = .ok (.ifCond .ne 6, 3) := by decide +kernel
theorem dX11_recall_7 : decode cX11_recall 7 = .ok (.ldc 73, 2) := by decide +kernel
theorem dX11_recall_9 : decode cX11_recall 9 = .ok (.ireturn, 1) := by decide +kernel
theorem dX11_recall_10 : decode cX11_recall 10 = .ok (.aload_n 0, 1) := by decide +kernel
theorem dX11_recall_11 : decode cX11_recall 11 = .ok (.getfield 49, 3) := by decide +kernel
theorem dX11_recall_14 : decode cX11_recall 14 = .ok (.dup, 1) := by decide +kernel
theorem dX11_recall_15 : decode cX11_recall 15 = .ok (.getfield 298, 3) := by decide +kernel
theorem dX11_recall_18 : decode cX11_recall 18 = .ok (.iconst 1, 1) := by decide +kernel
theorem dX11_recall_19 : decode cX11_recall 19 = .ok (.iload_n 1, 1) := by decide +kernel
theorem dX11_recall_20 : decode cX11_recall 20 = .ok (.ishl, 1) := by decide +kernel
theorem dX11_recall_21 : decode cX11_recall 21 = .ok (.ior, 1) := by decide +kernel
theorem dX11_recall_22 : decode cX11_recall 22 = .ok (.putfield 298, 3) := by decide +kernel
theorem dX11_recall_25 : decode cX11_recall 25 = .ok (.aload_n 0, 1) := by decide +kernel
theorem dX11_recall_26 : decode cX11_recall 26 = .ok (.getfield 49, 3) := by decide +kernel
theorem dX11_recall_29 : decode cX11_recall 29 = .ok (.iconst 1, 1) := by decide +kernel
theorem dX11_recall_30 : decode cX11_recall 30 = .ok (.iload_n 1, 1) := by decide +kernel
theorem dX11_recall_31 : decode cX11_recall 31 = .ok (.ishl, 1) := by decide +kernel
theorem dX11_recall_32 : decode cX11_recall 32 = .ok (.invokevirtual 301, 3) := by decide +kernel
theorem dX11_recall_35 : decode cX11_recall 35 = .ok (.ireturn, 1) := by decide +kernel
def bX11_recall_0 (f1 f2 : ox_F) (rc : Nat → ox_K) : ox_K := o_il 1 (o_ct f1 1 (o_ifne (rc 10) (o_ic (-1000001) (o_iret))))
def bX11_recall_10 (f1 f2 : ox_F) (rc : Nat → ox_K) : ox_K := o_al 0 (o_getr 11 6 (o_dup (o_geti 1 5 (o_ic (1) (o_il 1 (o_ishl (o_ior (o_puti 1 5 (o_al 0 (o_getr 11 6 (o_ic (1) (o_il 1 (o_ishl (o_cv f2 1 1 (o_iret)))))))))))))))
section SX11_recall
variable {p : Program} {l : Launch} {e : Env} {R : Room} {s : State} {m : MethodId} {args : Array Value} {below : List Frame} {meth : Method} {c : Code} {g : ox_G} {c0 t0 dp d1 d2 : Nat} {rc : Nat → ox_K} {f1 f2 : ox_F}
set_option maxRecDepth 100000 in
theorem kX11_recall_0 (C : ox_C p s m args c g 2 cX11_recall RX11) (hr : meth.sig.returnType = (some .int)) (hlk : meth.locks = false) (hnm : meth.name = "recall") (hR : R.frames = dp ∧ R.locals = 60 * dp) (h1 : ox_Sem yX11_isLot cX11_isLot 1 (some .boolean) d1 f1) (e1 : d1 + 1 ≤ dp) (h2 : ox_Sem yX1_keptWith cX1_keptWith 4 (some .int) d2 f2) (e2 : d2 + 1 ≤ dp) (hrc : ∀ b, ox_S p l e R s m args below meth c g 2 c0 t0 (ox_QM g below args s c0 t0) b (rc b)) : ox_S p l e R s m args below meth c g 2 c0 t0 (ox_QM g below args s c0 t0) 0 (bX11_recall_0 f1 f2 rc) := by
  refine s_iload_n (pc := 0) C dX11_recall_0 rfl ?_
  refine s_ct (pc := 1) C h1 wM_X11_175 wT_X11_isLot wN_X11 wC_X11_isLot (by decide +kernel) (ox_lv hR e1 (by decide)) dX11_recall_1 ?_
  refine s_ifne (pc := 4) 10 C dX11_recall_4 (by decide) (hrc 10) ?_
  refine s_ldc (pc := 7) C wK_X11_73 dX11_recall_7 ?_
  exact s_iret (pc := 9) C hr hlk dX11_recall_9
set_option maxRecDepth 100000 in
theorem kX11_recall_10 (C : ox_C p s m args c g 2 cX11_recall RX11) (hr : meth.sig.returnType = (some .int)) (hlk : meth.locks = false) (hnm : meth.name = "recall") (hR : R.frames = dp ∧ R.locals = 60 * dp) (h1 : ox_Sem yX11_isLot cX11_isLot 1 (some .boolean) d1 f1) (e1 : d1 + 1 ≤ dp) (h2 : ox_Sem yX1_keptWith cX1_keptWith 4 (some .int) d2 f2) (e2 : d2 + 1 ≤ dp) (hrc : ∀ b, ox_S p l e R s m args below meth c g 2 c0 t0 (ox_QM g below args s c0 t0) b (rc b)) : ox_S p l e R s m args below meth c g 2 c0 t0 (ox_QM g below args s c0 t0) 10 (bX11_recall_10 f1 f2 rc) := by
  refine s_aload_n (pc := 10) C dX11_recall_10 rfl ?_
  refine s_getr (pc := 11) (j := 6) (q := (RX11, TX11, 13)) C rfl (by decide) rfl wF_X11_49 dX11_recall_11 ?_
  refine s_dup (pc := 14) C dX11_recall_14 ?_
  refine s_geti (pc := 15) (j := 5) (q := (RX1, TX1, 7)) C rfl (by decide) rfl wF_X11_298 dX11_recall_15 ?_
  refine s_iconst (pc := 18) C dX11_recall_18 (by decide) ?_
  refine s_iload_n (pc := 19) C dX11_recall_19 rfl ?_
  refine s_ishl (pc := 20) C dX11_recall_20 ?_
  refine s_ior (pc := 21) C dX11_recall_21 ?_
  refine s_puti (pc := 22) (j := 5) (q := (RX1, TX1, 7)) C rfl (by decide) rfl (Or.inl rfl) wF_X11_298 dX11_recall_22 ?_
  refine s_aload_n (pc := 25) C dX11_recall_25 rfl ?_
  refine s_getr (pc := 26) (j := 6) (q := (RX11, TX11, 13)) C rfl (by decide) rfl wF_X11_49 dX11_recall_26 ?_
  refine s_iconst (pc := 29) C dX11_recall_29 (by decide) ?_
  refine s_iload_n (pc := 30) C dX11_recall_30 rfl ?_
  refine s_ishl (pc := 31) C dX11_recall_31 ?_
  refine s_cv (pc := 32) (q := (RX1, TX1, 7)) C h2 rfl wM_X11_301 wI_X1_keptWith wS_X1_keptWith wN_X1 wC_X1_keptWith (by decide +kernel) (ox_lv hR e2 (by decide)) dX11_recall_32 ?_
  exact s_iret (pc := 35) C hr hlk dX11_recall_35
end SX11_recall
def bsX11_recall (f1 f2 : ox_F) (b : Nat) (rc : Nat → ox_K) : ox_K := if b = 0 then bX11_recall_0 f1 f2 rc else if b = 10 then bX11_recall_10 f1 f2 rc else ox_no
theorem mX11_recall {dp d1 d2 : Nat} {f1 f2 f : ox_F} (h1 : ox_Sem yX11_isLot cX11_isLot 1 (some .boolean) d1 f1) (e1 : d1 + 1 ≤ dp) (h2 : ox_Sem yX1_keptWith cX1_keptWith 4 (some .int) d2 f2) (e2 : d2 + 1 ≤ dp) (hf : ∀ as h r, f as h = some r → ox_cs as ≤ 2 ∧ ox_le h r.2 ∧ ∃ n, ox_run (bsX11_recall f1 f2) n 0 (lv_args 0 as) [] h = some r) : ox_Sem yX11_recall cX11_recall 2 (some .int) dp f := by
  refine ox_meth (bs := bsX11_recall f1 f2) (by decide) hf ?_
  intro p l e R s m args below meth c g c0 t0 C hr hlk hnm hR rc hrc b
  unfold bsX11_recall
  refine ox_br (kX11_recall_0 C hr hlk hnm hR h1 e1 h2 e2 hrc) ?_
  refine ox_br (kX11_recall_10 C hr hlk hnm hR h1 e1 h2 e2 hrc) ?_
  exact s_no
theorem dX11_melt_0 : decode cX11_melt 0 = .ok (.aload_n 0, 1) := by decide +kernel
theorem dX11_melt_1 : decode cX11_melt 1 = .ok (.iload_n 1, 1) := by decide +kernel
theorem dX11_melt_2 : decode cX11_melt 2 = .ok (.invokevirtual 278, 3) := by decide +kernel
theorem dX11_melt_5 : decode cX11_melt 5 = .ok (.ifCond .ne 6, 3) := by decide +kernel
theorem dX11_melt_8 : decode cX11_melt 8 = .ok (.ldc 73, 2) := by decide +kernel
theorem dX11_melt_10 : decode cX11_melt 10 = .ok (.ireturn, 1) := by decide +kernel
theorem dX11_melt_11 : decode cX11_melt 11 = .ok (.aload_n 0, 1) := by decide +kernel
theorem dX11_melt_12 : decode cX11_melt 12 = .ok (.getfield 49, 3) := by decide +kernel
theorem dX11_melt_15 : decode cX11_melt 15 = .ok (.getfield 281, 3) := by decide +kernel
theorem dX11_melt_18 : decode cX11_melt 18 = .ok (.iload_n 1, 1) := by decide +kernel
theorem dX11_melt_19 : decode cX11_melt 19 = .ok (.aaload, 1) := by decide +kernel
theorem dX11_melt_20 : decode cX11_melt 20 = .ok (.astore_n 2, 1) := by decide +kernel
theorem dX11_melt_21 : decode cX11_melt 21 = .ok (.aload_n 0, 1) := by decide +kernel
theorem dX11_melt_22 : decode cX11_melt 22 = .ok (.aload_n 2, 1) := by decide +kernel
theorem dX11_melt_23 : decode cX11_melt 23 = .ok (.invokevirtual 304, 3) := by decide +kernel
theorem dX11_melt_26 : decode cX11_melt 26 = .ok (.istore_n 3, 1) := by decide +kernel
theorem dX11_melt_27 : decode cX11_melt 27 = .ok (.iload_n 3, 1) := by decide +kernel
theorem dX11_melt_28 : decode cX11_melt 28 = .ok (.iconst 3, 1) := by decide +kernel
theorem dX11_melt_29 : decode cX11_melt 29 = .ok (.if_icmp .eq 8, 3) := by decide +kernel
theorem dX11_melt_32 : decode cX11_melt 32 = .ok (.iload_n 3, 1) := by decide +kernel
theorem dX11_melt_33 : decode cX11_melt 33 = .ok (.iconst 4, 1) := by decide +kernel
theorem dX11_melt_34 : decode cX11_melt 34 = .ok (.if_icmp .ne 7, 3) := by decide +kernel
theorem dX11_melt_37 : decode cX11_melt 37 = .ok (.iconst 1, 1) := by decide +kernel
theorem dX11_melt_38 : decode cX11_melt 38 = .ok (.goto 4, 3) := by decide +kernel
theorem dX11_melt_41 : decode cX11_melt 41 = .ok (.iconst 0, 1) := by decide +kernel
theorem dX11_melt_42 : decode cX11_melt 42 = .ok (.istore 4, 2) := by decide +kernel
theorem dX11_melt_44 : decode cX11_melt 44 = .ok (.iload 4, 2) := by decide +kernel
theorem dX11_melt_46 : decode cX11_melt 46 = .ok (.ifCond .eq 10, 3) := by decide +kernel
theorem dX11_melt_49 : decode cX11_melt 49 = .ok (.aload_n 2, 1) := by decide +kernel
theorem dX11_melt_50 : decode cX11_melt 50 = .ok (.getfield 295, 3) := by decide +kernel
theorem dX11_melt_53 : decode cX11_melt 53 = .ok (.ifCond .eq 6, 3) := by decide +kernel
theorem dX11_melt_56 : decode cX11_melt 56 = .ok (.ldc 196, 2) := by decide +kernel
theorem dX11_melt_58 : decode cX11_melt 58 = .ok (.ireturn, 1) := by decide +kernel
theorem dX11_melt_59 : decode cX11_melt 59 = .ok (.aload_n 2, 1) := by decide +kernel
theorem dX11_melt_60 : decode cX11_melt 60 = .ok (.iconst 1, 1) := by decide +kernel
theorem dX11_melt_61 : decode cX11_melt 61 = .ok (.putfield 295, 3) := by decide +kernel
theorem dX11_melt_64 : decode cX11_melt 64 = .ok (.aload_n 0, 1) := by decide +kernel
theorem dX11_melt_65 : decode cX11_melt 65 = .ok (.getfield 35, 3) := by decide +kernel
theorem dX11_melt_68 : decode cX11_melt 68 = .ok (.aload_n 2, 1) := by decide +kernel
theorem dX11_melt_69 : decode cX11_melt 69 = .ok (.getfield 289, 3) := by decide +kernel
theorem dX11_melt_72 : decode cX11_melt 72 = .ok (.dup2, 1) := by decide +kernel
theorem dX11_melt_73 : decode cX11_melt 73 = .ok (.iaload, 1) := by decide +kernel
theorem dX11_melt_74 : decode cX11_melt 74 = .ok (.aload_n 2, 1) := by decide +kernel
theorem dX11_melt_75 : decode cX11_melt 75 = .ok (.getfield 285, 3) := by decide +kernel
theorem dX11_melt_78 : decode cX11_melt 78 = .ok (.iadd, 1) := by decide +kernel
theorem dX11_melt_79 : decode cX11_melt 79 = .ok (.iastore, 1) := by decide +kernel
theorem dX11_melt_80 : decode cX11_melt 80 = .ok (.aload_n 0, 1) := by decide +kernel
theorem dX11_melt_81 : decode cX11_melt 81 = .ok (.getfield 35, 3) := by decide +kernel
theorem dX11_melt_84 : decode cX11_melt 84 = .ok (.aload_n 2, 1) := by decide +kernel
theorem dX11_melt_85 : decode cX11_melt 85 = .ok (.getfield 289, 3) := by decide +kernel
theorem dX11_melt_88 : decode cX11_melt 88 = .ok (.iaload, 1) := by decide +kernel
theorem dX11_melt_89 : decode cX11_melt 89 = .ok (.ireturn, 1) := by decide +kernel
def bX11_melt_0 (f1 f2 : ox_F) (rc : Nat → ox_K) : ox_K := o_al 0 (o_il 1 (o_cv f1 11 1 (o_ifne (rc 11) (o_ic (-1000001) (o_iret)))))
def bX11_melt_11 (f1 f2 : ox_F) (rc : Nat → ox_K) : ox_K := o_al 0 (o_getr 11 6 (o_getr 1 0 (o_il 1 (o_aa 0 (o_as 2 (o_al 0 (o_al 2 (o_cv f2 11 1 (o_is 3 (o_il 3 (o_ic (3) (o_iceq (rc 37) (o_il 3 (o_ic (4) (o_icne (rc 41) (rc 37))))))))))))))))
def bX11_melt_37 (f1 f2 : ox_F) (rc : Nat → ox_K) : ox_K := o_ic (1) (rc 42)
def bX11_melt_41 (f1 f2 : ox_F) (rc : Nat → ox_K) : ox_K := o_ic (0) (rc 42)
def bX11_melt_42 (f1 f2 : ox_F) (rc : Nat → ox_K) : ox_K := o_is 4 (o_il 4 (o_ifeq (rc 56) (o_al 2 (o_geti 0 6 (o_ifeq (rc 59) (rc 56))))))
def bX11_melt_56 (f1 f2 : ox_F) (rc : Nat → ox_K) : ox_K := o_ic (-1000002) (o_iret)
def bX11_melt_59 (f1 f2 : ox_F) (rc : Nat → ox_K) : ox_K := o_al 2 (o_ic (1) (o_putz 0 6 (o_al 0 (o_getr 11 4 (o_al 2 (o_geti 0 2 (o_dup2 (o_ia (o_al 2 (o_geti 0 0 (o_iadd (o_iast (o_al 0 (o_getr 11 4 (o_al 2 (o_geti 0 2 (o_ia (o_iret))))))))))))))))))
section SX11_melt
variable {p : Program} {l : Launch} {e : Env} {R : Room} {s : State} {m : MethodId} {args : Array Value} {below : List Frame} {meth : Method} {c : Code} {g : ox_G} {c0 t0 dp d1 d2 : Nat} {rc : Nat → ox_K} {f1 f2 : ox_F}
set_option maxRecDepth 100000 in
theorem kX11_melt_0 (C : ox_C p s m args c g 5 cX11_melt RX11) (hr : meth.sig.returnType = (some .int)) (hlk : meth.locks = false) (hnm : meth.name = "melt") (hR : R.frames = dp ∧ R.locals = 60 * dp) (h1 : ox_Sem yX11_isKept cX11_isKept 2 (some .boolean) d1 f1) (e1 : d1 + 1 ≤ dp) (h2 : ox_Sem yX11_toldKind cX11_toldKind 3 (some .int) d2 f2) (e2 : d2 + 1 ≤ dp) (hrc : ∀ b, ox_S p l e R s m args below meth c g 5 c0 t0 (ox_QM g below args s c0 t0) b (rc b)) : ox_S p l e R s m args below meth c g 5 c0 t0 (ox_QM g below args s c0 t0) 0 (bX11_melt_0 f1 f2 rc) := by
  refine s_aload_n (pc := 0) C dX11_melt_0 rfl ?_
  refine s_iload_n (pc := 1) C dX11_melt_1 rfl ?_
  refine s_cv (pc := 2) (q := (RX11, TX11, 13)) C h1 rfl wM_X11_278 wI_X11_isKept wS_X11_isKept wN_X11 wC_X11_isKept (by decide +kernel) (ox_lv hR e1 (by decide)) dX11_melt_2 ?_
  refine s_ifne (pc := 5) 11 C dX11_melt_5 (by decide) (hrc 11) ?_
  refine s_ldc (pc := 8) C wK_X11_73 dX11_melt_8 ?_
  exact s_iret (pc := 10) C hr hlk dX11_melt_10
set_option maxRecDepth 100000 in
theorem kX11_melt_11 (C : ox_C p s m args c g 5 cX11_melt RX11) (hr : meth.sig.returnType = (some .int)) (hlk : meth.locks = false) (hnm : meth.name = "melt") (hR : R.frames = dp ∧ R.locals = 60 * dp) (h1 : ox_Sem yX11_isKept cX11_isKept 2 (some .boolean) d1 f1) (e1 : d1 + 1 ≤ dp) (h2 : ox_Sem yX11_toldKind cX11_toldKind 3 (some .int) d2 f2) (e2 : d2 + 1 ≤ dp) (hrc : ∀ b, ox_S p l e R s m args below meth c g 5 c0 t0 (ox_QM g below args s c0 t0) b (rc b)) : ox_S p l e R s m args below meth c g 5 c0 t0 (ox_QM g below args s c0 t0) 11 (bX11_melt_11 f1 f2 rc) := by
  refine s_aload_n (pc := 11) C dX11_melt_11 rfl ?_
  refine s_getr (pc := 12) (j := 6) (q := (RX11, TX11, 13)) C rfl (by decide) rfl wF_X11_49 dX11_melt_12 ?_
  refine s_getr (pc := 15) (j := 0) (q := (RX1, TX1, 7)) C rfl (by decide) rfl wF_X11_281 dX11_melt_15 ?_
  refine s_iload_n (pc := 18) C dX11_melt_18 rfl ?_
  refine s_aa (pc := 19) (q := (RX0, TX0, 7)) 3 C rfl dX11_melt_19 ?_
  refine s_astore_n (pc := 20) C dX11_melt_20 rfl (by decide) ?_
  refine s_aload_n (pc := 21) C dX11_melt_21 rfl ?_
  refine s_aload_n (pc := 22) C dX11_melt_22 rfl ?_
  refine s_cv (pc := 23) (q := (RX11, TX11, 13)) C h2 rfl wM_X11_304 wI_X11_toldKind wS_X11_toldKind wN_X11 wC_X11_toldKind (by decide +kernel) (ox_lv hR e2 (by decide)) dX11_melt_23 ?_
  refine s_istore_n (pc := 26) C dX11_melt_26 rfl (by decide) ?_
  refine s_iload_n (pc := 27) C dX11_melt_27 rfl ?_
  refine s_iconst (pc := 28) C dX11_melt_28 (by decide) ?_
  refine s_icmpeq (pc := 29) 37 C dX11_melt_29 (by decide) (hrc 37) ?_
  refine s_iload_n (pc := 32) C dX11_melt_32 rfl ?_
  refine s_iconst (pc := 33) C dX11_melt_33 (by decide) ?_
  refine s_icmpne (pc := 34) 41 C dX11_melt_34 (by decide) (hrc 41) ?_
  exact hrc 37
set_option maxRecDepth 100000 in
theorem kX11_melt_37 (C : ox_C p s m args c g 5 cX11_melt RX11) (hr : meth.sig.returnType = (some .int)) (hlk : meth.locks = false) (hnm : meth.name = "melt") (hR : R.frames = dp ∧ R.locals = 60 * dp) (h1 : ox_Sem yX11_isKept cX11_isKept 2 (some .boolean) d1 f1) (e1 : d1 + 1 ≤ dp) (h2 : ox_Sem yX11_toldKind cX11_toldKind 3 (some .int) d2 f2) (e2 : d2 + 1 ≤ dp) (hrc : ∀ b, ox_S p l e R s m args below meth c g 5 c0 t0 (ox_QM g below args s c0 t0) b (rc b)) : ox_S p l e R s m args below meth c g 5 c0 t0 (ox_QM g below args s c0 t0) 37 (bX11_melt_37 f1 f2 rc) := by
  refine s_iconst (pc := 37) C dX11_melt_37 (by decide) ?_
  exact s_goto (pc := 38) 42 C dX11_melt_38 (by decide) (hrc 42)
set_option maxRecDepth 100000 in
theorem kX11_melt_41 (C : ox_C p s m args c g 5 cX11_melt RX11) (hr : meth.sig.returnType = (some .int)) (hlk : meth.locks = false) (hnm : meth.name = "melt") (hR : R.frames = dp ∧ R.locals = 60 * dp) (h1 : ox_Sem yX11_isKept cX11_isKept 2 (some .boolean) d1 f1) (e1 : d1 + 1 ≤ dp) (h2 : ox_Sem yX11_toldKind cX11_toldKind 3 (some .int) d2 f2) (e2 : d2 + 1 ≤ dp) (hrc : ∀ b, ox_S p l e R s m args below meth c g 5 c0 t0 (ox_QM g below args s c0 t0) b (rc b)) : ox_S p l e R s m args below meth c g 5 c0 t0 (ox_QM g below args s c0 t0) 41 (bX11_melt_41 f1 f2 rc) := by
  refine s_iconst (pc := 41) C dX11_melt_41 (by decide) ?_
  exact hrc 42
set_option maxRecDepth 100000 in
theorem kX11_melt_42 (C : ox_C p s m args c g 5 cX11_melt RX11) (hr : meth.sig.returnType = (some .int)) (hlk : meth.locks = false) (hnm : meth.name = "melt") (hR : R.frames = dp ∧ R.locals = 60 * dp) (h1 : ox_Sem yX11_isKept cX11_isKept 2 (some .boolean) d1 f1) (e1 : d1 + 1 ≤ dp) (h2 : ox_Sem yX11_toldKind cX11_toldKind 3 (some .int) d2 f2) (e2 : d2 + 1 ≤ dp) (hrc : ∀ b, ox_S p l e R s m args below meth c g 5 c0 t0 (ox_QM g below args s c0 t0) b (rc b)) : ox_S p l e R s m args below meth c g 5 c0 t0 (ox_QM g below args s c0 t0) 42 (bX11_melt_42 f1 f2 rc) := by
  refine s_istore (pc := 42) C dX11_melt_42 (by decide) ?_
  refine s_iload (pc := 44) C dX11_melt_44 ?_
  refine s_ifeq (pc := 46) 56 C dX11_melt_46 (by decide) (hrc 56) ?_
  refine s_aload_n (pc := 49) C dX11_melt_49 rfl ?_
  refine s_geti (pc := 50) (j := 6) (q := (RX0, TX0, 7)) C rfl (by decide) rfl wF_X11_295 dX11_melt_50 ?_
  refine s_ifeq (pc := 53) 59 C dX11_melt_53 (by decide) (hrc 59) ?_
  exact hrc 56
set_option maxRecDepth 100000 in
theorem kX11_melt_56 (C : ox_C p s m args c g 5 cX11_melt RX11) (hr : meth.sig.returnType = (some .int)) (hlk : meth.locks = false) (hnm : meth.name = "melt") (hR : R.frames = dp ∧ R.locals = 60 * dp) (h1 : ox_Sem yX11_isKept cX11_isKept 2 (some .boolean) d1 f1) (e1 : d1 + 1 ≤ dp) (h2 : ox_Sem yX11_toldKind cX11_toldKind 3 (some .int) d2 f2) (e2 : d2 + 1 ≤ dp) (hrc : ∀ b, ox_S p l e R s m args below meth c g 5 c0 t0 (ox_QM g below args s c0 t0) b (rc b)) : ox_S p l e R s m args below meth c g 5 c0 t0 (ox_QM g below args s c0 t0) 56 (bX11_melt_56 f1 f2 rc) := by
  refine s_ldc (pc := 56) C wK_X11_196 dX11_melt_56 ?_
  exact s_iret (pc := 58) C hr hlk dX11_melt_58
set_option maxRecDepth 100000 in
theorem kX11_melt_59 (C : ox_C p s m args c g 5 cX11_melt RX11) (hr : meth.sig.returnType = (some .int)) (hlk : meth.locks = false) (hnm : meth.name = "melt") (hR : R.frames = dp ∧ R.locals = 60 * dp) (h1 : ox_Sem yX11_isKept cX11_isKept 2 (some .boolean) d1 f1) (e1 : d1 + 1 ≤ dp) (h2 : ox_Sem yX11_toldKind cX11_toldKind 3 (some .int) d2 f2) (e2 : d2 + 1 ≤ dp) (hrc : ∀ b, ox_S p l e R s m args below meth c g 5 c0 t0 (ox_QM g below args s c0 t0) b (rc b)) : ox_S p l e R s m args below meth c g 5 c0 t0 (ox_QM g below args s c0 t0) 59 (bX11_melt_59 f1 f2 rc) := by
  refine s_aload_n (pc := 59) C dX11_melt_59 rfl ?_
  refine s_iconst (pc := 60) C dX11_melt_60 (by decide) ?_
  refine s_putz (pc := 61) (j := 6) (q := (RX0, TX0, 7)) C rfl (by decide) rfl (Or.inl rfl) wF_X11_295 dX11_melt_61 ?_
  refine s_aload_n (pc := 64) C dX11_melt_64 rfl ?_
  refine s_getr (pc := 65) (j := 4) (q := (RX11, TX11, 13)) C rfl (by decide) rfl wF_X11_35 dX11_melt_65 ?_
  refine s_aload_n (pc := 68) C dX11_melt_68 rfl ?_
  refine s_geti (pc := 69) (j := 2) (q := (RX0, TX0, 7)) C rfl (by decide) rfl wF_X11_289 dX11_melt_69 ?_
  refine s_dup2 (pc := 72) C dX11_melt_72 ?_
  refine s_ia (pc := 73) C dX11_melt_73 ?_
  refine s_aload_n (pc := 74) C dX11_melt_74 rfl ?_
  refine s_geti (pc := 75) (j := 0) (q := (RX0, TX0, 7)) C rfl (by decide) rfl wF_X11_285 dX11_melt_75 ?_
  refine s_iadd (pc := 78) C dX11_melt_78 ?_
  refine s_iast (pc := 79) C dX11_melt_79 ?_
  refine s_aload_n (pc := 80) C dX11_melt_80 rfl ?_
  refine s_getr (pc := 81) (j := 4) (q := (RX11, TX11, 13)) C rfl (by decide) rfl wF_X11_35 dX11_melt_81 ?_
  refine s_aload_n (pc := 84) C dX11_melt_84 rfl ?_
  refine s_geti (pc := 85) (j := 2) (q := (RX0, TX0, 7)) C rfl (by decide) rfl wF_X11_289 dX11_melt_85 ?_
  refine s_ia (pc := 88) C dX11_melt_88 ?_
  exact s_iret (pc := 89) C hr hlk dX11_melt_89
end SX11_melt
def bsX11_melt (f1 f2 : ox_F) (b : Nat) (rc : Nat → ox_K) : ox_K := if b = 0 then bX11_melt_0 f1 f2 rc else if b = 11 then bX11_melt_11 f1 f2 rc else if b = 37 then bX11_melt_37 f1 f2 rc else if b = 41 then bX11_melt_41 f1 f2 rc else if b = 42 then bX11_melt_42 f1 f2 rc else if b = 56 then bX11_melt_56 f1 f2 rc else if b = 59 then bX11_melt_59 f1 f2 rc else ox_no
theorem mX11_melt {dp d1 d2 : Nat} {f1 f2 f : ox_F} (h1 : ox_Sem yX11_isKept cX11_isKept 2 (some .boolean) d1 f1) (e1 : d1 + 1 ≤ dp) (h2 : ox_Sem yX11_toldKind cX11_toldKind 3 (some .int) d2 f2) (e2 : d2 + 1 ≤ dp) (hf : ∀ as h r, f as h = some r → ox_cs as ≤ 5 ∧ ox_le h r.2 ∧ ∃ n, ox_run (bsX11_melt f1 f2) n 0 (lv_args 0 as) [] h = some r) : ox_Sem yX11_melt cX11_melt 5 (some .int) dp f := by
  refine ox_meth (bs := bsX11_melt f1 f2) (by decide) hf ?_
  intro p l e R s m args below meth c g c0 t0 C hr hlk hnm hR rc hrc b
  unfold bsX11_melt
  refine ox_br (kX11_melt_0 C hr hlk hnm hR h1 e1 h2 e2 hrc) ?_
  refine ox_br (kX11_melt_11 C hr hlk hnm hR h1 e1 h2 e2 hrc) ?_
  refine ox_br (kX11_melt_37 C hr hlk hnm hR h1 e1 h2 e2 hrc) ?_
  refine ox_br (kX11_melt_41 C hr hlk hnm hR h1 e1 h2 e2 hrc) ?_
  refine ox_br (kX11_melt_42 C hr hlk hnm hR h1 e1 h2 e2 hrc) ?_
  refine ox_br (kX11_melt_56 C hr hlk hnm hR h1 e1 h2 e2 hrc) ?_
  refine ox_br (kX11_melt_59 C hr hlk hnm hR h1 e1 h2 e2 hrc) ?_
  exact s_no
theorem dX11_bin_0 : decode cX11_bin 0 = .ok (.aload_n 0, 1) := by decide +kernel
theorem dX11_bin_1 : decode cX11_bin 1 = .ok (.iload_n 1, 1) := by decide +kernel
theorem dX11_bin_2 : decode cX11_bin 2 = .ok (.invokevirtual 147, 3) := by decide +kernel
theorem dX11_bin_5 : decode cX11_bin 5 = .ok (.ifCond .eq 12, 3) := by decide +kernel
theorem dX11_bin_8 : decode cX11_bin 8 = .ok (.aload_n 0, 1) := by decide +kernel
theorem dX11_bin_9 : decode cX11_bin 9 = .ok (.getfield 35, 3) := by decide +kernel
theorem dX11_bin_12 : decode cX11_bin 12 = .ok (.iload_n 1, 1) := by decide +kernel
theorem dX11_bin_13 : decode cX11_bin 13 = .ok (.iaload, 1) := by decide +kernel
theorem dX11_bin_14 : decode cX11_bin 14 = .ok (.goto 5, 3) := by decide +kernel
theorem dX11_bin_17 : decode cX11_bin 17 = .ok (.ldc 73, 2) := by decide +kernel
theorem dX11_bin_19 : decode cX11_bin 19 = .ok (.ireturn, 1) := by decide +kernel
def bX11_bin_0 (f1 : ox_F) (rc : Nat → ox_K) : ox_K := o_al 0 (o_il 1 (o_cv f1 11 1 (o_ifeq (rc 17) (o_al 0 (o_getr 11 4 (o_il 1 (o_ia (rc 19))))))))
def bX11_bin_17 (f1 : ox_F) (rc : Nat → ox_K) : ox_K := o_ic (-1000001) (rc 19)
def bX11_bin_19 (f1 : ox_F) (rc : Nat → ox_K) : ox_K := o_iret
section SX11_bin
variable {p : Program} {l : Launch} {e : Env} {R : Room} {s : State} {m : MethodId} {args : Array Value} {below : List Frame} {meth : Method} {c : Code} {g : ox_G} {c0 t0 dp d1 : Nat} {rc : Nat → ox_K} {f1 : ox_F}
set_option maxRecDepth 100000 in
theorem kX11_bin_0 (C : ox_C p s m args c g 2 cX11_bin RX11) (hr : meth.sig.returnType = (some .int)) (hlk : meth.locks = false) (hnm : meth.name = "bin") (hR : R.frames = dp ∧ R.locals = 60 * dp) (h1 : ox_Sem yX11_isRecipe cX11_isRecipe 2 (some .boolean) d1 f1) (e1 : d1 + 1 ≤ dp) (hrc : ∀ b, ox_S p l e R s m args below meth c g 2 c0 t0 (ox_QM g below args s c0 t0) b (rc b)) : ox_S p l e R s m args below meth c g 2 c0 t0 (ox_QM g below args s c0 t0) 0 (bX11_bin_0 f1 rc) := by
  refine s_aload_n (pc := 0) C dX11_bin_0 rfl ?_
  refine s_iload_n (pc := 1) C dX11_bin_1 rfl ?_
  refine s_cv (pc := 2) (q := (RX11, TX11, 13)) C h1 rfl wM_X11_147 wI_X11_isRecipe wS_X11_isRecipe wN_X11 wC_X11_isRecipe (by decide +kernel) (ox_lv hR e1 (by decide)) dX11_bin_2 ?_
  refine s_ifeq (pc := 5) 17 C dX11_bin_5 (by decide) (hrc 17) ?_
  refine s_aload_n (pc := 8) C dX11_bin_8 rfl ?_
  refine s_getr (pc := 9) (j := 4) (q := (RX11, TX11, 13)) C rfl (by decide) rfl wF_X11_35 dX11_bin_9 ?_
  refine s_iload_n (pc := 12) C dX11_bin_12 rfl ?_
  refine s_ia (pc := 13) C dX11_bin_13 ?_
  exact s_goto (pc := 14) 19 C dX11_bin_14 (by decide) (hrc 19)
set_option maxRecDepth 100000 in
theorem kX11_bin_17 (C : ox_C p s m args c g 2 cX11_bin RX11) (hr : meth.sig.returnType = (some .int)) (hlk : meth.locks = false) (hnm : meth.name = "bin") (hR : R.frames = dp ∧ R.locals = 60 * dp) (h1 : ox_Sem yX11_isRecipe cX11_isRecipe 2 (some .boolean) d1 f1) (e1 : d1 + 1 ≤ dp) (hrc : ∀ b, ox_S p l e R s m args below meth c g 2 c0 t0 (ox_QM g below args s c0 t0) b (rc b)) : ox_S p l e R s m args below meth c g 2 c0 t0 (ox_QM g below args s c0 t0) 17 (bX11_bin_17 f1 rc) := by
  refine s_ldc (pc := 17) C wK_X11_73 dX11_bin_17 ?_
  exact hrc 19
set_option maxRecDepth 100000 in
theorem kX11_bin_19 (C : ox_C p s m args c g 2 cX11_bin RX11) (hr : meth.sig.returnType = (some .int)) (hlk : meth.locks = false) (hnm : meth.name = "bin") (hR : R.frames = dp ∧ R.locals = 60 * dp) (h1 : ox_Sem yX11_isRecipe cX11_isRecipe 2 (some .boolean) d1 f1) (e1 : d1 + 1 ≤ dp) (hrc : ∀ b, ox_S p l e R s m args below meth c g 2 c0 t0 (ox_QM g below args s c0 t0) b (rc b)) : ox_S p l e R s m args below meth c g 2 c0 t0 (ox_QM g below args s c0 t0) 19 (bX11_bin_19 f1 rc) := by
  exact s_iret (pc := 19) C hr hlk dX11_bin_19
end SX11_bin
def bsX11_bin (f1 : ox_F) (b : Nat) (rc : Nat → ox_K) : ox_K := if b = 0 then bX11_bin_0 f1 rc else if b = 17 then bX11_bin_17 f1 rc else if b = 19 then bX11_bin_19 f1 rc else ox_no
theorem mX11_bin {dp d1 : Nat} {f1 f : ox_F} (h1 : ox_Sem yX11_isRecipe cX11_isRecipe 2 (some .boolean) d1 f1) (e1 : d1 + 1 ≤ dp) (hf : ∀ as h r, f as h = some r → ox_cs as ≤ 2 ∧ ox_le h r.2 ∧ ∃ n, ox_run (bsX11_bin f1) n 0 (lv_args 0 as) [] h = some r) : ox_Sem yX11_bin cX11_bin 2 (some .int) dp f := by
  refine ox_meth (bs := bsX11_bin f1) (by decide) hf ?_
  intro p l e R s m args below meth c g c0 t0 C hr hlk hnm hR rc hrc b
  unfold bsX11_bin
  refine ox_br (kX11_bin_0 C hr hlk hnm hR h1 e1 hrc) ?_
  refine ox_br (kX11_bin_17 C hr hlk hnm hR h1 e1 hrc) ?_
  refine ox_br (kX11_bin_19 C hr hlk hnm hR h1 e1 hrc) ?_
  exact s_no
theorem dX11_grams_0 : decode cX11_grams 0 = .ok (.iload_n 1, 1) := by decide +kernel
theorem dX11_grams_1 : decode cX11_grams 1 = .ok (.tableswitch 78 0 5 #[39, 44, 49, 57, 65, 70], 39) := by decide +kernel
theorem dX11_grams_40 : decode cX11_grams 40 = .ok (.aload_n 0, 1) := by decide +kernel
theorem dX11_grams_41 : decode cX11_grams 41 = .ok (.getfield 201, 3) := by decide +kernel
theorem dX11_grams_44 : decode cX11_grams 44 = .ok (.ireturn, 1) := by decide +kernel
theorem dX11_grams_45 : decode cX11_grams 45 = .ok (.aload_n 0, 1) := by decide +kernel
theorem dX11_grams_46 : decode cX11_grams 46 = .ok (.invokevirtual 308, 3) := by decide +kernel
theorem dX11_grams_49 : decode cX11_grams 49 = .ok (.ireturn, 1) := by decide +kernel
theorem dX11_grams_50 : decode cX11_grams 50 = .ok (.aload_n 0, 1) := by decide +kernel
theorem dX11_grams_51 : decode cX11_grams 51 = .ok (.getfield 42, 3) := by decide +kernel
theorem dX11_grams_54 : decode cX11_grams 54 = .ok (.invokevirtual 311, 3) := by decide +kernel
theorem dX11_grams_57 : decode cX11_grams 57 = .ok (.ireturn, 1) := by decide +kernel
theorem dX11_grams_58 : decode cX11_grams 58 = .ok (.aload_n 0, 1) := by decide +kernel
theorem dX11_grams_59 : decode cX11_grams 59 = .ok (.getfield 49, 3) := by decide +kernel
theorem dX11_grams_62 : decode cX11_grams 62 = .ok (.getfield 314, 3) := by decide +kernel
theorem dX11_grams_65 : decode cX11_grams 65 = .ok (.ireturn, 1) := by decide +kernel
theorem dX11_grams_66 : decode cX11_grams 66 = .ok (.aload_n 0, 1) := by decide +kernel
theorem dX11_grams_67 : decode cX11_grams 67 = .ok (.getfield 211, 3) := by decide +kernel
theorem dX11_grams_70 : decode cX11_grams 70 = .ok (.ireturn, 1) := by decide +kernel
theorem dX11_grams_71 : decode cX11_grams 71 = .ok (.aload_n 0, 1) := by decide +kernel
theorem dX11_grams_72 : decode cX11_grams 72 = .ok (.getfield 49, 3) := by decide +kernel
theorem dX11_grams_75 : decode cX11_grams 75 = .ok (.getfield 317, 3) := by decide +kernel
theorem dX11_grams_78 : decode cX11_grams 78 = .ok (.ireturn, 1) := by decide +kernel
theorem dX11_grams_79 : decode cX11_grams 79 = .ok (.ldc 73, 2) := by decide +kernel
theorem dX11_grams_81 : decode cX11_grams 81 = .ok (.ireturn, 1) := by decide +kernel
def bX11_grams_0 (f1 f2 : ox_F) (rc : Nat → ox_K) : ox_K := o_il 1 (o_tsw 0 [rc 40, rc 45, rc 50, rc 58, rc 66, rc 71] (rc 79))
def bX11_grams_40 (f1 f2 : ox_F) (rc : Nat → ox_K) : ox_K := o_al 0 (o_geti 11 10 (o_iret))
def bX11_grams_45 (f1 f2 : ox_F) (rc : Nat → ox_K) : ox_K := o_al 0 (o_cv f1 11 0 (o_iret))
def bX11_grams_50 (f1 f2 : ox_F) (rc : Nat → ox_K) : ox_K := o_al 0 (o_getr 11 5 (o_cv f2 2 0 (o_iret)))
def bX11_grams_58 (f1 f2 : ox_F) (rc : Nat → ox_K) : ox_K := o_al 0 (o_getr 11 6 (o_geti 1 3 (o_iret)))
def bX11_grams_66 (f1 f2 : ox_F) (rc : Nat → ox_K) : ox_K := o_al 0 (o_geti 11 11 (o_iret))
def bX11_grams_71 (f1 f2 : ox_F) (rc : Nat → ox_K) : ox_K := o_al 0 (o_getr 11 6 (o_geti 1 4 (o_iret)))
def bX11_grams_79 (f1 f2 : ox_F) (rc : Nat → ox_K) : ox_K := o_ic (-1000001) (o_iret)
section SX11_grams
variable {p : Program} {l : Launch} {e : Env} {R : Room} {s : State} {m : MethodId} {args : Array Value} {below : List Frame} {meth : Method} {c : Code} {g : ox_G} {c0 t0 dp d1 d2 : Nat} {rc : Nat → ox_K} {f1 f2 : ox_F}
set_option maxRecDepth 100000 in
theorem kX11_grams_0 (C : ox_C p s m args c g 2 cX11_grams RX11) (hr : meth.sig.returnType = (some .int)) (hlk : meth.locks = false) (hnm : meth.name = "grams") (hR : R.frames = dp ∧ R.locals = 60 * dp) (h1 : ox_Sem yX11_gramsInTanks cX11_gramsInTanks 3 (some .int) d1 f1) (e1 : d1 + 1 ≤ dp) (h2 : ox_Sem yX2_gramsInMoulds cX2_gramsInMoulds 3 (some .int) d2 f2) (e2 : d2 + 1 ≤ dp) (hrc : ∀ b, ox_S p l e R s m args below meth c g 2 c0 t0 (ox_QM g below args s c0 t0) b (rc b)) : ox_S p l e R s m args below meth c g 2 c0 t0 (ox_QM g below args s c0 t0) 0 (bX11_grams_0 f1 f2 rc) := by
  refine s_iload_n (pc := 0) C dX11_grams_0 rfl ?_
  exact s_tsw (pc := 1) 79 [40, 45, 50, 58, 66, 71] C dX11_grams_1 (by decide) rfl (by decide +kernel) (hrc 79) (ox_ts hrc [40, 45, 50, 58, 66, 71]) rfl
set_option maxRecDepth 100000 in
theorem kX11_grams_40 (C : ox_C p s m args c g 2 cX11_grams RX11) (hr : meth.sig.returnType = (some .int)) (hlk : meth.locks = false) (hnm : meth.name = "grams") (hR : R.frames = dp ∧ R.locals = 60 * dp) (h1 : ox_Sem yX11_gramsInTanks cX11_gramsInTanks 3 (some .int) d1 f1) (e1 : d1 + 1 ≤ dp) (h2 : ox_Sem yX2_gramsInMoulds cX2_gramsInMoulds 3 (some .int) d2 f2) (e2 : d2 + 1 ≤ dp) (hrc : ∀ b, ox_S p l e R s m args below meth c g 2 c0 t0 (ox_QM g below args s c0 t0) b (rc b)) : ox_S p l e R s m args below meth c g 2 c0 t0 (ox_QM g below args s c0 t0) 40 (bX11_grams_40 f1 f2 rc) := by
  refine s_aload_n (pc := 40) C dX11_grams_40 rfl ?_
  refine s_geti (pc := 41) (j := 10) (q := (RX11, TX11, 13)) C rfl (by decide) rfl wF_X11_201 dX11_grams_41 ?_
  exact s_iret (pc := 44) C hr hlk dX11_grams_44
set_option maxRecDepth 100000 in
theorem kX11_grams_45 (C : ox_C p s m args c g 2 cX11_grams RX11) (hr : meth.sig.returnType = (some .int)) (hlk : meth.locks = false) (hnm : meth.name = "grams") (hR : R.frames = dp ∧ R.locals = 60 * dp) (h1 : ox_Sem yX11_gramsInTanks cX11_gramsInTanks 3 (some .int) d1 f1) (e1 : d1 + 1 ≤ dp) (h2 : ox_Sem yX2_gramsInMoulds cX2_gramsInMoulds 3 (some .int) d2 f2) (e2 : d2 + 1 ≤ dp) (hrc : ∀ b, ox_S p l e R s m args below meth c g 2 c0 t0 (ox_QM g below args s c0 t0) b (rc b)) : ox_S p l e R s m args below meth c g 2 c0 t0 (ox_QM g below args s c0 t0) 45 (bX11_grams_45 f1 f2 rc) := by
  refine s_aload_n (pc := 45) C dX11_grams_45 rfl ?_
  refine s_cv (pc := 46) (q := (RX11, TX11, 13)) C h1 rfl wM_X11_308 wI_X11_gramsInTanks wS_X11_gramsInTanks wN_X11 wC_X11_gramsInTanks (by decide +kernel) (ox_lv hR e1 (by decide)) dX11_grams_46 ?_
  exact s_iret (pc := 49) C hr hlk dX11_grams_49
set_option maxRecDepth 100000 in
theorem kX11_grams_50 (C : ox_C p s m args c g 2 cX11_grams RX11) (hr : meth.sig.returnType = (some .int)) (hlk : meth.locks = false) (hnm : meth.name = "grams") (hR : R.frames = dp ∧ R.locals = 60 * dp) (h1 : ox_Sem yX11_gramsInTanks cX11_gramsInTanks 3 (some .int) d1 f1) (e1 : d1 + 1 ≤ dp) (h2 : ox_Sem yX2_gramsInMoulds cX2_gramsInMoulds 3 (some .int) d2 f2) (e2 : d2 + 1 ≤ dp) (hrc : ∀ b, ox_S p l e R s m args below meth c g 2 c0 t0 (ox_QM g below args s c0 t0) b (rc b)) : ox_S p l e R s m args below meth c g 2 c0 t0 (ox_QM g below args s c0 t0) 50 (bX11_grams_50 f1 f2 rc) := by
  refine s_aload_n (pc := 50) C dX11_grams_50 rfl ?_
  refine s_getr (pc := 51) (j := 5) (q := (RX11, TX11, 13)) C rfl (by decide) rfl wF_X11_42 dX11_grams_51 ?_
  refine s_cv (pc := 54) (q := (RX2, TX2, 6)) C h2 rfl wM_X11_311 wI_X2_gramsInMoulds wS_X2_gramsInMoulds wN_X2 wC_X2_gramsInMoulds (by decide +kernel) (ox_lv hR e2 (by decide)) dX11_grams_54 ?_
  exact s_iret (pc := 57) C hr hlk dX11_grams_57
set_option maxRecDepth 100000 in
theorem kX11_grams_58 (C : ox_C p s m args c g 2 cX11_grams RX11) (hr : meth.sig.returnType = (some .int)) (hlk : meth.locks = false) (hnm : meth.name = "grams") (hR : R.frames = dp ∧ R.locals = 60 * dp) (h1 : ox_Sem yX11_gramsInTanks cX11_gramsInTanks 3 (some .int) d1 f1) (e1 : d1 + 1 ≤ dp) (h2 : ox_Sem yX2_gramsInMoulds cX2_gramsInMoulds 3 (some .int) d2 f2) (e2 : d2 + 1 ≤ dp) (hrc : ∀ b, ox_S p l e R s m args below meth c g 2 c0 t0 (ox_QM g below args s c0 t0) b (rc b)) : ox_S p l e R s m args below meth c g 2 c0 t0 (ox_QM g below args s c0 t0) 58 (bX11_grams_58 f1 f2 rc) := by
  refine s_aload_n (pc := 58) C dX11_grams_58 rfl ?_
  refine s_getr (pc := 59) (j := 6) (q := (RX11, TX11, 13)) C rfl (by decide) rfl wF_X11_49 dX11_grams_59 ?_
  refine s_geti (pc := 62) (j := 3) (q := (RX1, TX1, 7)) C rfl (by decide) rfl wF_X11_314 dX11_grams_62 ?_
  exact s_iret (pc := 65) C hr hlk dX11_grams_65
set_option maxRecDepth 100000 in
theorem kX11_grams_66 (C : ox_C p s m args c g 2 cX11_grams RX11) (hr : meth.sig.returnType = (some .int)) (hlk : meth.locks = false) (hnm : meth.name = "grams") (hR : R.frames = dp ∧ R.locals = 60 * dp) (h1 : ox_Sem yX11_gramsInTanks cX11_gramsInTanks 3 (some .int) d1 f1) (e1 : d1 + 1 ≤ dp) (h2 : ox_Sem yX2_gramsInMoulds cX2_gramsInMoulds 3 (some .int) d2 f2) (e2 : d2 + 1 ≤ dp) (hrc : ∀ b, ox_S p l e R s m args below meth c g 2 c0 t0 (ox_QM g below args s c0 t0) b (rc b)) : ox_S p l e R s m args below meth c g 2 c0 t0 (ox_QM g below args s c0 t0) 66 (bX11_grams_66 f1 f2 rc) := by
  refine s_aload_n (pc := 66) C dX11_grams_66 rfl ?_
  refine s_geti (pc := 67) (j := 11) (q := (RX11, TX11, 13)) C rfl (by decide) rfl wF_X11_211 dX11_grams_67 ?_
  exact s_iret (pc := 70) C hr hlk dX11_grams_70
set_option maxRecDepth 100000 in
theorem kX11_grams_71 (C : ox_C p s m args c g 2 cX11_grams RX11) (hr : meth.sig.returnType = (some .int)) (hlk : meth.locks = false) (hnm : meth.name = "grams") (hR : R.frames = dp ∧ R.locals = 60 * dp) (h1 : ox_Sem yX11_gramsInTanks cX11_gramsInTanks 3 (some .int) d1 f1) (e1 : d1 + 1 ≤ dp) (h2 : ox_Sem yX2_gramsInMoulds cX2_gramsInMoulds 3 (some .int) d2 f2) (e2 : d2 + 1 ≤ dp) (hrc : ∀ b, ox_S p l e R s m args below meth c g 2 c0 t0 (ox_QM g below args s c0 t0) b (rc b)) : ox_S p l e R s m args below meth c g 2 c0 t0 (ox_QM g below args s c0 t0) 71 (bX11_grams_71 f1 f2 rc) := by
  refine s_aload_n (pc := 71) C dX11_grams_71 rfl ?_
  refine s_getr (pc := 72) (j := 6) (q := (RX11, TX11, 13)) C rfl (by decide) rfl wF_X11_49 dX11_grams_72 ?_
  refine s_geti (pc := 75) (j := 4) (q := (RX1, TX1, 7)) C rfl (by decide) rfl wF_X11_317 dX11_grams_75 ?_
  exact s_iret (pc := 78) C hr hlk dX11_grams_78
set_option maxRecDepth 100000 in
theorem kX11_grams_79 (C : ox_C p s m args c g 2 cX11_grams RX11) (hr : meth.sig.returnType = (some .int)) (hlk : meth.locks = false) (hnm : meth.name = "grams") (hR : R.frames = dp ∧ R.locals = 60 * dp) (h1 : ox_Sem yX11_gramsInTanks cX11_gramsInTanks 3 (some .int) d1 f1) (e1 : d1 + 1 ≤ dp) (h2 : ox_Sem yX2_gramsInMoulds cX2_gramsInMoulds 3 (some .int) d2 f2) (e2 : d2 + 1 ≤ dp) (hrc : ∀ b, ox_S p l e R s m args below meth c g 2 c0 t0 (ox_QM g below args s c0 t0) b (rc b)) : ox_S p l e R s m args below meth c g 2 c0 t0 (ox_QM g below args s c0 t0) 79 (bX11_grams_79 f1 f2 rc) := by
  refine s_ldc (pc := 79) C wK_X11_73 dX11_grams_79 ?_
  exact s_iret (pc := 81) C hr hlk dX11_grams_81
end SX11_grams
def bsX11_grams (f1 f2 : ox_F) (b : Nat) (rc : Nat → ox_K) : ox_K := if b = 0 then bX11_grams_0 f1 f2 rc else if b = 40 then bX11_grams_40 f1 f2 rc else if b = 45 then bX11_grams_45 f1 f2 rc else if b = 50 then bX11_grams_50 f1 f2 rc else if b = 58 then bX11_grams_58 f1 f2 rc else if b = 66 then bX11_grams_66 f1 f2 rc else if b = 71 then bX11_grams_71 f1 f2 rc else if b = 79 then bX11_grams_79 f1 f2 rc else ox_no
theorem mX11_grams {dp d1 d2 : Nat} {f1 f2 f : ox_F} (h1 : ox_Sem yX11_gramsInTanks cX11_gramsInTanks 3 (some .int) d1 f1) (e1 : d1 + 1 ≤ dp) (h2 : ox_Sem yX2_gramsInMoulds cX2_gramsInMoulds 3 (some .int) d2 f2) (e2 : d2 + 1 ≤ dp) (hf : ∀ as h r, f as h = some r → ox_cs as ≤ 2 ∧ ox_le h r.2 ∧ ∃ n, ox_run (bsX11_grams f1 f2) n 0 (lv_args 0 as) [] h = some r) : ox_Sem yX11_grams cX11_grams 2 (some .int) dp f := by
  refine ox_meth (bs := bsX11_grams f1 f2) (by decide) hf ?_
  intro p l e R s m args below meth c g c0 t0 C hr hlk hnm hR rc hrc b
  unfold bsX11_grams
  refine ox_br (kX11_grams_0 C hr hlk hnm hR h1 e1 h2 e2 hrc) ?_
  refine ox_br (kX11_grams_40 C hr hlk hnm hR h1 e1 h2 e2 hrc) ?_
  refine ox_br (kX11_grams_45 C hr hlk hnm hR h1 e1 h2 e2 hrc) ?_
  refine ox_br (kX11_grams_50 C hr hlk hnm hR h1 e1 h2 e2 hrc) ?_
  refine ox_br (kX11_grams_58 C hr hlk hnm hR h1 e1 h2 e2 hrc) ?_
  refine ox_br (kX11_grams_66 C hr hlk hnm hR h1 e1 h2 e2 hrc) ?_
  refine ox_br (kX11_grams_71 C hr hlk hnm hR h1 e1 h2 e2 hrc) ?_
  refine ox_br (kX11_grams_79 C hr hlk hnm hR h1 e1 h2 e2 hrc) ?_
  exact s_no
theorem dX11_bloom_0 : decode cX11_bloom 0 = .ok (.aload_n 0, 1) := by decide +kernel
theorem dX11_bloom_1 : decode cX11_bloom 1 = .ok (.iload_n 1, 1) := by decide +kernel
theorem dX11_bloom_2 : decode cX11_bloom 2 = .ok (.invokevirtual 278, 3) := by decide +kernel
theorem dX11_bloom_5 : decode cX11_bloom 5 = .ok (.ifCond .eq 31, 3) := by decide +kernel
theorem dX11_bloom_8 : decode cX11_bloom 8 = .ok (.iload_n 2, 1) := by decide +kernel
theorem dX11_bloom_9 : decode cX11_bloom 9 = .ok (.invokestatic 65, 3) := by decide +kernel
theorem dX11_bloom_12 : decode cX11_bloom 12 = .ok (.ifCond .eq 24, 3) := by decide +kernel
theorem dX11_bloom_15 : decode cX11_bloom 15 = .ok (.iload 4, 2) := by decide +kernel
theorem dX11_bloom_17 : decode cX11_bloom 17 = .ok (.iconst 1, 1) := by decide +kernel
theorem dX11_bloom_18 : decode cX11_bloom 18 = .ok (.bipush 20, 2) := by decide +kernel
theorem dX11_bloom_20 : decode cX11_bloom 20 = .ok (.invokestatic 69, 3) := by decide +kernel
theorem dX11_bloom_23 : decode cX11_bloom 23 = .ok (.ifCond .eq 13, 3) := by decide +kernel
theorem dX11_bloom_26 : decode cX11_bloom 26 = .ok (.iload 5, 2) := by decide +kernel
theorem dX11_bloom_28 : decode cX11_bloom 28 = .ok (.iconst 0, 1) := by decide +kernel
theorem dX11_bloom_29 : decode cX11_bloom 29 = .ok (.iconst 1, 1) := by decide +kernel
theorem dX11_bloom_30 : decode cX11_bloom 30 = .ok (.invokestatic 69, 3) := by decide +kernel
theorem dX11_bloom_33 : decode cX11_bloom 33 = .ok (.ifCond .ne 6, 3) := by decide +kernel
theorem dX11_bloom_36 : decode cX11_bloom 36 = .ok (.ldc 73, 2) := by decide +kernel
theorem dX11_bloom_38 : decode cX11_bloom 38 = .ok (.ireturn, 1) := by decide +kernel
theorem dX11_bloom_39 : decode cX11_bloom 39 = .ok (.aload_n 0, 1) := by decide +kernel
theorem dX11_bloom_40 : decode cX11_bloom 40 = .ok (.getfield 11, 3) := by decide +kernel
theorem dX11_bloom_43 : decode cX11_bloom 43 = .ok (.iload_n 2, 1) := by decide +kernel
theorem dX11_bloom_44 : decode cX11_bloom 44 = .ok (.aaload, 1) := by decide +kernel
theorem dX11_bloom_45 : decode cX11_bloom 45 = .ok (.astore 6, 2) := by decide +kernel
theorem dX11_bloom_47 : decode cX11_bloom 47 = .ok (.aload 6, 2) := by decide +kernel
theorem dX11_bloom_49 : decode cX11_bloom 49 = .ok (.iload_n 3, 1) := by decide +kernel
theorem dX11_bloom_50 : decode cX11_bloom 50 = .ok (.iconst 2, 1) := by decide +kernel
theorem dX11_bloom_51 : decode cX11_bloom 51 = .ok (.iload 4, 2) := by decide +kernel
theorem dX11_bloom_53 : decode cX11_bloom 53 = .ok (.imul, 1) := by decide +kernel
theorem dX11_bloom_54 : decode cX11_bloom 54 = .ok (.invokestatic 85, 3) := by decide +kernel
theorem dX11_bloom_57 : decode cX11_bloom 57 = .ok (.istore 7, 2) := by decide +kernel
theorem dX11_bloom_59 : decode cX11_bloom 59 = .ok (.iload 7, 2) := by decide +kernel
theorem dX11_bloom_61 : decode cX11_bloom 61 = .ok (.ifCond .eq 10, 3) := by decide +kernel
theorem dX11_bloom_64 : decode cX11_bloom 64 = .ok (.aload_n 0, 1) := by decide +kernel
theorem dX11_bloom_65 : decode cX11_bloom 65 = .ok (.iload 7, 2) := by decide +kernel
theorem dX11_bloom_67 : decode cX11_bloom 67 = .ok (.invokevirtual 74, 3) := by decide +kernel
theorem dX11_bloom_70 : decode cX11_bloom 70 = .ok (.ireturn, 1) := by decide +kernel
theorem dX11_bloom_71 : decode cX11_bloom 71 = .ok (.iconst 0, 1) := by decide +kernel
theorem dX11_bloom_72 : decode cX11_bloom 72 = .ok (.istore 8, 2) := by decide +kernel
theorem dX11_bloom_74 : decode cX11_bloom 74 = .ok (.iload_n 3, 1) := by decide +kernel
theorem dX11_bloom_75 : decode cX11_bloom 75 = .ok (.istore 9, 2) := by decide +kernel
theorem dX11_bloom_77 : decode cX11_bloom 77 = .ok (.iload 9, 2) := by decide +kernel
theorem dX11_bloom_79 : decode cX11_bloom 79 = .ok (.iload_n 3, 1) := by decide +kernel
theorem dX11_bloom_80 : decode cX11_bloom 80 = .ok (.iconst 2, 1) := by decide +kernel
theorem dX11_bloom_81 : decode cX11_bloom 81 = .ok (.iload 4, 2) := by decide +kernel
theorem dX11_bloom_83 : decode cX11_bloom 83 = .ok (.imul, 1) := by decide +kernel
theorem dX11_bloom_84 : decode cX11_bloom 84 = .ok (.iadd, 1) := by decide +kernel
theorem dX11_bloom_85 : decode cX11_bloom 85 = .ok (.if_icmp .ge 79, 3) := by decide +kernel
theorem dX11_bloom_88 : decode cX11_bloom 88 = .ok (.aload 6, 2) := by decide +kernel
theorem dX11_bloom_90 : decode cX11_bloom 90 = .ok (.getfield 89, 3) := by decide +kernel
theorem dX11_bloom_93 : decode cX11_bloom 93 = .ok (.iload 9, 2) := by decide +kernel
theorem dX11_bloom_95 : decode cX11_bloom 95 = .ok (.iaload, 1) := by decide +kernel
theorem dX11_bloom_96 : decode cX11_bloom 96 = .ok (.istore 10, 2) := by decide +kernel
theorem dX11_bloom_98 : decode cX11_bloom 98 = .ok (.aload 6, 2) := by decide +kernel
theorem dX11_bloom_100 : decode cX11_bloom 100 = .ok (.getfield 89, 3) := by decide +kernel
theorem dX11_bloom_103 : decode cX11_bloom 103 = .ok (.iload 9, 2) := by decide +kernel
theorem dX11_bloom_105 : decode cX11_bloom 105 = .ok (.iconst 1, 1) := by decide +kernel
theorem dX11_bloom_106 : decode cX11_bloom 106 = .ok (.iadd, 1) := by decide +kernel
theorem dX11_bloom_107 : decode cX11_bloom 107 = .ok (.iaload, 1) := by decide +kernel
theorem dX11_bloom_108 : decode cX11_bloom 108 = .ok (.istore 11, 2) := by decide +kernel
theorem dX11_bloom_110 : decode cX11_bloom 110 = .ok (.iload 10, 2) := by decide +kernel
theorem dX11_bloom_112 : decode cX11_bloom 112 = .ok (.iconst 0, 1) := by decide +kernel
theorem dX11_bloom_113 : decode cX11_bloom 113 = .ok (.bipush 99, 2) := by decide +kernel
theorem dX11_bloom_115 : decode cX11_bloom 115 = .ok (.invokestatic 69, 3) := by decide +kernel
theorem dX11_bloom_118 : decode cX11_bloom 118 = .ok (.ifCond .eq 14, 3) := by decide +kernel
theorem dX11_bloom_121 : decode cX11_bloom 121 = .ok (.iload 11, 2) := by decide +kernel
theorem dX11_bloom_123 : decode cX11_bloom 123 = .ok (.iconst 0, 1) := by decide +kernel
theorem dX11_bloom_124 : decode cX11_bloom 124 = .ok (.bipush 60, 2) := by decide +kernel
theorem dX11_bloom_126 : decode cX11_bloom 126 = .ok (.invokestatic 69, 3) := by decide +kernel
theorem dX11_bloom_129 : decode cX11_bloom 129 = .ok (.ifCond .ne 6, 3) := by decide +kernel
theorem dX11_bloom_132 : decode cX11_bloom 132 = .ok (.ldc 73, 2) := by decide +kernel
theorem dX11_bloom_134 : decode cX11_bloom 134 = .ok (.ireturn, 1) := by decide +kernel
theorem dX11_bloom_135 : decode cX11_bloom 135 = .ok (.iload 8, 2) := by decide +kernel
theorem dX11_bloom_137 : decode cX11_bloom 137 = .ok (.iload 10, 2) := by decide +kernel
theorem dX11_bloom_139 : decode cX11_bloom 139 = .ok (.bipush 100, 2) := by decide +kernel
theorem dX11_bloom_141 : decode cX11_bloom 141 = .ok (.bipush 10, 2) := by decide +kernel
theorem dX11_bloom_143 : decode cX11_bloom 143 = .ok (.iconst 0, 1) := by decide +kernel
theorem dX11_bloom_144 : decode cX11_bloom 144 = .ok (.iload 11, 2) := by decide +kernel
theorem dX11_bloom_146 : decode cX11_bloom 146 = .ok (.bipush 18, 2) := by decide +kernel
theorem dX11_bloom_148 : decode cX11_bloom 148 = .ok (.isub, 1) := by decide +kernel
theorem dX11_bloom_149 : decode cX11_bloom 149 = .ok (.invokestatic 275, 3) := by decide +kernel
theorem dX11_bloom_152 : decode cX11_bloom 152 = .ok (.imul, 1) := by decide +kernel
theorem dX11_bloom_153 : decode cX11_bloom 153 = .ok (.iadd, 1) := by decide +kernel
theorem dX11_bloom_154 : decode cX11_bloom 154 = .ok (.imul, 1) := by decide +kernel
theorem dX11_bloom_155 : decode cX11_bloom 155 = .ok (.iadd, 1) := by decide +kernel
theorem dX11_bloom_156 : decode cX11_bloom 156 = .ok (.istore 8, 2) := by decide +kernel
theorem dX11_bloom_158 : decode cX11_bloom 158 = .ok (.iinc 9 2, 3) := by decide +kernel
theorem dX11_bloom_161 : decode cX11_bloom 161 = .ok (.goto (-84), 3) := by decide +kernel
theorem dX11_bloom_164 : decode cX11_bloom 164 = .ok (.aload_n 0, 1) := by decide +kernel
theorem dX11_bloom_165 : decode cX11_bloom 165 = .ok (.getfield 49, 3) := by decide +kernel
theorem dX11_bloom_168 : decode cX11_bloom 168 = .ok (.getfield 281, 3) := by decide +kernel
theorem dX11_bloom_171 : decode cX11_bloom 171 = .ok (.iload_n 1, 1) := by decide +kernel
theorem dX11_bloom_172 : decode cX11_bloom 172 = .ok (.aaload, 1) := by decide +kernel
theorem dX11_bloom_173 : decode cX11_bloom 173 = .ok (.getfield 291, 3) := by decide +kernel
theorem dX11_bloom_176 : decode cX11_bloom 176 = .ok (.ifCond .ne 9, 3) := by decide +kernel
theorem dX11_bloom_179 : decode cX11_bloom 179 = .ok (.iload 8, 2) := by decide +kernel
theorem dX11_bloom_181 : decode cX11_bloom 181 = .ok (.iconst 2, 1) := by decide +kernel
theorem dX11_bloom_182 : decode cX11_bloom 182 = .ok (.imul, 1) := by decide +kernel
theorem dX11_bloom_183 : decode cX11_bloom 183 = .ok (.istore 8, 2) := by decide +kernel
theorem dX11_bloom_185 : decode cX11_bloom 185 = .ok (.iload 8, 2) := by decide +kernel
theorem dX11_bloom_187 : decode cX11_bloom 187 = .ok (.sipush 6000, 3) := by decide +kernel
theorem dX11_bloom_190 : decode cX11_bloom 190 = .ok (.if_icmp .gt 7, 3) := by decide +kernel
theorem dX11_bloom_193 : decode cX11_bloom 193 = .ok (.iconst 1, 1) := by decide +kernel
theorem dX11_bloom_194 : decode cX11_bloom 194 = .ok (.goto 4, 3) := by decide +kernel
theorem dX11_bloom_197 : decode cX11_bloom 197 = .ok (.iconst 0, 1) := by decide +kernel
theorem dX11_bloom_198 : decode cX11_bloom 198 = .ok (.istore 9, 2) := by decide +kernel
theorem dX11_bloom_200 : decode cX11_bloom 200 = .ok (.aload_n 0, 1) := by decide +kernel
theorem dX11_bloom_201 : decode cX11_bloom 201 = .ok (.iload 5, 2) := by decide +kernel
theorem dX11_bloom_203 : decode cX11_bloom 203 = .ok (.ifCond .ne 8, 3) := by decide +kernel
theorem dX11_bloom_206 : decode cX11_bloom 206 = .ok (.iload 8, 2) := by decide +kernel
theorem dX11_bloom_208 : decode cX11_bloom 208 = .ok (.goto 5, 3) := by decide +kernel
theorem dX11_bloom_211 : decode cX11_bloom 211 = .ok (.iload 9, 2) := by decide +kernel
theorem dX11_bloom_213 : decode cX11_bloom 213 = .ok (.invokevirtual 82, 3) := by decide +kernel
theorem dX11_bloom_216 : decode cX11_bloom 216 = .ok (.ireturn, 1) := by decide +kernel
def bX11_bloom_0 (f1 f2 f3 f4 f5 f6 : ox_F) (rc : Nat → ox_K) : ox_K := o_al 0 (o_il 1 (o_cv f1 11 1 (o_ifeq (rc 36) (o_il 2 (o_ct f2 1 (o_ifeq (rc 36) (o_il 4 (o_ic (1) (o_ic (20) (o_ct f3 3 (o_ifeq (rc 36) (o_il 5 (o_ic (0) (o_ic (1) (o_ct f3 3 (o_ifne (rc 39) (rc 36)))))))))))))))))
def bX11_bloom_36 (f1 f2 f3 f4 f5 f6 : ox_F) (rc : Nat → ox_K) : ox_K := o_ic (-1000001) (o_iret)
def bX11_bloom_39 (f1 f2 f3 f4 f5 f6 : ox_F) (rc : Nat → ox_K) : ox_K := o_al 0 (o_getr 11 0 (o_il 2 (o_aa 8 (o_as 6 (o_al 6 (o_il 3 (o_ic (2) (o_il 4 (o_imul (o_ct f4 3 (o_is 7 (o_il 7 (o_ifeq (rc 71) (o_al 0 (o_il 7 (o_cv f5 11 1 (o_iret)))))))))))))))))
def bX11_bloom_71 (f1 f2 f3 f4 f5 f6 : ox_F) (rc : Nat → ox_K) : ox_K := o_ic (0) (o_is 8 (o_il 3 (o_is 9 (rc 77))))
def bX11_bloom_77 (f1 f2 f3 f4 f5 f6 : ox_F) (rc : Nat → ox_K) : ox_K := o_keep [0, 1, 3, 4, 5, 6, 8, 9] (o_il 9 (o_il 3 (o_ic (2) (o_il 4 (o_imul (o_iadd (o_icge (rc 164) (o_al 6 (o_getr 8 0 (o_il 9 (o_ia (o_is 10 (o_al 6 (o_getr 8 0 (o_il 9 (o_ic (1) (o_iadd (o_ia (o_is 11 (o_il 10 (o_ic (0) (o_ic (99) (o_ct f3 3 (o_ifeq (rc 132) (o_il 11 (o_ic (0) (o_ic (60) (o_ct f3 3 (o_ifne (rc 135) (rc 132))))))))))))))))))))))))))))))
def bX11_bloom_132 (f1 f2 f3 f4 f5 f6 : ox_F) (rc : Nat → ox_K) : ox_K := o_ic (-1000001) (o_iret)
def bX11_bloom_135 (f1 f2 f3 f4 f5 f6 : ox_F) (rc : Nat → ox_K) : ox_K := o_il 8 (o_il 10 (o_ic (100) (o_ic (10) (o_ic (0) (o_il 11 (o_ic (18) (o_isub (o_mmax (o_imul (o_iadd (o_imul (o_iadd (o_is 8 (o_inc 9 (2) (rc 77)))))))))))))))
def bX11_bloom_164 (f1 f2 f3 f4 f5 f6 : ox_F) (rc : Nat → ox_K) : ox_K := o_al 0 (o_getr 11 6 (o_getr 1 0 (o_il 1 (o_aa 0 (o_geti 0 4 (o_ifne (rc 185) (o_il 8 (o_ic (2) (o_imul (o_is 8 (rc 185)))))))))))
def bX11_bloom_185 (f1 f2 f3 f4 f5 f6 : ox_F) (rc : Nat → ox_K) : ox_K := o_il 8 (o_ic (6000) (o_icgt (rc 197) (o_ic (1) (rc 198))))
def bX11_bloom_197 (f1 f2 f3 f4 f5 f6 : ox_F) (rc : Nat → ox_K) : ox_K := o_ic (0) (rc 198)
def bX11_bloom_198 (f1 f2 f3 f4 f5 f6 : ox_F) (rc : Nat → ox_K) : ox_K := o_is 9 (o_al 0 (o_il 5 (o_ifne (rc 211) (o_il 8 (rc 213)))))
def bX11_bloom_211 (f1 f2 f3 f4 f5 f6 : ox_F) (rc : Nat → ox_K) : ox_K := o_il 9 (rc 213)
def bX11_bloom_213 (f1 f2 f3 f4 f5 f6 : ox_F) (rc : Nat → ox_K) : ox_K := o_cv f6 11 1 (o_iret)
section SX11_bloom
variable {p : Program} {l : Launch} {e : Env} {R : Room} {s : State} {m : MethodId} {args : Array Value} {below : List Frame} {meth : Method} {c : Code} {g : ox_G} {c0 t0 dp d1 d2 d3 d4 d5 d6 : Nat} {rc : Nat → ox_K} {f1 f2 f3 f4 f5 f6 : ox_F}
set_option maxRecDepth 100000 in
theorem kX11_bloom_0 (C : ox_C p s m args c g 12 cX11_bloom RX11) (hr : meth.sig.returnType = (some .int)) (hlk : meth.locks = false) (hnm : meth.name = "bloom") (hR : R.frames = dp ∧ R.locals = 60 * dp) (e0 : 1 ≤ dp) (h1 : ox_Sem yX11_isKept cX11_isKept 2 (some .boolean) d1 f1) (e1 : d1 + 1 ≤ dp) (h2 : ox_Sem yX11_isSheet cX11_isSheet 1 (some .boolean) d2 f2) (e2 : d2 + 1 ≤ dp) (h3 : ox_Sem yX11_within cX11_within 3 (some .boolean) d3 f3) (e3 : d3 + 1 ≤ dp) (h4 : ox_Sem yX11_amissIn cX11_amissIn 3 (some .int) d4 f4) (e4 : d4 + 1 ≤ dp) (h5 : ox_Sem yX11_found cX11_found 2 (some .int) d5 f5) (e5 : d5 + 1 ≤ dp) (h6 : ox_Sem yX11_plain cX11_plain 2 (some .int) d6 f6) (e6 : d6 + 1 ≤ dp) (hrc : ∀ b, ox_S p l e R s m args below meth c g 12 c0 t0 (ox_QM g below args s c0 t0) b (rc b)) : ox_S p l e R s m args below meth c g 12 c0 t0 (ox_QM g below args s c0 t0) 0 (bX11_bloom_0 f1 f2 f3 f4 f5 f6 rc) := by
  refine s_aload_n (pc := 0) C dX11_bloom_0 rfl ?_
  refine s_iload_n (pc := 1) C dX11_bloom_1 rfl ?_
  refine s_cv (pc := 2) (q := (RX11, TX11, 13)) C h1 rfl wM_X11_278 wI_X11_isKept wS_X11_isKept wN_X11 wC_X11_isKept (by decide +kernel) (ox_lv hR e1 (by decide)) dX11_bloom_2 ?_
  refine s_ifeq (pc := 5) 36 C dX11_bloom_5 (by decide) (hrc 36) ?_
  refine s_iload_n (pc := 8) C dX11_bloom_8 rfl ?_
  refine s_ct (pc := 9) C h2 wM_X11_65 wT_X11_isSheet wN_X11 wC_X11_isSheet (by decide +kernel) (ox_lv hR e2 (by decide)) dX11_bloom_9 ?_
  refine s_ifeq (pc := 12) 36 C dX11_bloom_12 (by decide) (hrc 36) ?_
  refine s_iload (pc := 15) C dX11_bloom_15 ?_
  refine s_iconst (pc := 17) C dX11_bloom_17 (by decide) ?_
  refine s_bipush (pc := 18) C dX11_bloom_18 (by decide) ?_
  refine s_ct (pc := 20) C h3 wM_X11_69 wT_X11_within wN_X11 wC_X11_within (by decide +kernel) (ox_lv hR e3 (by decide)) dX11_bloom_20 ?_
  refine s_ifeq (pc := 23) 36 C dX11_bloom_23 (by decide) (hrc 36) ?_
  refine s_iload (pc := 26) C dX11_bloom_26 ?_
  refine s_iconst (pc := 28) C dX11_bloom_28 (by decide) ?_
  refine s_iconst (pc := 29) C dX11_bloom_29 (by decide) ?_
  refine s_ct (pc := 30) C h3 wM_X11_69 wT_X11_within wN_X11 wC_X11_within (by decide +kernel) (ox_lv hR e3 (by decide)) dX11_bloom_30 ?_
  refine s_ifne (pc := 33) 39 C dX11_bloom_33 (by decide) (hrc 39) ?_
  exact hrc 36
set_option maxRecDepth 100000 in
theorem kX11_bloom_36 (C : ox_C p s m args c g 12 cX11_bloom RX11) (hr : meth.sig.returnType = (some .int)) (hlk : meth.locks = false) (hnm : meth.name = "bloom") (hR : R.frames = dp ∧ R.locals = 60 * dp) (e0 : 1 ≤ dp) (h1 : ox_Sem yX11_isKept cX11_isKept 2 (some .boolean) d1 f1) (e1 : d1 + 1 ≤ dp) (h2 : ox_Sem yX11_isSheet cX11_isSheet 1 (some .boolean) d2 f2) (e2 : d2 + 1 ≤ dp) (h3 : ox_Sem yX11_within cX11_within 3 (some .boolean) d3 f3) (e3 : d3 + 1 ≤ dp) (h4 : ox_Sem yX11_amissIn cX11_amissIn 3 (some .int) d4 f4) (e4 : d4 + 1 ≤ dp) (h5 : ox_Sem yX11_found cX11_found 2 (some .int) d5 f5) (e5 : d5 + 1 ≤ dp) (h6 : ox_Sem yX11_plain cX11_plain 2 (some .int) d6 f6) (e6 : d6 + 1 ≤ dp) (hrc : ∀ b, ox_S p l e R s m args below meth c g 12 c0 t0 (ox_QM g below args s c0 t0) b (rc b)) : ox_S p l e R s m args below meth c g 12 c0 t0 (ox_QM g below args s c0 t0) 36 (bX11_bloom_36 f1 f2 f3 f4 f5 f6 rc) := by
  refine s_ldc (pc := 36) C wK_X11_73 dX11_bloom_36 ?_
  exact s_iret (pc := 38) C hr hlk dX11_bloom_38
set_option maxRecDepth 100000 in
theorem kX11_bloom_39 (C : ox_C p s m args c g 12 cX11_bloom RX11) (hr : meth.sig.returnType = (some .int)) (hlk : meth.locks = false) (hnm : meth.name = "bloom") (hR : R.frames = dp ∧ R.locals = 60 * dp) (e0 : 1 ≤ dp) (h1 : ox_Sem yX11_isKept cX11_isKept 2 (some .boolean) d1 f1) (e1 : d1 + 1 ≤ dp) (h2 : ox_Sem yX11_isSheet cX11_isSheet 1 (some .boolean) d2 f2) (e2 : d2 + 1 ≤ dp) (h3 : ox_Sem yX11_within cX11_within 3 (some .boolean) d3 f3) (e3 : d3 + 1 ≤ dp) (h4 : ox_Sem yX11_amissIn cX11_amissIn 3 (some .int) d4 f4) (e4 : d4 + 1 ≤ dp) (h5 : ox_Sem yX11_found cX11_found 2 (some .int) d5 f5) (e5 : d5 + 1 ≤ dp) (h6 : ox_Sem yX11_plain cX11_plain 2 (some .int) d6 f6) (e6 : d6 + 1 ≤ dp) (hrc : ∀ b, ox_S p l e R s m args below meth c g 12 c0 t0 (ox_QM g below args s c0 t0) b (rc b)) : ox_S p l e R s m args below meth c g 12 c0 t0 (ox_QM g below args s c0 t0) 39 (bX11_bloom_39 f1 f2 f3 f4 f5 f6 rc) := by
  refine s_aload_n (pc := 39) C dX11_bloom_39 rfl ?_
  refine s_getr (pc := 40) (j := 0) (q := (RX11, TX11, 13)) C rfl (by decide) rfl wF_X11_11 dX11_bloom_40 ?_
  refine s_iload_n (pc := 43) C dX11_bloom_43 rfl ?_
  refine s_aa (pc := 44) (q := (RX8, TX8, 4)) 6 C rfl dX11_bloom_44 ?_
  refine s_astore (pc := 45) C dX11_bloom_45 (by decide) ?_
  refine s_aload (pc := 47) C dX11_bloom_47 ?_
  refine s_iload_n (pc := 49) C dX11_bloom_49 rfl ?_
  refine s_iconst (pc := 50) C dX11_bloom_50 (by decide) ?_
  refine s_iload (pc := 51) C dX11_bloom_51 ?_
  refine s_imul (pc := 53) C dX11_bloom_53 ?_
  refine s_ct (pc := 54) C h4 wM_X11_85 wT_X11_amissIn wN_X11 wC_X11_amissIn (by decide +kernel) (ox_lv hR e4 (by decide)) dX11_bloom_54 ?_
  refine s_istore (pc := 57) C dX11_bloom_57 (by decide) ?_
  refine s_iload (pc := 59) C dX11_bloom_59 ?_
  refine s_ifeq (pc := 61) 71 C dX11_bloom_61 (by decide) (hrc 71) ?_
  refine s_aload_n (pc := 64) C dX11_bloom_64 rfl ?_
  refine s_iload (pc := 65) C dX11_bloom_65 ?_
  refine s_cv (pc := 67) (q := (RX11, TX11, 13)) C h5 rfl wM_X11_74 wI_X11_found wS_X11_found wN_X11 wC_X11_found (by decide +kernel) (ox_lv hR e5 (by decide)) dX11_bloom_67 ?_
  exact s_iret (pc := 70) C hr hlk dX11_bloom_70
set_option maxRecDepth 100000 in
theorem kX11_bloom_71 (C : ox_C p s m args c g 12 cX11_bloom RX11) (hr : meth.sig.returnType = (some .int)) (hlk : meth.locks = false) (hnm : meth.name = "bloom") (hR : R.frames = dp ∧ R.locals = 60 * dp) (e0 : 1 ≤ dp) (h1 : ox_Sem yX11_isKept cX11_isKept 2 (some .boolean) d1 f1) (e1 : d1 + 1 ≤ dp) (h2 : ox_Sem yX11_isSheet cX11_isSheet 1 (some .boolean) d2 f2) (e2 : d2 + 1 ≤ dp) (h3 : ox_Sem yX11_within cX11_within 3 (some .boolean) d3 f3) (e3 : d3 + 1 ≤ dp) (h4 : ox_Sem yX11_amissIn cX11_amissIn 3 (some .int) d4 f4) (e4 : d4 + 1 ≤ dp) (h5 : ox_Sem yX11_found cX11_found 2 (some .int) d5 f5) (e5 : d5 + 1 ≤ dp) (h6 : ox_Sem yX11_plain cX11_plain 2 (some .int) d6 f6) (e6 : d6 + 1 ≤ dp) (hrc : ∀ b, ox_S p l e R s m args below meth c g 12 c0 t0 (ox_QM g below args s c0 t0) b (rc b)) : ox_S p l e R s m args below meth c g 12 c0 t0 (ox_QM g below args s c0 t0) 71 (bX11_bloom_71 f1 f2 f3 f4 f5 f6 rc) := by
  refine s_iconst (pc := 71) C dX11_bloom_71 (by decide) ?_
  refine s_istore (pc := 72) C dX11_bloom_72 (by decide) ?_
  refine s_iload_n (pc := 74) C dX11_bloom_74 rfl ?_
  refine s_istore (pc := 75) C dX11_bloom_75 (by decide) ?_
  exact hrc 77
set_option maxRecDepth 100000 in
theorem kX11_bloom_77 (C : ox_C p s m args c g 12 cX11_bloom RX11) (hr : meth.sig.returnType = (some .int)) (hlk : meth.locks = false) (hnm : meth.name = "bloom") (hR : R.frames = dp ∧ R.locals = 60 * dp) (e0 : 1 ≤ dp) (h1 : ox_Sem yX11_isKept cX11_isKept 2 (some .boolean) d1 f1) (e1 : d1 + 1 ≤ dp) (h2 : ox_Sem yX11_isSheet cX11_isSheet 1 (some .boolean) d2 f2) (e2 : d2 + 1 ≤ dp) (h3 : ox_Sem yX11_within cX11_within 3 (some .boolean) d3 f3) (e3 : d3 + 1 ≤ dp) (h4 : ox_Sem yX11_amissIn cX11_amissIn 3 (some .int) d4 f4) (e4 : d4 + 1 ≤ dp) (h5 : ox_Sem yX11_found cX11_found 2 (some .int) d5 f5) (e5 : d5 + 1 ≤ dp) (h6 : ox_Sem yX11_plain cX11_plain 2 (some .int) d6 f6) (e6 : d6 + 1 ≤ dp) (hrc : ∀ b, ox_S p l e R s m args below meth c g 12 c0 t0 (ox_QM g below args s c0 t0) b (rc b)) : ox_S p l e R s m args below meth c g 12 c0 t0 (ox_QM g below args s c0 t0) 77 (bX11_bloom_77 f1 f2 f3 f4 f5 f6 rc) := by
  refine s_keep ?_
  refine s_iload (pc := 77) C dX11_bloom_77 ?_
  refine s_iload_n (pc := 79) C dX11_bloom_79 rfl ?_
  refine s_iconst (pc := 80) C dX11_bloom_80 (by decide) ?_
  refine s_iload (pc := 81) C dX11_bloom_81 ?_
  refine s_imul (pc := 83) C dX11_bloom_83 ?_
  refine s_iadd (pc := 84) C dX11_bloom_84 ?_
  refine s_icmpge (pc := 85) 164 C dX11_bloom_85 (by decide) (hrc 164) ?_
  refine s_aload (pc := 88) C dX11_bloom_88 ?_
  refine s_getr (pc := 90) (j := 0) (q := (RX8, TX8, 4)) C rfl (by decide) rfl wF_X11_89 dX11_bloom_90 ?_
  refine s_iload (pc := 93) C dX11_bloom_93 ?_
  refine s_ia (pc := 95) C dX11_bloom_95 ?_
  refine s_istore (pc := 96) C dX11_bloom_96 (by decide) ?_
  refine s_aload (pc := 98) C dX11_bloom_98 ?_
  refine s_getr (pc := 100) (j := 0) (q := (RX8, TX8, 4)) C rfl (by decide) rfl wF_X11_89 dX11_bloom_100 ?_
  refine s_iload (pc := 103) C dX11_bloom_103 ?_
  refine s_iconst (pc := 105) C dX11_bloom_105 (by decide) ?_
  refine s_iadd (pc := 106) C dX11_bloom_106 ?_
  refine s_ia (pc := 107) C dX11_bloom_107 ?_
  refine s_istore (pc := 108) C dX11_bloom_108 (by decide) ?_
  refine s_iload (pc := 110) C dX11_bloom_110 ?_
  refine s_iconst (pc := 112) C dX11_bloom_112 (by decide) ?_
  refine s_bipush (pc := 113) C dX11_bloom_113 (by decide) ?_
  refine s_ct (pc := 115) C h3 wM_X11_69 wT_X11_within wN_X11 wC_X11_within (by decide +kernel) (ox_lv hR e3 (by decide)) dX11_bloom_115 ?_
  refine s_ifeq (pc := 118) 132 C dX11_bloom_118 (by decide) (hrc 132) ?_
  refine s_iload (pc := 121) C dX11_bloom_121 ?_
  refine s_iconst (pc := 123) C dX11_bloom_123 (by decide) ?_
  refine s_bipush (pc := 124) C dX11_bloom_124 (by decide) ?_
  refine s_ct (pc := 126) C h3 wM_X11_69 wT_X11_within wN_X11 wC_X11_within (by decide +kernel) (ox_lv hR e3 (by decide)) dX11_bloom_126 ?_
  refine s_ifne (pc := 129) 135 C dX11_bloom_129 (by decide) (hrc 135) ?_
  exact hrc 132
set_option maxRecDepth 100000 in
theorem kX11_bloom_132 (C : ox_C p s m args c g 12 cX11_bloom RX11) (hr : meth.sig.returnType = (some .int)) (hlk : meth.locks = false) (hnm : meth.name = "bloom") (hR : R.frames = dp ∧ R.locals = 60 * dp) (e0 : 1 ≤ dp) (h1 : ox_Sem yX11_isKept cX11_isKept 2 (some .boolean) d1 f1) (e1 : d1 + 1 ≤ dp) (h2 : ox_Sem yX11_isSheet cX11_isSheet 1 (some .boolean) d2 f2) (e2 : d2 + 1 ≤ dp) (h3 : ox_Sem yX11_within cX11_within 3 (some .boolean) d3 f3) (e3 : d3 + 1 ≤ dp) (h4 : ox_Sem yX11_amissIn cX11_amissIn 3 (some .int) d4 f4) (e4 : d4 + 1 ≤ dp) (h5 : ox_Sem yX11_found cX11_found 2 (some .int) d5 f5) (e5 : d5 + 1 ≤ dp) (h6 : ox_Sem yX11_plain cX11_plain 2 (some .int) d6 f6) (e6 : d6 + 1 ≤ dp) (hrc : ∀ b, ox_S p l e R s m args below meth c g 12 c0 t0 (ox_QM g below args s c0 t0) b (rc b)) : ox_S p l e R s m args below meth c g 12 c0 t0 (ox_QM g below args s c0 t0) 132 (bX11_bloom_132 f1 f2 f3 f4 f5 f6 rc) := by
  refine s_ldc (pc := 132) C wK_X11_73 dX11_bloom_132 ?_
  exact s_iret (pc := 134) C hr hlk dX11_bloom_134
set_option maxRecDepth 100000 in
theorem kX11_bloom_135 (C : ox_C p s m args c g 12 cX11_bloom RX11) (hr : meth.sig.returnType = (some .int)) (hlk : meth.locks = false) (hnm : meth.name = "bloom") (hR : R.frames = dp ∧ R.locals = 60 * dp) (e0 : 1 ≤ dp) (h1 : ox_Sem yX11_isKept cX11_isKept 2 (some .boolean) d1 f1) (e1 : d1 + 1 ≤ dp) (h2 : ox_Sem yX11_isSheet cX11_isSheet 1 (some .boolean) d2 f2) (e2 : d2 + 1 ≤ dp) (h3 : ox_Sem yX11_within cX11_within 3 (some .boolean) d3 f3) (e3 : d3 + 1 ≤ dp) (h4 : ox_Sem yX11_amissIn cX11_amissIn 3 (some .int) d4 f4) (e4 : d4 + 1 ≤ dp) (h5 : ox_Sem yX11_found cX11_found 2 (some .int) d5 f5) (e5 : d5 + 1 ≤ dp) (h6 : ox_Sem yX11_plain cX11_plain 2 (some .int) d6 f6) (e6 : d6 + 1 ≤ dp) (hrc : ∀ b, ox_S p l e R s m args below meth c g 12 c0 t0 (ox_QM g below args s c0 t0) b (rc b)) : ox_S p l e R s m args below meth c g 12 c0 t0 (ox_QM g below args s c0 t0) 135 (bX11_bloom_135 f1 f2 f3 f4 f5 f6 rc) := by
  refine s_iload (pc := 135) C dX11_bloom_135 ?_
  refine s_iload (pc := 137) C dX11_bloom_137 ?_
  refine s_bipush (pc := 139) C dX11_bloom_139 (by decide) ?_
  refine s_bipush (pc := 141) C dX11_bloom_141 (by decide) ?_
  refine s_iconst (pc := 143) C dX11_bloom_143 (by decide) ?_
  refine s_iload (pc := 144) C dX11_bloom_144 ?_
  refine s_bipush (pc := 146) C dX11_bloom_146 (by decide) ?_
  refine s_isub (pc := 148) C dX11_bloom_148 ?_
  refine s_mmax (pc := 149) C wM_X11_275 wT_mmax wN_J9 wC_mmax (ox_lv3 hR e0) dX11_bloom_149 ?_
  refine s_imul (pc := 152) C dX11_bloom_152 ?_
  refine s_iadd (pc := 153) C dX11_bloom_153 ?_
  refine s_imul (pc := 154) C dX11_bloom_154 ?_
  refine s_iadd (pc := 155) C dX11_bloom_155 ?_
  refine s_istore (pc := 156) C dX11_bloom_156 (by decide) ?_
  refine s_iinc (pc := 158) C dX11_bloom_158 (by decide) (by decide) ?_
  exact s_goto (pc := 161) 77 C dX11_bloom_161 (by decide) (hrc 77)
set_option maxRecDepth 100000 in
theorem kX11_bloom_164 (C : ox_C p s m args c g 12 cX11_bloom RX11) (hr : meth.sig.returnType = (some .int)) (hlk : meth.locks = false) (hnm : meth.name = "bloom") (hR : R.frames = dp ∧ R.locals = 60 * dp) (e0 : 1 ≤ dp) (h1 : ox_Sem yX11_isKept cX11_isKept 2 (some .boolean) d1 f1) (e1 : d1 + 1 ≤ dp) (h2 : ox_Sem yX11_isSheet cX11_isSheet 1 (some .boolean) d2 f2) (e2 : d2 + 1 ≤ dp) (h3 : ox_Sem yX11_within cX11_within 3 (some .boolean) d3 f3) (e3 : d3 + 1 ≤ dp) (h4 : ox_Sem yX11_amissIn cX11_amissIn 3 (some .int) d4 f4) (e4 : d4 + 1 ≤ dp) (h5 : ox_Sem yX11_found cX11_found 2 (some .int) d5 f5) (e5 : d5 + 1 ≤ dp) (h6 : ox_Sem yX11_plain cX11_plain 2 (some .int) d6 f6) (e6 : d6 + 1 ≤ dp) (hrc : ∀ b, ox_S p l e R s m args below meth c g 12 c0 t0 (ox_QM g below args s c0 t0) b (rc b)) : ox_S p l e R s m args below meth c g 12 c0 t0 (ox_QM g below args s c0 t0) 164 (bX11_bloom_164 f1 f2 f3 f4 f5 f6 rc) := by
  refine s_aload_n (pc := 164) C dX11_bloom_164 rfl ?_
  refine s_getr (pc := 165) (j := 6) (q := (RX11, TX11, 13)) C rfl (by decide) rfl wF_X11_49 dX11_bloom_165 ?_
  refine s_getr (pc := 168) (j := 0) (q := (RX1, TX1, 7)) C rfl (by decide) rfl wF_X11_281 dX11_bloom_168 ?_
  refine s_iload_n (pc := 171) C dX11_bloom_171 rfl ?_
  refine s_aa (pc := 172) (q := (RX0, TX0, 7)) 3 C rfl dX11_bloom_172 ?_
  refine s_geti (pc := 173) (j := 4) (q := (RX0, TX0, 7)) C rfl (by decide) rfl wF_X11_291 dX11_bloom_173 ?_
  refine s_ifne (pc := 176) 185 C dX11_bloom_176 (by decide) (hrc 185) ?_
  refine s_iload (pc := 179) C dX11_bloom_179 ?_
  refine s_iconst (pc := 181) C dX11_bloom_181 (by decide) ?_
  refine s_imul (pc := 182) C dX11_bloom_182 ?_
  refine s_istore (pc := 183) C dX11_bloom_183 (by decide) ?_
  exact hrc 185
set_option maxRecDepth 100000 in
theorem kX11_bloom_185 (C : ox_C p s m args c g 12 cX11_bloom RX11) (hr : meth.sig.returnType = (some .int)) (hlk : meth.locks = false) (hnm : meth.name = "bloom") (hR : R.frames = dp ∧ R.locals = 60 * dp) (e0 : 1 ≤ dp) (h1 : ox_Sem yX11_isKept cX11_isKept 2 (some .boolean) d1 f1) (e1 : d1 + 1 ≤ dp) (h2 : ox_Sem yX11_isSheet cX11_isSheet 1 (some .boolean) d2 f2) (e2 : d2 + 1 ≤ dp) (h3 : ox_Sem yX11_within cX11_within 3 (some .boolean) d3 f3) (e3 : d3 + 1 ≤ dp) (h4 : ox_Sem yX11_amissIn cX11_amissIn 3 (some .int) d4 f4) (e4 : d4 + 1 ≤ dp) (h5 : ox_Sem yX11_found cX11_found 2 (some .int) d5 f5) (e5 : d5 + 1 ≤ dp) (h6 : ox_Sem yX11_plain cX11_plain 2 (some .int) d6 f6) (e6 : d6 + 1 ≤ dp) (hrc : ∀ b, ox_S p l e R s m args below meth c g 12 c0 t0 (ox_QM g below args s c0 t0) b (rc b)) : ox_S p l e R s m args below meth c g 12 c0 t0 (ox_QM g below args s c0 t0) 185 (bX11_bloom_185 f1 f2 f3 f4 f5 f6 rc) := by
  refine s_iload (pc := 185) C dX11_bloom_185 ?_
  refine s_sipush (pc := 187) C dX11_bloom_187 (by decide) ?_
  refine s_icmpgt (pc := 190) 197 C dX11_bloom_190 (by decide) (hrc 197) ?_
  refine s_iconst (pc := 193) C dX11_bloom_193 (by decide) ?_
  exact s_goto (pc := 194) 198 C dX11_bloom_194 (by decide) (hrc 198)
set_option maxRecDepth 100000 in
theorem kX11_bloom_197 (C : ox_C p s m args c g 12 cX11_bloom RX11) (hr : meth.sig.returnType = (some .int)) (hlk : meth.locks = false) (hnm : meth.name = "bloom") (hR : R.frames = dp ∧ R.locals = 60 * dp) (e0 : 1 ≤ dp) (h1 : ox_Sem yX11_isKept cX11_isKept 2 (some .boolean) d1 f1) (e1 : d1 + 1 ≤ dp) (h2 : ox_Sem yX11_isSheet cX11_isSheet 1 (some .boolean) d2 f2) (e2 : d2 + 1 ≤ dp) (h3 : ox_Sem yX11_within cX11_within 3 (some .boolean) d3 f3) (e3 : d3 + 1 ≤ dp) (h4 : ox_Sem yX11_amissIn cX11_amissIn 3 (some .int) d4 f4) (e4 : d4 + 1 ≤ dp) (h5 : ox_Sem yX11_found cX11_found 2 (some .int) d5 f5) (e5 : d5 + 1 ≤ dp) (h6 : ox_Sem yX11_plain cX11_plain 2 (some .int) d6 f6) (e6 : d6 + 1 ≤ dp) (hrc : ∀ b, ox_S p l e R s m args below meth c g 12 c0 t0 (ox_QM g below args s c0 t0) b (rc b)) : ox_S p l e R s m args below meth c g 12 c0 t0 (ox_QM g below args s c0 t0) 197 (bX11_bloom_197 f1 f2 f3 f4 f5 f6 rc) := by
  refine s_iconst (pc := 197) C dX11_bloom_197 (by decide) ?_
  exact hrc 198
set_option maxRecDepth 100000 in
theorem kX11_bloom_198 (C : ox_C p s m args c g 12 cX11_bloom RX11) (hr : meth.sig.returnType = (some .int)) (hlk : meth.locks = false) (hnm : meth.name = "bloom") (hR : R.frames = dp ∧ R.locals = 60 * dp) (e0 : 1 ≤ dp) (h1 : ox_Sem yX11_isKept cX11_isKept 2 (some .boolean) d1 f1) (e1 : d1 + 1 ≤ dp) (h2 : ox_Sem yX11_isSheet cX11_isSheet 1 (some .boolean) d2 f2) (e2 : d2 + 1 ≤ dp) (h3 : ox_Sem yX11_within cX11_within 3 (some .boolean) d3 f3) (e3 : d3 + 1 ≤ dp) (h4 : ox_Sem yX11_amissIn cX11_amissIn 3 (some .int) d4 f4) (e4 : d4 + 1 ≤ dp) (h5 : ox_Sem yX11_found cX11_found 2 (some .int) d5 f5) (e5 : d5 + 1 ≤ dp) (h6 : ox_Sem yX11_plain cX11_plain 2 (some .int) d6 f6) (e6 : d6 + 1 ≤ dp) (hrc : ∀ b, ox_S p l e R s m args below meth c g 12 c0 t0 (ox_QM g below args s c0 t0) b (rc b)) : ox_S p l e R s m args below meth c g 12 c0 t0 (ox_QM g below args s c0 t0) 198 (bX11_bloom_198 f1 f2 f3 f4 f5 f6 rc) := by
  refine s_istore (pc := 198) C dX11_bloom_198 (by decide) ?_
  refine s_aload_n (pc := 200) C dX11_bloom_200 rfl ?_
  refine s_iload (pc := 201) C dX11_bloom_201 ?_
  refine s_ifne (pc := 203) 211 C dX11_bloom_203 (by decide) (hrc 211) ?_
  refine s_iload (pc := 206) C dX11_bloom_206 ?_
  exact s_goto (pc := 208) 213 C dX11_bloom_208 (by decide) (hrc 213)
set_option maxRecDepth 100000 in
theorem kX11_bloom_211 (C : ox_C p s m args c g 12 cX11_bloom RX11) (hr : meth.sig.returnType = (some .int)) (hlk : meth.locks = false) (hnm : meth.name = "bloom") (hR : R.frames = dp ∧ R.locals = 60 * dp) (e0 : 1 ≤ dp) (h1 : ox_Sem yX11_isKept cX11_isKept 2 (some .boolean) d1 f1) (e1 : d1 + 1 ≤ dp) (h2 : ox_Sem yX11_isSheet cX11_isSheet 1 (some .boolean) d2 f2) (e2 : d2 + 1 ≤ dp) (h3 : ox_Sem yX11_within cX11_within 3 (some .boolean) d3 f3) (e3 : d3 + 1 ≤ dp) (h4 : ox_Sem yX11_amissIn cX11_amissIn 3 (some .int) d4 f4) (e4 : d4 + 1 ≤ dp) (h5 : ox_Sem yX11_found cX11_found 2 (some .int) d5 f5) (e5 : d5 + 1 ≤ dp) (h6 : ox_Sem yX11_plain cX11_plain 2 (some .int) d6 f6) (e6 : d6 + 1 ≤ dp) (hrc : ∀ b, ox_S p l e R s m args below meth c g 12 c0 t0 (ox_QM g below args s c0 t0) b (rc b)) : ox_S p l e R s m args below meth c g 12 c0 t0 (ox_QM g below args s c0 t0) 211 (bX11_bloom_211 f1 f2 f3 f4 f5 f6 rc) := by
  refine s_iload (pc := 211) C dX11_bloom_211 ?_
  exact hrc 213
set_option maxRecDepth 100000 in
theorem kX11_bloom_213 (C : ox_C p s m args c g 12 cX11_bloom RX11) (hr : meth.sig.returnType = (some .int)) (hlk : meth.locks = false) (hnm : meth.name = "bloom") (hR : R.frames = dp ∧ R.locals = 60 * dp) (e0 : 1 ≤ dp) (h1 : ox_Sem yX11_isKept cX11_isKept 2 (some .boolean) d1 f1) (e1 : d1 + 1 ≤ dp) (h2 : ox_Sem yX11_isSheet cX11_isSheet 1 (some .boolean) d2 f2) (e2 : d2 + 1 ≤ dp) (h3 : ox_Sem yX11_within cX11_within 3 (some .boolean) d3 f3) (e3 : d3 + 1 ≤ dp) (h4 : ox_Sem yX11_amissIn cX11_amissIn 3 (some .int) d4 f4) (e4 : d4 + 1 ≤ dp) (h5 : ox_Sem yX11_found cX11_found 2 (some .int) d5 f5) (e5 : d5 + 1 ≤ dp) (h6 : ox_Sem yX11_plain cX11_plain 2 (some .int) d6 f6) (e6 : d6 + 1 ≤ dp) (hrc : ∀ b, ox_S p l e R s m args below meth c g 12 c0 t0 (ox_QM g below args s c0 t0) b (rc b)) : ox_S p l e R s m args below meth c g 12 c0 t0 (ox_QM g below args s c0 t0) 213 (bX11_bloom_213 f1 f2 f3 f4 f5 f6 rc) := by
  refine s_cv (pc := 213) (q := (RX11, TX11, 13)) C h6 rfl wM_X11_82 wI_X11_plain wS_X11_plain wN_X11 wC_X11_plain (by decide +kernel) (ox_lv hR e6 (by decide)) dX11_bloom_213 ?_
  exact s_iret (pc := 216) C hr hlk dX11_bloom_216
end SX11_bloom
def bsX11_bloom (f1 f2 f3 f4 f5 f6 : ox_F) (b : Nat) (rc : Nat → ox_K) : ox_K := if b = 0 then bX11_bloom_0 f1 f2 f3 f4 f5 f6 rc else if b = 36 then bX11_bloom_36 f1 f2 f3 f4 f5 f6 rc else if b = 39 then bX11_bloom_39 f1 f2 f3 f4 f5 f6 rc else if b = 71 then bX11_bloom_71 f1 f2 f3 f4 f5 f6 rc else if b = 77 then bX11_bloom_77 f1 f2 f3 f4 f5 f6 rc else if b = 132 then bX11_bloom_132 f1 f2 f3 f4 f5 f6 rc else if b = 135 then bX11_bloom_135 f1 f2 f3 f4 f5 f6 rc else if b = 164 then bX11_bloom_164 f1 f2 f3 f4 f5 f6 rc else if b = 185 then bX11_bloom_185 f1 f2 f3 f4 f5 f6 rc else if b = 197 then bX11_bloom_197 f1 f2 f3 f4 f5 f6 rc else if b = 198 then bX11_bloom_198 f1 f2 f3 f4 f5 f6 rc else if b = 211 then bX11_bloom_211 f1 f2 f3 f4 f5 f6 rc else if b = 213 then bX11_bloom_213 f1 f2 f3 f4 f5 f6 rc else ox_no
theorem mX11_bloom {dp d1 d2 d3 d4 d5 d6 : Nat} {f1 f2 f3 f4 f5 f6 f : ox_F} (e0 : 1 ≤ dp) (h1 : ox_Sem yX11_isKept cX11_isKept 2 (some .boolean) d1 f1) (e1 : d1 + 1 ≤ dp) (h2 : ox_Sem yX11_isSheet cX11_isSheet 1 (some .boolean) d2 f2) (e2 : d2 + 1 ≤ dp) (h3 : ox_Sem yX11_within cX11_within 3 (some .boolean) d3 f3) (e3 : d3 + 1 ≤ dp) (h4 : ox_Sem yX11_amissIn cX11_amissIn 3 (some .int) d4 f4) (e4 : d4 + 1 ≤ dp) (h5 : ox_Sem yX11_found cX11_found 2 (some .int) d5 f5) (e5 : d5 + 1 ≤ dp) (h6 : ox_Sem yX11_plain cX11_plain 2 (some .int) d6 f6) (e6 : d6 + 1 ≤ dp) (hf : ∀ as h r, f as h = some r → ox_cs as ≤ 12 ∧ ox_le h r.2 ∧ ∃ n, ox_run (bsX11_bloom f1 f2 f3 f4 f5 f6) n 0 (lv_args 0 as) [] h = some r) : ox_Sem yX11_bloom cX11_bloom 12 (some .int) dp f := by
  refine ox_meth (bs := bsX11_bloom f1 f2 f3 f4 f5 f6) (by decide) hf ?_
  intro p l e R s m args below meth c g c0 t0 C hr hlk hnm hR rc hrc b
  unfold bsX11_bloom
  refine ox_br (kX11_bloom_0 C hr hlk hnm hR e0 h1 e1 h2 e2 h3 e3 h4 e4 h5 e5 h6 e6 hrc) ?_
  refine ox_br (kX11_bloom_36 C hr hlk hnm hR e0 h1 e1 h2 e2 h3 e3 h4 e4 h5 e5 h6 e6 hrc) ?_
  refine ox_br (kX11_bloom_39 C hr hlk hnm hR e0 h1 e1 h2 e2 h3 e3 h4 e4 h5 e5 h6 e6 hrc) ?_
  refine ox_br (kX11_bloom_71 C hr hlk hnm hR e0 h1 e1 h2 e2 h3 e3 h4 e4 h5 e5 h6 e6 hrc) ?_
  refine ox_br (kX11_bloom_77 C hr hlk hnm hR e0 h1 e1 h2 e2 h3 e3 h4 e4 h5 e5 h6 e6 hrc) ?_
  refine ox_br (kX11_bloom_132 C hr hlk hnm hR e0 h1 e1 h2 e2 h3 e3 h4 e4 h5 e5 h6 e6 hrc) ?_
  refine ox_br (kX11_bloom_135 C hr hlk hnm hR e0 h1 e1 h2 e2 h3 e3 h4 e4 h5 e5 h6 e6 hrc) ?_
  refine ox_br (kX11_bloom_164 C hr hlk hnm hR e0 h1 e1 h2 e2 h3 e3 h4 e4 h5 e5 h6 e6 hrc) ?_
  refine ox_br (kX11_bloom_185 C hr hlk hnm hR e0 h1 e1 h2 e2 h3 e3 h4 e4 h5 e5 h6 e6 hrc) ?_
  refine ox_br (kX11_bloom_197 C hr hlk hnm hR e0 h1 e1 h2 e2 h3 e3 h4 e4 h5 e5 h6 e6 hrc) ?_
  refine ox_br (kX11_bloom_198 C hr hlk hnm hR e0 h1 e1 h2 e2 h3 e3 h4 e4 h5 e5 h6 e6 hrc) ?_
  refine ox_br (kX11_bloom_211 C hr hlk hnm hR e0 h1 e1 h2 e2 h3 e3 h4 e4 h5 e5 h6 e6 hrc) ?_
  refine ox_br (kX11_bloom_213 C hr hlk hnm hR e0 h1 e1 h2 e2 h3 e3 h4 e4 h5 e5 h6 e6 hrc) ?_
  exact s_no
theorem dX11_orders_0 : decode cX11_orders 0 = .ok (.iload_n 1, 1) := by decide +kernel
theorem dX11_orders_1 : decode cX11_orders 1 = .ok (.invokestatic 65, 3) := by decide +kernel
theorem dX11_orders_4 : decode cX11_orders 4 = .ok (.ifCond .eq 25, 3) := by decide +kernel
theorem dX11_orders_7 : decode cX11_orders 7 = .ok (.iload_n 3, 1) := by decide +kernel
theorem dX11_orders_8 : decode cX11_orders 8 = .ok (.iconst 1, 1) := by decide +kernel
theorem dX11_orders_9 : decode cX11_orders 9 = .ok (.bipush 7, 2) := by decide +kernel
theorem dX11_orders_11 : decode cX11_orders 11 = .ok (.invokestatic 69, 3) := by decide +kernel
theorem dX11_orders_14 : decode cX11_orders 14 = .ok (.ifCond .eq 15, 3) := by decide +kernel
theorem dX11_orders_17 : decode cX11_orders 17 = .ok (.iload 4, 2) := by decide +kernel
theorem dX11_orders_19 : decode cX11_orders 19 = .ok (.iconst (-1), 1) := by decide +kernel
theorem dX11_orders_20 : decode cX11_orders 20 = .ok (.iload_n 3, 1) := by decide +kernel
theorem dX11_orders_21 : decode cX11_orders 21 = .ok (.iconst 1, 1) := by decide +kernel
theorem dX11_orders_22 : decode cX11_orders 22 = .ok (.isub, 1) := by decide +kernel
theorem dX11_orders_23 : decode cX11_orders 23 = .ok (.invokestatic 69, 3) := by decide +kernel
theorem dX11_orders_26 : decode cX11_orders 26 = .ok (.ifCond .ne 6, 3) := by decide +kernel
theorem dX11_orders_29 : decode cX11_orders 29 = .ok (.ldc 73, 2) := by decide +kernel
theorem dX11_orders_31 : decode cX11_orders 31 = .ok (.ireturn, 1) := by decide +kernel
theorem dX11_orders_32 : decode cX11_orders 32 = .ok (.aload_n 0, 1) := by decide +kernel
theorem dX11_orders_33 : decode cX11_orders 33 = .ok (.getfield 11, 3) := by decide +kernel
theorem dX11_orders_36 : decode cX11_orders 36 = .ok (.iload_n 1, 1) := by decide +kernel
theorem dX11_orders_37 : decode cX11_orders 37 = .ok (.aaload, 1) := by decide +kernel
theorem dX11_orders_38 : decode cX11_orders 38 = .ok (.astore 5, 2) := by decide +kernel
theorem dX11_orders_40 : decode cX11_orders 40 = .ok (.aload 5, 2) := by decide +kernel
theorem dX11_orders_42 : decode cX11_orders 42 = .ok (.iload_n 2, 1) := by decide +kernel
theorem dX11_orders_43 : decode cX11_orders 43 = .ok (.iconst 3, 1) := by decide +kernel
theorem dX11_orders_44 : decode cX11_orders 44 = .ok (.iload_n 3, 1) := by decide +kernel
theorem dX11_orders_45 : decode cX11_orders 45 = .ok (.imul, 1) := by decide +kernel
theorem dX11_orders_46 : decode cX11_orders 46 = .ok (.invokestatic 85, 3) := by decide +kernel
theorem dX11_orders_49 : decode cX11_orders 49 = .ok (.istore 6, 2) := by decide +kernel
theorem dX11_orders_51 : decode cX11_orders 51 = .ok (.iload 6, 2) := by decide +kernel
theorem dX11_orders_53 : decode cX11_orders 53 = .ok (.ifCond .eq 10, 3) := by decide +kernel
theorem dX11_orders_56 : decode cX11_orders 56 = .ok (.aload_n 0, 1) := by decide +kernel
theorem dX11_orders_57 : decode cX11_orders 57 = .ok (.iload 6, 2) := by decide +kernel
theorem dX11_orders_59 : decode cX11_orders 59 = .ok (.invokevirtual 74, 3) := by decide +kernel
theorem dX11_orders_62 : decode cX11_orders 62 = .ok (.ireturn, 1) := by decide +kernel
theorem dX11_orders_63 : decode cX11_orders 63 = .ok (.aload_n 0, 1) := by decide +kernel
theorem dX11_orders_64 : decode cX11_orders 64 = .ok (.aload 5, 2) := by decide +kernel
theorem dX11_orders_66 : decode cX11_orders 66 = .ok (.iload_n 2, 1) := by decide +kernel
theorem dX11_orders_67 : decode cX11_orders 67 = .ok (.iload_n 3, 1) := by decide +kernel
theorem dX11_orders_68 : decode cX11_orders 68 = .ok (.invokevirtual 320, 3) := by decide +kernel
theorem dX11_orders_71 : decode cX11_orders 71 = .ok (.ifCond .ne 6, 3) := by decide +kernel
theorem dX11_orders_74 : decode cX11_orders 74 = .ok (.ldc 73, 2) := by decide +kernel
theorem dX11_orders_76 : decode cX11_orders 76 = .ok (.ireturn, 1) := by decide +kernel
theorem dX11_orders_77 : decode cX11_orders 77 = .ok (.aload_n 0, 1) := by decide +kernel
theorem dX11_orders_78 : decode cX11_orders 78 = .ok (.getfield 56, 3) := by decide +kernel
theorem dX11_orders_81 : decode cX11_orders 81 = .ok (.iload_n 3, 1) := by decide +kernel
theorem dX11_orders_82 : decode cX11_orders 82 = .ok (.invokevirtual 324, 3) := by decide +kernel
theorem dX11_orders_85 : decode cX11_orders 85 = .ok (.aload_n 0, 1) := by decide +kernel
theorem dX11_orders_86 : decode cX11_orders 86 = .ok (.iload 4, 2) := by decide +kernel
theorem dX11_orders_88 : decode cX11_orders 88 = .ok (.ifCond .ge 13, 3) := by decide +kernel
theorem dX11_orders_91 : decode cX11_orders 91 = .ok (.aload_n 0, 1) := by decide +kernel
theorem dX11_orders_92 : decode cX11_orders 92 = .ok (.getfield 56, 3) := by decide +kernel
theorem dX11_orders_95 : decode cX11_orders 95 = .ok (.getfield 327, 3) := by decide +kernel
theorem dX11_orders_98 : decode cX11_orders 98 = .ok (.goto 13, 3) := by decide +kernel
theorem dX11_orders_101 : decode cX11_orders 101 = .ok (.aload_n 0, 1) := by decide +kernel
theorem dX11_orders_102 : decode cX11_orders 102 = .ok (.getfield 56, 3) := by decide +kernel
theorem dX11_orders_105 : decode cX11_orders 105 = .ok (.getfield 330, 3) := by decide +kernel
theorem dX11_orders_108 : decode cX11_orders 108 = .ok (.iload 4, 2) := by decide +kernel
theorem dX11_orders_110 : decode cX11_orders 110 = .ok (.iaload, 1) := by decide +kernel
theorem dX11_orders_111 : decode cX11_orders 111 = .ok (.invokevirtual 82, 3) := by decide +kernel
theorem dX11_orders_114 : decode cX11_orders 114 = .ok (.ireturn, 1) := by decide +kernel
def bX11_orders_0 (f1 f2 f3 f4 f5 f6 f7 : ox_F) (rc : Nat → ox_K) : ox_K := o_il 1 (o_ct f1 1 (o_ifeq (rc 29) (o_il 3 (o_ic (1) (o_ic (7) (o_ct f2 3 (o_ifeq (rc 29) (o_il 4 (o_ic (-1) (o_il 3 (o_ic (1) (o_isub (o_ct f2 3 (o_ifne (rc 32) (rc 29)))))))))))))))
def bX11_orders_29 (f1 f2 f3 f4 f5 f6 f7 : ox_F) (rc : Nat → ox_K) : ox_K := o_ic (-1000001) (o_iret)
def bX11_orders_32 (f1 f2 f3 f4 f5 f6 f7 : ox_F) (rc : Nat → ox_K) : ox_K := o_al 0 (o_getr 11 0 (o_il 1 (o_aa 8 (o_as 5 (o_al 5 (o_il 2 (o_ic (3) (o_il 3 (o_imul (o_ct f3 3 (o_is 6 (o_il 6 (o_ifeq (rc 63) (o_al 0 (o_il 6 (o_cv f4 11 1 (o_iret)))))))))))))))))
def bX11_orders_63 (f1 f2 f3 f4 f5 f6 f7 : ox_F) (rc : Nat → ox_K) : ox_K := o_al 0 (o_al 5 (o_il 2 (o_il 3 (o_cv f5 11 3 (o_ifne (rc 77) (o_ic (-1000001) (o_iret)))))))
def bX11_orders_77 (f1 f2 f3 f4 f5 f6 f7 : ox_F) (rc : Nat → ox_K) : ox_K := o_al 0 (o_getr 11 7 (o_il 3 (o_cv f6 7 1 (o_al 0 (o_il 4 (o_ifge (rc 101) (o_al 0 (o_getr 11 7 (o_geti 7 4 (rc 111))))))))))
def bX11_orders_101 (f1 f2 f3 f4 f5 f6 f7 : ox_F) (rc : Nat → ox_K) : ox_K := o_al 0 (o_getr 11 7 (o_getr 7 3 (o_il 4 (o_ia (rc 111)))))
def bX11_orders_111 (f1 f2 f3 f4 f5 f6 f7 : ox_F) (rc : Nat → ox_K) : ox_K := o_cv f7 11 1 (o_iret)
section SX11_orders
variable {p : Program} {l : Launch} {e : Env} {R : Room} {s : State} {m : MethodId} {args : Array Value} {below : List Frame} {meth : Method} {c : Code} {g : ox_G} {c0 t0 dp d1 d2 d3 d4 d5 d6 d7 : Nat} {rc : Nat → ox_K} {f1 f2 f3 f4 f5 f6 f7 : ox_F}
set_option maxRecDepth 100000 in
theorem kX11_orders_0 (C : ox_C p s m args c g 7 cX11_orders RX11) (hr : meth.sig.returnType = (some .int)) (hlk : meth.locks = false) (hnm : meth.name = "orders") (hR : R.frames = dp ∧ R.locals = 60 * dp) (h1 : ox_Sem yX11_isSheet cX11_isSheet 1 (some .boolean) d1 f1) (e1 : d1 + 1 ≤ dp) (h2 : ox_Sem yX11_within cX11_within 3 (some .boolean) d2 f2) (e2 : d2 + 1 ≤ dp) (h3 : ox_Sem yX11_amissIn cX11_amissIn 3 (some .int) d3 f3) (e3 : d3 + 1 ≤ dp) (h4 : ox_Sem yX11_found cX11_found 2 (some .int) d4 f4) (e4 : d4 + 1 ≤ dp) (h5 : ox_Sem yX11_takeOrders cX11_takeOrders 8 (some .boolean) d5 f5) (e5 : d5 + 1 ≤ dp) (h6 : ox_Sem yX7_findBest cX7_findBest 2 none d6 f6) (e6 : d6 + 1 ≤ dp) (h7 : ox_Sem yX11_plain cX11_plain 2 (some .int) d7 f7) (e7 : d7 + 1 ≤ dp) (hrc : ∀ b, ox_S p l e R s m args below meth c g 7 c0 t0 (ox_QM g below args s c0 t0) b (rc b)) : ox_S p l e R s m args below meth c g 7 c0 t0 (ox_QM g below args s c0 t0) 0 (bX11_orders_0 f1 f2 f3 f4 f5 f6 f7 rc) := by
  refine s_iload_n (pc := 0) C dX11_orders_0 rfl ?_
  refine s_ct (pc := 1) C h1 wM_X11_65 wT_X11_isSheet wN_X11 wC_X11_isSheet (by decide +kernel) (ox_lv hR e1 (by decide)) dX11_orders_1 ?_
  refine s_ifeq (pc := 4) 29 C dX11_orders_4 (by decide) (hrc 29) ?_
  refine s_iload_n (pc := 7) C dX11_orders_7 rfl ?_
  refine s_iconst (pc := 8) C dX11_orders_8 (by decide) ?_
  refine s_bipush (pc := 9) C dX11_orders_9 (by decide) ?_
  refine s_ct (pc := 11) C h2 wM_X11_69 wT_X11_within wN_X11 wC_X11_within (by decide +kernel) (ox_lv hR e2 (by decide)) dX11_orders_11 ?_
  refine s_ifeq (pc := 14) 29 C dX11_orders_14 (by decide) (hrc 29) ?_
  refine s_iload (pc := 17) C dX11_orders_17 ?_
  refine s_iconst (pc := 19) C dX11_orders_19 (by decide) ?_
  refine s_iload_n (pc := 20) C dX11_orders_20 rfl ?_
  refine s_iconst (pc := 21) C dX11_orders_21 (by decide) ?_
  refine s_isub (pc := 22) C dX11_orders_22 ?_
  refine s_ct (pc := 23) C h2 wM_X11_69 wT_X11_within wN_X11 wC_X11_within (by decide +kernel) (ox_lv hR e2 (by decide)) dX11_orders_23 ?_
  refine s_ifne (pc := 26) 32 C dX11_orders_26 (by decide) (hrc 32) ?_
  exact hrc 29
set_option maxRecDepth 100000 in
theorem kX11_orders_29 (C : ox_C p s m args c g 7 cX11_orders RX11) (hr : meth.sig.returnType = (some .int)) (hlk : meth.locks = false) (hnm : meth.name = "orders") (hR : R.frames = dp ∧ R.locals = 60 * dp) (h1 : ox_Sem yX11_isSheet cX11_isSheet 1 (some .boolean) d1 f1) (e1 : d1 + 1 ≤ dp) (h2 : ox_Sem yX11_within cX11_within 3 (some .boolean) d2 f2) (e2 : d2 + 1 ≤ dp) (h3 : ox_Sem yX11_amissIn cX11_amissIn 3 (some .int) d3 f3) (e3 : d3 + 1 ≤ dp) (h4 : ox_Sem yX11_found cX11_found 2 (some .int) d4 f4) (e4 : d4 + 1 ≤ dp) (h5 : ox_Sem yX11_takeOrders cX11_takeOrders 8 (some .boolean) d5 f5) (e5 : d5 + 1 ≤ dp) (h6 : ox_Sem yX7_findBest cX7_findBest 2 none d6 f6) (e6 : d6 + 1 ≤ dp) (h7 : ox_Sem yX11_plain cX11_plain 2 (some .int) d7 f7) (e7 : d7 + 1 ≤ dp) (hrc : ∀ b, ox_S p l e R s m args below meth c g 7 c0 t0 (ox_QM g below args s c0 t0) b (rc b)) : ox_S p l e R s m args below meth c g 7 c0 t0 (ox_QM g below args s c0 t0) 29 (bX11_orders_29 f1 f2 f3 f4 f5 f6 f7 rc) := by
  refine s_ldc (pc := 29) C wK_X11_73 dX11_orders_29 ?_
  exact s_iret (pc := 31) C hr hlk dX11_orders_31
set_option maxRecDepth 100000 in
theorem kX11_orders_32 (C : ox_C p s m args c g 7 cX11_orders RX11) (hr : meth.sig.returnType = (some .int)) (hlk : meth.locks = false) (hnm : meth.name = "orders") (hR : R.frames = dp ∧ R.locals = 60 * dp) (h1 : ox_Sem yX11_isSheet cX11_isSheet 1 (some .boolean) d1 f1) (e1 : d1 + 1 ≤ dp) (h2 : ox_Sem yX11_within cX11_within 3 (some .boolean) d2 f2) (e2 : d2 + 1 ≤ dp) (h3 : ox_Sem yX11_amissIn cX11_amissIn 3 (some .int) d3 f3) (e3 : d3 + 1 ≤ dp) (h4 : ox_Sem yX11_found cX11_found 2 (some .int) d4 f4) (e4 : d4 + 1 ≤ dp) (h5 : ox_Sem yX11_takeOrders cX11_takeOrders 8 (some .boolean) d5 f5) (e5 : d5 + 1 ≤ dp) (h6 : ox_Sem yX7_findBest cX7_findBest 2 none d6 f6) (e6 : d6 + 1 ≤ dp) (h7 : ox_Sem yX11_plain cX11_plain 2 (some .int) d7 f7) (e7 : d7 + 1 ≤ dp) (hrc : ∀ b, ox_S p l e R s m args below meth c g 7 c0 t0 (ox_QM g below args s c0 t0) b (rc b)) : ox_S p l e R s m args below meth c g 7 c0 t0 (ox_QM g below args s c0 t0) 32 (bX11_orders_32 f1 f2 f3 f4 f5 f6 f7 rc) := by
  refine s_aload_n (pc := 32) C dX11_orders_32 rfl ?_
  refine s_getr (pc := 33) (j := 0) (q := (RX11, TX11, 13)) C rfl (by decide) rfl wF_X11_11 dX11_orders_33 ?_
  refine s_iload_n (pc := 36) C dX11_orders_36 rfl ?_
  refine s_aa (pc := 37) (q := (RX8, TX8, 4)) 6 C rfl dX11_orders_37 ?_
  refine s_astore (pc := 38) C dX11_orders_38 (by decide) ?_
  refine s_aload (pc := 40) C dX11_orders_40 ?_
  refine s_iload_n (pc := 42) C dX11_orders_42 rfl ?_
  refine s_iconst (pc := 43) C dX11_orders_43 (by decide) ?_
  refine s_iload_n (pc := 44) C dX11_orders_44 rfl ?_
  refine s_imul (pc := 45) C dX11_orders_45 ?_
  refine s_ct (pc := 46) C h3 wM_X11_85 wT_X11_amissIn wN_X11 wC_X11_amissIn (by decide +kernel) (ox_lv hR e3 (by decide)) dX11_orders_46 ?_
  refine s_istore (pc := 49) C dX11_orders_49 (by decide) ?_
  refine s_iload (pc := 51) C dX11_orders_51 ?_
  refine s_ifeq (pc := 53) 63 C dX11_orders_53 (by decide) (hrc 63) ?_
  refine s_aload_n (pc := 56) C dX11_orders_56 rfl ?_
  refine s_iload (pc := 57) C dX11_orders_57 ?_
  refine s_cv (pc := 59) (q := (RX11, TX11, 13)) C h4 rfl wM_X11_74 wI_X11_found wS_X11_found wN_X11 wC_X11_found (by decide +kernel) (ox_lv hR e4 (by decide)) dX11_orders_59 ?_
  exact s_iret (pc := 62) C hr hlk dX11_orders_62
set_option maxRecDepth 100000 in
theorem kX11_orders_63 (C : ox_C p s m args c g 7 cX11_orders RX11) (hr : meth.sig.returnType = (some .int)) (hlk : meth.locks = false) (hnm : meth.name = "orders") (hR : R.frames = dp ∧ R.locals = 60 * dp) (h1 : ox_Sem yX11_isSheet cX11_isSheet 1 (some .boolean) d1 f1) (e1 : d1 + 1 ≤ dp) (h2 : ox_Sem yX11_within cX11_within 3 (some .boolean) d2 f2) (e2 : d2 + 1 ≤ dp) (h3 : ox_Sem yX11_amissIn cX11_amissIn 3 (some .int) d3 f3) (e3 : d3 + 1 ≤ dp) (h4 : ox_Sem yX11_found cX11_found 2 (some .int) d4 f4) (e4 : d4 + 1 ≤ dp) (h5 : ox_Sem yX11_takeOrders cX11_takeOrders 8 (some .boolean) d5 f5) (e5 : d5 + 1 ≤ dp) (h6 : ox_Sem yX7_findBest cX7_findBest 2 none d6 f6) (e6 : d6 + 1 ≤ dp) (h7 : ox_Sem yX11_plain cX11_plain 2 (some .int) d7 f7) (e7 : d7 + 1 ≤ dp) (hrc : ∀ b, ox_S p l e R s m args below meth c g 7 c0 t0 (ox_QM g below args s c0 t0) b (rc b)) : ox_S p l e R s m args below meth c g 7 c0 t0 (ox_QM g below args s c0 t0) 63 (bX11_orders_63 f1 f2 f3 f4 f5 f6 f7 rc) := by
  refine s_aload_n (pc := 63) C dX11_orders_63 rfl ?_
  refine s_aload (pc := 64) C dX11_orders_64 ?_
  refine s_iload_n (pc := 66) C dX11_orders_66 rfl ?_
  refine s_iload_n (pc := 67) C dX11_orders_67 rfl ?_
  refine s_cv (pc := 68) (q := (RX11, TX11, 13)) C h5 rfl wM_X11_320 wI_X11_takeOrders wS_X11_takeOrders wN_X11 wC_X11_takeOrders (by decide +kernel) (ox_lv hR e5 (by decide)) dX11_orders_68 ?_
  refine s_ifne (pc := 71) 77 C dX11_orders_71 (by decide) (hrc 77) ?_
  refine s_ldc (pc := 74) C wK_X11_73 dX11_orders_74 ?_
  exact s_iret (pc := 76) C hr hlk dX11_orders_76
set_option maxRecDepth 100000 in
theorem kX11_orders_77 (C : ox_C p s m args c g 7 cX11_orders RX11) (hr : meth.sig.returnType = (some .int)) (hlk : meth.locks = false) (hnm : meth.name = "orders") (hR : R.frames = dp ∧ R.locals = 60 * dp) (h1 : ox_Sem yX11_isSheet cX11_isSheet 1 (some .boolean) d1 f1) (e1 : d1 + 1 ≤ dp) (h2 : ox_Sem yX11_within cX11_within 3 (some .boolean) d2 f2) (e2 : d2 + 1 ≤ dp) (h3 : ox_Sem yX11_amissIn cX11_amissIn 3 (some .int) d3 f3) (e3 : d3 + 1 ≤ dp) (h4 : ox_Sem yX11_found cX11_found 2 (some .int) d4 f4) (e4 : d4 + 1 ≤ dp) (h5 : ox_Sem yX11_takeOrders cX11_takeOrders 8 (some .boolean) d5 f5) (e5 : d5 + 1 ≤ dp) (h6 : ox_Sem yX7_findBest cX7_findBest 2 none d6 f6) (e6 : d6 + 1 ≤ dp) (h7 : ox_Sem yX11_plain cX11_plain 2 (some .int) d7 f7) (e7 : d7 + 1 ≤ dp) (hrc : ∀ b, ox_S p l e R s m args below meth c g 7 c0 t0 (ox_QM g below args s c0 t0) b (rc b)) : ox_S p l e R s m args below meth c g 7 c0 t0 (ox_QM g below args s c0 t0) 77 (bX11_orders_77 f1 f2 f3 f4 f5 f6 f7 rc) := by
  refine s_aload_n (pc := 77) C dX11_orders_77 rfl ?_
  refine s_getr (pc := 78) (j := 7) (q := (RX11, TX11, 13)) C rfl (by decide) rfl wF_X11_56 dX11_orders_78 ?_
  refine s_iload_n (pc := 81) C dX11_orders_81 rfl ?_
  refine s_cv (pc := 82) (q := (RX7, TX7, 7)) C h6 rfl wM_X11_324 wI_X7_findBest wS_X7_findBest wN_X7 wC_X7_findBest (by decide +kernel) (ox_lv hR e6 (by decide)) dX11_orders_82 ?_
  refine s_aload_n (pc := 85) C dX11_orders_85 rfl ?_
  refine s_iload (pc := 86) C dX11_orders_86 ?_
  refine s_ifge (pc := 88) 101 C dX11_orders_88 (by decide) (hrc 101) ?_
  refine s_aload_n (pc := 91) C dX11_orders_91 rfl ?_
  refine s_getr (pc := 92) (j := 7) (q := (RX11, TX11, 13)) C rfl (by decide) rfl wF_X11_56 dX11_orders_92 ?_
  refine s_geti (pc := 95) (j := 4) (q := (RX7, TX7, 7)) C rfl (by decide) rfl wF_X11_327 dX11_orders_95 ?_
  exact s_goto (pc := 98) 111 C dX11_orders_98 (by decide) (hrc 111)
set_option maxRecDepth 100000 in
theorem kX11_orders_101 (C : ox_C p s m args c g 7 cX11_orders RX11) (hr : meth.sig.returnType = (some .int)) (hlk : meth.locks = false) (hnm : meth.name = "orders") (hR : R.frames = dp ∧ R.locals = 60 * dp) (h1 : ox_Sem yX11_isSheet cX11_isSheet 1 (some .boolean) d1 f1) (e1 : d1 + 1 ≤ dp) (h2 : ox_Sem yX11_within cX11_within 3 (some .boolean) d2 f2) (e2 : d2 + 1 ≤ dp) (h3 : ox_Sem yX11_amissIn cX11_amissIn 3 (some .int) d3 f3) (e3 : d3 + 1 ≤ dp) (h4 : ox_Sem yX11_found cX11_found 2 (some .int) d4 f4) (e4 : d4 + 1 ≤ dp) (h5 : ox_Sem yX11_takeOrders cX11_takeOrders 8 (some .boolean) d5 f5) (e5 : d5 + 1 ≤ dp) (h6 : ox_Sem yX7_findBest cX7_findBest 2 none d6 f6) (e6 : d6 + 1 ≤ dp) (h7 : ox_Sem yX11_plain cX11_plain 2 (some .int) d7 f7) (e7 : d7 + 1 ≤ dp) (hrc : ∀ b, ox_S p l e R s m args below meth c g 7 c0 t0 (ox_QM g below args s c0 t0) b (rc b)) : ox_S p l e R s m args below meth c g 7 c0 t0 (ox_QM g below args s c0 t0) 101 (bX11_orders_101 f1 f2 f3 f4 f5 f6 f7 rc) := by
  refine s_aload_n (pc := 101) C dX11_orders_101 rfl ?_
  refine s_getr (pc := 102) (j := 7) (q := (RX11, TX11, 13)) C rfl (by decide) rfl wF_X11_56 dX11_orders_102 ?_
  refine s_getr (pc := 105) (j := 3) (q := (RX7, TX7, 7)) C rfl (by decide) rfl wF_X11_330 dX11_orders_105 ?_
  refine s_iload (pc := 108) C dX11_orders_108 ?_
  refine s_ia (pc := 110) C dX11_orders_110 ?_
  exact hrc 111
set_option maxRecDepth 100000 in
theorem kX11_orders_111 (C : ox_C p s m args c g 7 cX11_orders RX11) (hr : meth.sig.returnType = (some .int)) (hlk : meth.locks = false) (hnm : meth.name = "orders") (hR : R.frames = dp ∧ R.locals = 60 * dp) (h1 : ox_Sem yX11_isSheet cX11_isSheet 1 (some .boolean) d1 f1) (e1 : d1 + 1 ≤ dp) (h2 : ox_Sem yX11_within cX11_within 3 (some .boolean) d2 f2) (e2 : d2 + 1 ≤ dp) (h3 : ox_Sem yX11_amissIn cX11_amissIn 3 (some .int) d3 f3) (e3 : d3 + 1 ≤ dp) (h4 : ox_Sem yX11_found cX11_found 2 (some .int) d4 f4) (e4 : d4 + 1 ≤ dp) (h5 : ox_Sem yX11_takeOrders cX11_takeOrders 8 (some .boolean) d5 f5) (e5 : d5 + 1 ≤ dp) (h6 : ox_Sem yX7_findBest cX7_findBest 2 none d6 f6) (e6 : d6 + 1 ≤ dp) (h7 : ox_Sem yX11_plain cX11_plain 2 (some .int) d7 f7) (e7 : d7 + 1 ≤ dp) (hrc : ∀ b, ox_S p l e R s m args below meth c g 7 c0 t0 (ox_QM g below args s c0 t0) b (rc b)) : ox_S p l e R s m args below meth c g 7 c0 t0 (ox_QM g below args s c0 t0) 111 (bX11_orders_111 f1 f2 f3 f4 f5 f6 f7 rc) := by
  refine s_cv (pc := 111) (q := (RX11, TX11, 13)) C h7 rfl wM_X11_82 wI_X11_plain wS_X11_plain wN_X11 wC_X11_plain (by decide +kernel) (ox_lv hR e7 (by decide)) dX11_orders_111 ?_
  exact s_iret (pc := 114) C hr hlk dX11_orders_114
end SX11_orders
def bsX11_orders (f1 f2 f3 f4 f5 f6 f7 : ox_F) (b : Nat) (rc : Nat → ox_K) : ox_K := if b = 0 then bX11_orders_0 f1 f2 f3 f4 f5 f6 f7 rc else if b = 29 then bX11_orders_29 f1 f2 f3 f4 f5 f6 f7 rc else if b = 32 then bX11_orders_32 f1 f2 f3 f4 f5 f6 f7 rc else if b = 63 then bX11_orders_63 f1 f2 f3 f4 f5 f6 f7 rc else if b = 77 then bX11_orders_77 f1 f2 f3 f4 f5 f6 f7 rc else if b = 101 then bX11_orders_101 f1 f2 f3 f4 f5 f6 f7 rc else if b = 111 then bX11_orders_111 f1 f2 f3 f4 f5 f6 f7 rc else ox_no
theorem mX11_orders {dp d1 d2 d3 d4 d5 d6 d7 : Nat} {f1 f2 f3 f4 f5 f6 f7 f : ox_F} (h1 : ox_Sem yX11_isSheet cX11_isSheet 1 (some .boolean) d1 f1) (e1 : d1 + 1 ≤ dp) (h2 : ox_Sem yX11_within cX11_within 3 (some .boolean) d2 f2) (e2 : d2 + 1 ≤ dp) (h3 : ox_Sem yX11_amissIn cX11_amissIn 3 (some .int) d3 f3) (e3 : d3 + 1 ≤ dp) (h4 : ox_Sem yX11_found cX11_found 2 (some .int) d4 f4) (e4 : d4 + 1 ≤ dp) (h5 : ox_Sem yX11_takeOrders cX11_takeOrders 8 (some .boolean) d5 f5) (e5 : d5 + 1 ≤ dp) (h6 : ox_Sem yX7_findBest cX7_findBest 2 none d6 f6) (e6 : d6 + 1 ≤ dp) (h7 : ox_Sem yX11_plain cX11_plain 2 (some .int) d7 f7) (e7 : d7 + 1 ≤ dp) (hf : ∀ as h r, f as h = some r → ox_cs as ≤ 7 ∧ ox_le h r.2 ∧ ∃ n, ox_run (bsX11_orders f1 f2 f3 f4 f5 f6 f7) n 0 (lv_args 0 as) [] h = some r) : ox_Sem yX11_orders cX11_orders 7 (some .int) dp f := by
  refine ox_meth (bs := bsX11_orders f1 f2 f3 f4 f5 f6 f7) (by decide) hf ?_
  intro p l e R s m args below meth c g c0 t0 C hr hlk hnm hR rc hrc b
  unfold bsX11_orders
  refine ox_br (kX11_orders_0 C hr hlk hnm hR h1 e1 h2 e2 h3 e3 h4 e4 h5 e5 h6 e6 h7 e7 hrc) ?_
  refine ox_br (kX11_orders_29 C hr hlk hnm hR h1 e1 h2 e2 h3 e3 h4 e4 h5 e5 h6 e6 h7 e7 hrc) ?_
  refine ox_br (kX11_orders_32 C hr hlk hnm hR h1 e1 h2 e2 h3 e3 h4 e4 h5 e5 h6 e6 h7 e7 hrc) ?_
  refine ox_br (kX11_orders_63 C hr hlk hnm hR h1 e1 h2 e2 h3 e3 h4 e4 h5 e5 h6 e6 h7 e7 hrc) ?_
  refine ox_br (kX11_orders_77 C hr hlk hnm hR h1 e1 h2 e2 h3 e3 h4 e4 h5 e5 h6 e6 h7 e7 hrc) ?_
  refine ox_br (kX11_orders_101 C hr hlk hnm hR h1 e1 h2 e2 h3 e3 h4 e4 h5 e5 h6 e6 h7 e7 hrc) ?_
  refine ox_br (kX11_orders_111 C hr hlk hnm hR h1 e1 h2 e2 h3 e3 h4 e4 h5 e5 h6 e6 h7 e7 hrc) ?_
  exact s_no
theorem dX11_kind_0 : decode cX11_kind 0 = .ok (.aload_n 0, 1) := by decide +kernel
theorem dX11_kind_1 : decode cX11_kind 1 = .ok (.iload_n 1, 1) := by decide +kernel
theorem dX11_kind_2 : decode cX11_kind 2 = .ok (.invokevirtual 278, 3) := by decide +kernel
theorem dX11_kind_5 : decode cX11_kind 5 = .ok (.ifCond .eq 19, 3) := by decide +kernel
theorem dX11_kind_8 : decode cX11_kind 8 = .ok (.aload_n 0, 1) := by decide +kernel
theorem dX11_kind_9 : decode cX11_kind 9 = .ok (.aload_n 0, 1) := by decide +kernel
theorem dX11_kind_10 : decode cX11_kind 10 = .ok (.getfield 49, 3) := by decide +kernel
theorem dX11_kind_13 : decode cX11_kind 13 = .ok (.getfield 281, 3) := by decide +kernel
theorem dX11_kind_16 : decode cX11_kind 16 = .ok (.iload_n 1, 1) := by decide +kernel
theorem dX11_kind_17 : decode cX11_kind 17 = .ok (.aaload, 1) := by decide +kernel
theorem dX11_kind_18 : decode cX11_kind 18 = .ok (.invokevirtual 304, 3) := by decide +kernel
theorem dX11_kind_21 : decode cX11_kind 21 = .ok (.goto 5, 3) := by decide +kernel
theorem dX11_kind_24 : decode cX11_kind 24 = .ok (.ldc 73, 2) := by decide +kernel
theorem dX11_kind_26 : decode cX11_kind 26 = .ok (.ireturn, 1) := by decide +kernel
def bX11_kind_0 (f1 f2 : ox_F) (rc : Nat → ox_K) : ox_K := o_al 0 (o_il 1 (o_cv f1 11 1 (o_ifeq (rc 24) (o_al 0 (o_al 0 (o_getr 11 6 (o_getr 1 0 (o_il 1 (o_aa 0 (o_cv f2 11 1 (rc 26)))))))))))
def bX11_kind_24 (f1 f2 : ox_F) (rc : Nat → ox_K) : ox_K := o_ic (-1000001) (rc 26)
def bX11_kind_26 (f1 f2 : ox_F) (rc : Nat → ox_K) : ox_K := o_iret
section SX11_kind
variable {p : Program} {l : Launch} {e : Env} {R : Room} {s : State} {m : MethodId} {args : Array Value} {below : List Frame} {meth : Method} {c : Code} {g : ox_G} {c0 t0 dp d1 d2 : Nat} {rc : Nat → ox_K} {f1 f2 : ox_F}
set_option maxRecDepth 100000 in
theorem kX11_kind_0 (C : ox_C p s m args c g 2 cX11_kind RX11) (hr : meth.sig.returnType = (some .int)) (hlk : meth.locks = false) (hnm : meth.name = "kind") (hR : R.frames = dp ∧ R.locals = 60 * dp) (h1 : ox_Sem yX11_isKept cX11_isKept 2 (some .boolean) d1 f1) (e1 : d1 + 1 ≤ dp) (h2 : ox_Sem yX11_toldKind cX11_toldKind 3 (some .int) d2 f2) (e2 : d2 + 1 ≤ dp) (hrc : ∀ b, ox_S p l e R s m args below meth c g 2 c0 t0 (ox_QM g below args s c0 t0) b (rc b)) : ox_S p l e R s m args below meth c g 2 c0 t0 (ox_QM g below args s c0 t0) 0 (bX11_kind_0 f1 f2 rc) := by
  refine s_aload_n (pc := 0) C dX11_kind_0 rfl ?_
  refine s_iload_n (pc := 1) C dX11_kind_1 rfl ?_
  refine s_cv (pc := 2) (q := (RX11, TX11, 13)) C h1 rfl wM_X11_278 wI_X11_isKept wS_X11_isKept wN_X11 wC_X11_isKept (by decide +kernel) (ox_lv hR e1 (by decide)) dX11_kind_2 ?_
  refine s_ifeq (pc := 5) 24 C dX11_kind_5 (by decide) (hrc 24) ?_
  refine s_aload_n (pc := 8) C dX11_kind_8 rfl ?_
  refine s_aload_n (pc := 9) C dX11_kind_9 rfl ?_
  refine s_getr (pc := 10) (j := 6) (q := (RX11, TX11, 13)) C rfl (by decide) rfl wF_X11_49 dX11_kind_10 ?_
  refine s_getr (pc := 13) (j := 0) (q := (RX1, TX1, 7)) C rfl (by decide) rfl wF_X11_281 dX11_kind_13 ?_
  refine s_iload_n (pc := 16) C dX11_kind_16 rfl ?_
  refine s_aa (pc := 17) (q := (RX0, TX0, 7)) 3 C rfl dX11_kind_17 ?_
  refine s_cv (pc := 18) (q := (RX11, TX11, 13)) C h2 rfl wM_X11_304 wI_X11_toldKind wS_X11_toldKind wN_X11 wC_X11_toldKind (by decide +kernel) (ox_lv hR e2 (by decide)) dX11_kind_18 ?_
  exact s_goto (pc := 21) 26 C dX11_kind_21 (by decide) (hrc 26)
set_option maxRecDepth 100000 in
theorem kX11_kind_24 (C : ox_C p s m args c g 2 cX11_kind RX11) (hr : meth.sig.returnType = (some .int)) (hlk : meth.locks = false) (hnm : meth.name = "kind") (hR : R.frames = dp ∧ R.locals = 60 * dp) (h1 : ox_Sem yX11_isKept cX11_isKept 2 (some .boolean) d1 f1) (e1 : d1 + 1 ≤ dp) (h2 : ox_Sem yX11_toldKind cX11_toldKind 3 (some .int) d2 f2) (e2 : d2 + 1 ≤ dp) (hrc : ∀ b, ox_S p l e R s m args below meth c g 2 c0 t0 (ox_QM g below args s c0 t0) b (rc b)) : ox_S p l e R s m args below meth c g 2 c0 t0 (ox_QM g below args s c0 t0) 24 (bX11_kind_24 f1 f2 rc) := by
  refine s_ldc (pc := 24) C wK_X11_73 dX11_kind_24 ?_
  exact hrc 26
set_option maxRecDepth 100000 in
theorem kX11_kind_26 (C : ox_C p s m args c g 2 cX11_kind RX11) (hr : meth.sig.returnType = (some .int)) (hlk : meth.locks = false) (hnm : meth.name = "kind") (hR : R.frames = dp ∧ R.locals = 60 * dp) (h1 : ox_Sem yX11_isKept cX11_isKept 2 (some .boolean) d1 f1) (e1 : d1 + 1 ≤ dp) (h2 : ox_Sem yX11_toldKind cX11_toldKind 3 (some .int) d2 f2) (e2 : d2 + 1 ≤ dp) (hrc : ∀ b, ox_S p l e R s m args below meth c g 2 c0 t0 (ox_QM g below args s c0 t0) b (rc b)) : ox_S p l e R s m args below meth c g 2 c0 t0 (ox_QM g below args s c0 t0) 26 (bX11_kind_26 f1 f2 rc) := by
  exact s_iret (pc := 26) C hr hlk dX11_kind_26
end SX11_kind
def bsX11_kind (f1 f2 : ox_F) (b : Nat) (rc : Nat → ox_K) : ox_K := if b = 0 then bX11_kind_0 f1 f2 rc else if b = 24 then bX11_kind_24 f1 f2 rc else if b = 26 then bX11_kind_26 f1 f2 rc else ox_no
theorem mX11_kind {dp d1 d2 : Nat} {f1 f2 f : ox_F} (h1 : ox_Sem yX11_isKept cX11_isKept 2 (some .boolean) d1 f1) (e1 : d1 + 1 ≤ dp) (h2 : ox_Sem yX11_toldKind cX11_toldKind 3 (some .int) d2 f2) (e2 : d2 + 1 ≤ dp) (hf : ∀ as h r, f as h = some r → ox_cs as ≤ 2 ∧ ox_le h r.2 ∧ ∃ n, ox_run (bsX11_kind f1 f2) n 0 (lv_args 0 as) [] h = some r) : ox_Sem yX11_kind cX11_kind 2 (some .int) dp f := by
  refine ox_meth (bs := bsX11_kind f1 f2) (by decide) hf ?_
  intro p l e R s m args below meth c g c0 t0 C hr hlk hnm hR rc hrc b
  unfold bsX11_kind
  refine ox_br (kX11_kind_0 C hr hlk hnm hR h1 e1 h2 e2 hrc) ?_
  refine ox_br (kX11_kind_24 C hr hlk hnm hR h1 e1 h2 e2 hrc) ?_
  refine ox_br (kX11_kind_26 C hr hlk hnm hR h1 e1 h2 e2 hrc) ?_
  exact s_no
theorem dX11_as_0 : decode cX11_as 0 = .ok (.aload_n 0, 1) := by decide +kernel
theorem dX11_as_1 : decode cX11_as 1 = .ok (.iload_n 1, 1) := by decide +kernel
theorem dX11_as_2 : decode cX11_as 2 = .ok (.invokevirtual 278, 3) := by decide +kernel
theorem dX11_as_5 : decode cX11_as 5 = .ok (.ifCond .eq 12, 3) := by decide +kernel
theorem dX11_as_8 : decode cX11_as 8 = .ok (.iload_n 2, 1) := by decide +kernel
theorem dX11_as_9 : decode cX11_as 9 = .ok (.iconst 0, 1) := by decide +kernel
theorem dX11_as_10 : decode cX11_as 10 = .ok (.iconst 4, 1) := by decide +kernel
theorem dX11_as_11 : decode cX11_as 11 = .ok (.invokestatic 69, 3) := by decide +kernel
theorem dX11_as_14 : decode cX11_as 14 = .ok (.ifCond .ne 6, 3) := by decide +kernel
theorem dX11_as_17 : decode cX11_as 17 = .ok (.ldc 73, 2) := by decide +kernel
theorem dX11_as_19 : decode cX11_as 19 = .ok (.ireturn, 1) := by decide +kernel
theorem dX11_as_20 : decode cX11_as 20 = .ok (.aload_n 0, 1) := by decide +kernel
theorem dX11_as_21 : decode cX11_as 21 = .ok (.aload_n 0, 1) := by decide +kernel
theorem dX11_as_22 : decode cX11_as 22 = .ok (.getfield 49, 3) := by decide +kernel
theorem dX11_as_25 : decode cX11_as 25 = .ok (.getfield 281, 3) := by decide +kernel
theorem dX11_as_28 : decode cX11_as 28 = .ok (.iload_n 1, 1) := by decide +kernel
theorem dX11_as_29 : decode cX11_as 29 = .ok (.aaload, 1) := by decide +kernel
theorem dX11_as_30 : decode cX11_as 30 = .ok (.invokevirtual 304, 3) := by decide +kernel
theorem dX11_as_33 : decode cX11_as 33 = .ok (.istore_n 3, 1) := by decide +kernel
theorem dX11_as_34 : decode cX11_as 34 = .ok (.iload_n 3, 1) := by decide +kernel
theorem dX11_as_35 : decode cX11_as 35 = .ok (.iconst 2, 1) := by decide +kernel
theorem dX11_as_36 : decode cX11_as 36 = .ok (.if_icmp .ne 12, 3) := by decide +kernel
theorem dX11_as_39 : decode cX11_as 39 = .ok (.iload_n 2, 1) := by decide +kernel
theorem dX11_as_40 : decode cX11_as 40 = .ok (.iconst 1, 1) := by decide +kernel
theorem dX11_as_41 : decode cX11_as 41 = .ok (.if_icmp .ne 7, 3) := by decide +kernel
theorem dX11_as_44 : decode cX11_as 44 = .ok (.iconst 1, 1) := by decide +kernel
theorem dX11_as_45 : decode cX11_as 45 = .ok (.goto 4, 3) := by decide +kernel
theorem dX11_as_48 : decode cX11_as 48 = .ok (.iconst 0, 1) := by decide +kernel
theorem dX11_as_49 : decode cX11_as 49 = .ok (.istore 4, 2) := by decide +kernel
theorem dX11_as_51 : decode cX11_as 51 = .ok (.iload_n 2, 1) := by decide +kernel
theorem dX11_as_52 : decode cX11_as 52 = .ok (.ifCond .eq 19, 3) := by decide +kernel
theorem dX11_as_55 : decode cX11_as 55 = .ok (.iload_n 2, 1) := by decide +kernel
theorem dX11_as_56 : decode cX11_as 56 = .ok (.iload_n 3, 1) := by decide +kernel
theorem dX11_as_57 : decode cX11_as 57 = .ok (.if_icmp .eq 14, 3) := by decide +kernel
theorem dX11_as_60 : decode cX11_as 60 = .ok (.iload 4, 2) := by decide +kernel
theorem dX11_as_62 : decode cX11_as 62 = .ok (.ifCond .ne 9, 3) := by decide +kernel
theorem dX11_as_65 : decode cX11_as 65 = .ok (.aload_n 0, 1) := by decide +kernel
theorem dX11_as_66 : decode cX11_as 66 = .ok (.iconst 3, 1) := by decide +kernel
theorem dX11_as_67 : decode cX11_as 67 = .ok (.invokevirtual 74, 3) := by decide +kernel
theorem dX11_as_70 : decode cX11_as 70 = .ok (.ireturn, 1) := by decide +kernel
theorem dX11_as_71 : decode cX11_as 71 = .ok (.aload_n 0, 1) := by decide +kernel
theorem dX11_as_72 : decode cX11_as 72 = .ok (.aload_n 0, 1) := by decide +kernel
theorem dX11_as_73 : decode cX11_as 73 = .ok (.getfield 49, 3) := by decide +kernel
theorem dX11_as_76 : decode cX11_as 76 = .ok (.getfield 281, 3) := by decide +kernel
theorem dX11_as_79 : decode cX11_as 79 = .ok (.iload_n 1, 1) := by decide +kernel
theorem dX11_as_80 : decode cX11_as 80 = .ok (.aaload, 1) := by decide +kernel
theorem dX11_as_81 : decode cX11_as 81 = .ok (.getfield 285, 3) := by decide +kernel
theorem dX11_as_84 : decode cX11_as 84 = .ok (.invokevirtual 82, 3) := by decide +kernel
theorem dX11_as_87 : decode cX11_as 87 = .ok (.ireturn, 1) := by decide +kernel
def bX11_as_0 (f1 f2 f3 f4 f5 : ox_F) (rc : Nat → ox_K) : ox_K := o_al 0 (o_il 1 (o_cv f1 11 1 (o_ifeq (rc 17) (o_il 2 (o_ic (0) (o_ic (4) (o_ct f2 3 (o_ifne (rc 20) (rc 17)))))))))
def bX11_as_17 (f1 f2 f3 f4 f5 : ox_F) (rc : Nat → ox_K) : ox_K := o_ic (-1000001) (o_iret)
def bX11_as_20 (f1 f2 f3 f4 f5 : ox_F) (rc : Nat → ox_K) : ox_K := o_al 0 (o_al 0 (o_getr 11 6 (o_getr 1 0 (o_il 1 (o_aa 0 (o_cv f3 11 1 (o_is 3 (o_il 3 (o_ic (2) (o_icne (rc 48) (o_il 2 (o_ic (1) (o_icne (rc 48) (o_ic (1) (rc 49)))))))))))))))
def bX11_as_48 (f1 f2 f3 f4 f5 : ox_F) (rc : Nat → ox_K) : ox_K := o_ic (0) (rc 49)
def bX11_as_49 (f1 f2 f3 f4 f5 : ox_F) (rc : Nat → ox_K) : ox_K := o_is 4 (o_il 2 (o_ifeq (rc 71) (o_il 2 (o_il 3 (o_iceq (rc 71) (o_il 4 (o_ifne (rc 71) (o_al 0 (o_ic (3) (o_cv f4 11 1 (o_iret)))))))))))
def bX11_as_71 (f1 f2 f3 f4 f5 : ox_F) (rc : Nat → ox_K) : ox_K := o_al 0 (o_al 0 (o_getr 11 6 (o_getr 1 0 (o_il 1 (o_aa 0 (o_geti 0 0 (o_cv f5 11 1 (o_iret))))))))
section SX11_as
variable {p : Program} {l : Launch} {e : Env} {R : Room} {s : State} {m : MethodId} {args : Array Value} {below : List Frame} {meth : Method} {c : Code} {g : ox_G} {c0 t0 dp d1 d2 d3 d4 d5 : Nat} {rc : Nat → ox_K} {f1 f2 f3 f4 f5 : ox_F}
set_option maxRecDepth 100000 in
theorem kX11_as_0 (C : ox_C p s m args c g 5 cX11_as RX11) (hr : meth.sig.returnType = (some .int)) (hlk : meth.locks = false) (hnm : meth.name = "as") (hR : R.frames = dp ∧ R.locals = 60 * dp) (h1 : ox_Sem yX11_isKept cX11_isKept 2 (some .boolean) d1 f1) (e1 : d1 + 1 ≤ dp) (h2 : ox_Sem yX11_within cX11_within 3 (some .boolean) d2 f2) (e2 : d2 + 1 ≤ dp) (h3 : ox_Sem yX11_toldKind cX11_toldKind 3 (some .int) d3 f3) (e3 : d3 + 1 ≤ dp) (h4 : ox_Sem yX11_found cX11_found 2 (some .int) d4 f4) (e4 : d4 + 1 ≤ dp) (h5 : ox_Sem yX11_plain cX11_plain 2 (some .int) d5 f5) (e5 : d5 + 1 ≤ dp) (hrc : ∀ b, ox_S p l e R s m args below meth c g 5 c0 t0 (ox_QM g below args s c0 t0) b (rc b)) : ox_S p l e R s m args below meth c g 5 c0 t0 (ox_QM g below args s c0 t0) 0 (bX11_as_0 f1 f2 f3 f4 f5 rc) := by
  refine s_aload_n (pc := 0) C dX11_as_0 rfl ?_
  refine s_iload_n (pc := 1) C dX11_as_1 rfl ?_
  refine s_cv (pc := 2) (q := (RX11, TX11, 13)) C h1 rfl wM_X11_278 wI_X11_isKept wS_X11_isKept wN_X11 wC_X11_isKept (by decide +kernel) (ox_lv hR e1 (by decide)) dX11_as_2 ?_
  refine s_ifeq (pc := 5) 17 C dX11_as_5 (by decide) (hrc 17) ?_
  refine s_iload_n (pc := 8) C dX11_as_8 rfl ?_
  refine s_iconst (pc := 9) C dX11_as_9 (by decide) ?_
  refine s_iconst (pc := 10) C dX11_as_10 (by decide) ?_
  refine s_ct (pc := 11) C h2 wM_X11_69 wT_X11_within wN_X11 wC_X11_within (by decide +kernel) (ox_lv hR e2 (by decide)) dX11_as_11 ?_
  refine s_ifne (pc := 14) 20 C dX11_as_14 (by decide) (hrc 20) ?_
  exact hrc 17
set_option maxRecDepth 100000 in
theorem kX11_as_17 (C : ox_C p s m args c g 5 cX11_as RX11) (hr : meth.sig.returnType = (some .int)) (hlk : meth.locks = false) (hnm : meth.name = "as") (hR : R.frames = dp ∧ R.locals = 60 * dp) (h1 : ox_Sem yX11_isKept cX11_isKept 2 (some .boolean) d1 f1) (e1 : d1 + 1 ≤ dp) (h2 : ox_Sem yX11_within cX11_within 3 (some .boolean) d2 f2) (e2 : d2 + 1 ≤ dp) (h3 : ox_Sem yX11_toldKind cX11_toldKind 3 (some .int) d3 f3) (e3 : d3 + 1 ≤ dp) (h4 : ox_Sem yX11_found cX11_found 2 (some .int) d4 f4) (e4 : d4 + 1 ≤ dp) (h5 : ox_Sem yX11_plain cX11_plain 2 (some .int) d5 f5) (e5 : d5 + 1 ≤ dp) (hrc : ∀ b, ox_S p l e R s m args below meth c g 5 c0 t0 (ox_QM g below args s c0 t0) b (rc b)) : ox_S p l e R s m args below meth c g 5 c0 t0 (ox_QM g below args s c0 t0) 17 (bX11_as_17 f1 f2 f3 f4 f5 rc) := by
  refine s_ldc (pc := 17) C wK_X11_73 dX11_as_17 ?_
  exact s_iret (pc := 19) C hr hlk dX11_as_19
set_option maxRecDepth 100000 in
theorem kX11_as_20 (C : ox_C p s m args c g 5 cX11_as RX11) (hr : meth.sig.returnType = (some .int)) (hlk : meth.locks = false) (hnm : meth.name = "as") (hR : R.frames = dp ∧ R.locals = 60 * dp) (h1 : ox_Sem yX11_isKept cX11_isKept 2 (some .boolean) d1 f1) (e1 : d1 + 1 ≤ dp) (h2 : ox_Sem yX11_within cX11_within 3 (some .boolean) d2 f2) (e2 : d2 + 1 ≤ dp) (h3 : ox_Sem yX11_toldKind cX11_toldKind 3 (some .int) d3 f3) (e3 : d3 + 1 ≤ dp) (h4 : ox_Sem yX11_found cX11_found 2 (some .int) d4 f4) (e4 : d4 + 1 ≤ dp) (h5 : ox_Sem yX11_plain cX11_plain 2 (some .int) d5 f5) (e5 : d5 + 1 ≤ dp) (hrc : ∀ b, ox_S p l e R s m args below meth c g 5 c0 t0 (ox_QM g below args s c0 t0) b (rc b)) : ox_S p l e R s m args below meth c g 5 c0 t0 (ox_QM g below args s c0 t0) 20 (bX11_as_20 f1 f2 f3 f4 f5 rc) := by
  refine s_aload_n (pc := 20) C dX11_as_20 rfl ?_
  refine s_aload_n (pc := 21) C dX11_as_21 rfl ?_
  refine s_getr (pc := 22) (j := 6) (q := (RX11, TX11, 13)) C rfl (by decide) rfl wF_X11_49 dX11_as_22 ?_
  refine s_getr (pc := 25) (j := 0) (q := (RX1, TX1, 7)) C rfl (by decide) rfl wF_X11_281 dX11_as_25 ?_
  refine s_iload_n (pc := 28) C dX11_as_28 rfl ?_
  refine s_aa (pc := 29) (q := (RX0, TX0, 7)) 3 C rfl dX11_as_29 ?_
  refine s_cv (pc := 30) (q := (RX11, TX11, 13)) C h3 rfl wM_X11_304 wI_X11_toldKind wS_X11_toldKind wN_X11 wC_X11_toldKind (by decide +kernel) (ox_lv hR e3 (by decide)) dX11_as_30 ?_
  refine s_istore_n (pc := 33) C dX11_as_33 rfl (by decide) ?_
  refine s_iload_n (pc := 34) C dX11_as_34 rfl ?_
  refine s_iconst (pc := 35) C dX11_as_35 (by decide) ?_
  refine s_icmpne (pc := 36) 48 C dX11_as_36 (by decide) (hrc 48) ?_
  refine s_iload_n (pc := 39) C dX11_as_39 rfl ?_
  refine s_iconst (pc := 40) C dX11_as_40 (by decide) ?_
  refine s_icmpne (pc := 41) 48 C dX11_as_41 (by decide) (hrc 48) ?_
  refine s_iconst (pc := 44) C dX11_as_44 (by decide) ?_
  exact s_goto (pc := 45) 49 C dX11_as_45 (by decide) (hrc 49)
set_option maxRecDepth 100000 in
theorem kX11_as_48 (C : ox_C p s m args c g 5 cX11_as RX11) (hr : meth.sig.returnType = (some .int)) (hlk : meth.locks = false) (hnm : meth.name = "as") (hR : R.frames = dp ∧ R.locals = 60 * dp) (h1 : ox_Sem yX11_isKept cX11_isKept 2 (some .boolean) d1 f1) (e1 : d1 + 1 ≤ dp) (h2 : ox_Sem yX11_within cX11_within 3 (some .boolean) d2 f2) (e2 : d2 + 1 ≤ dp) (h3 : ox_Sem yX11_toldKind cX11_toldKind 3 (some .int) d3 f3) (e3 : d3 + 1 ≤ dp) (h4 : ox_Sem yX11_found cX11_found 2 (some .int) d4 f4) (e4 : d4 + 1 ≤ dp) (h5 : ox_Sem yX11_plain cX11_plain 2 (some .int) d5 f5) (e5 : d5 + 1 ≤ dp) (hrc : ∀ b, ox_S p l e R s m args below meth c g 5 c0 t0 (ox_QM g below args s c0 t0) b (rc b)) : ox_S p l e R s m args below meth c g 5 c0 t0 (ox_QM g below args s c0 t0) 48 (bX11_as_48 f1 f2 f3 f4 f5 rc) := by
  refine s_iconst (pc := 48) C dX11_as_48 (by decide) ?_
  exact hrc 49
set_option maxRecDepth 100000 in
theorem kX11_as_49 (C : ox_C p s m args c g 5 cX11_as RX11) (hr : meth.sig.returnType = (some .int)) (hlk : meth.locks = false) (hnm : meth.name = "as") (hR : R.frames = dp ∧ R.locals = 60 * dp) (h1 : ox_Sem yX11_isKept cX11_isKept 2 (some .boolean) d1 f1) (e1 : d1 + 1 ≤ dp) (h2 : ox_Sem yX11_within cX11_within 3 (some .boolean) d2 f2) (e2 : d2 + 1 ≤ dp) (h3 : ox_Sem yX11_toldKind cX11_toldKind 3 (some .int) d3 f3) (e3 : d3 + 1 ≤ dp) (h4 : ox_Sem yX11_found cX11_found 2 (some .int) d4 f4) (e4 : d4 + 1 ≤ dp) (h5 : ox_Sem yX11_plain cX11_plain 2 (some .int) d5 f5) (e5 : d5 + 1 ≤ dp) (hrc : ∀ b, ox_S p l e R s m args below meth c g 5 c0 t0 (ox_QM g below args s c0 t0) b (rc b)) : ox_S p l e R s m args below meth c g 5 c0 t0 (ox_QM g below args s c0 t0) 49 (bX11_as_49 f1 f2 f3 f4 f5 rc) := by
  refine s_istore (pc := 49) C dX11_as_49 (by decide) ?_
  refine s_iload_n (pc := 51) C dX11_as_51 rfl ?_
  refine s_ifeq (pc := 52) 71 C dX11_as_52 (by decide) (hrc 71) ?_
  refine s_iload_n (pc := 55) C dX11_as_55 rfl ?_
  refine s_iload_n (pc := 56) C dX11_as_56 rfl ?_
  refine s_icmpeq (pc := 57) 71 C dX11_as_57 (by decide) (hrc 71) ?_
  refine s_iload (pc := 60) C dX11_as_60 ?_
  refine s_ifne (pc := 62) 71 C dX11_as_62 (by decide) (hrc 71) ?_
  refine s_aload_n (pc := 65) C dX11_as_65 rfl ?_
  refine s_iconst (pc := 66) C dX11_as_66 (by decide) ?_
  refine s_cv (pc := 67) (q := (RX11, TX11, 13)) C h4 rfl wM_X11_74 wI_X11_found wS_X11_found wN_X11 wC_X11_found (by decide +kernel) (ox_lv hR e4 (by decide)) dX11_as_67 ?_
  exact s_iret (pc := 70) C hr hlk dX11_as_70
set_option maxRecDepth 100000 in
theorem kX11_as_71 (C : ox_C p s m args c g 5 cX11_as RX11) (hr : meth.sig.returnType = (some .int)) (hlk : meth.locks = false) (hnm : meth.name = "as") (hR : R.frames = dp ∧ R.locals = 60 * dp) (h1 : ox_Sem yX11_isKept cX11_isKept 2 (some .boolean) d1 f1) (e1 : d1 + 1 ≤ dp) (h2 : ox_Sem yX11_within cX11_within 3 (some .boolean) d2 f2) (e2 : d2 + 1 ≤ dp) (h3 : ox_Sem yX11_toldKind cX11_toldKind 3 (some .int) d3 f3) (e3 : d3 + 1 ≤ dp) (h4 : ox_Sem yX11_found cX11_found 2 (some .int) d4 f4) (e4 : d4 + 1 ≤ dp) (h5 : ox_Sem yX11_plain cX11_plain 2 (some .int) d5 f5) (e5 : d5 + 1 ≤ dp) (hrc : ∀ b, ox_S p l e R s m args below meth c g 5 c0 t0 (ox_QM g below args s c0 t0) b (rc b)) : ox_S p l e R s m args below meth c g 5 c0 t0 (ox_QM g below args s c0 t0) 71 (bX11_as_71 f1 f2 f3 f4 f5 rc) := by
  refine s_aload_n (pc := 71) C dX11_as_71 rfl ?_
  refine s_aload_n (pc := 72) C dX11_as_72 rfl ?_
  refine s_getr (pc := 73) (j := 6) (q := (RX11, TX11, 13)) C rfl (by decide) rfl wF_X11_49 dX11_as_73 ?_
  refine s_getr (pc := 76) (j := 0) (q := (RX1, TX1, 7)) C rfl (by decide) rfl wF_X11_281 dX11_as_76 ?_
  refine s_iload_n (pc := 79) C dX11_as_79 rfl ?_
  refine s_aa (pc := 80) (q := (RX0, TX0, 7)) 3 C rfl dX11_as_80 ?_
  refine s_geti (pc := 81) (j := 0) (q := (RX0, TX0, 7)) C rfl (by decide) rfl wF_X11_285 dX11_as_81 ?_
  refine s_cv (pc := 84) (q := (RX11, TX11, 13)) C h5 rfl wM_X11_82 wI_X11_plain wS_X11_plain wN_X11 wC_X11_plain (by decide +kernel) (ox_lv hR e5 (by decide)) dX11_as_84 ?_
  exact s_iret (pc := 87) C hr hlk dX11_as_87
end SX11_as
def bsX11_as (f1 f2 f3 f4 f5 : ox_F) (b : Nat) (rc : Nat → ox_K) : ox_K := if b = 0 then bX11_as_0 f1 f2 f3 f4 f5 rc else if b = 17 then bX11_as_17 f1 f2 f3 f4 f5 rc else if b = 20 then bX11_as_20 f1 f2 f3 f4 f5 rc else if b = 48 then bX11_as_48 f1 f2 f3 f4 f5 rc else if b = 49 then bX11_as_49 f1 f2 f3 f4 f5 rc else if b = 71 then bX11_as_71 f1 f2 f3 f4 f5 rc else ox_no
theorem mX11_as {dp d1 d2 d3 d4 d5 : Nat} {f1 f2 f3 f4 f5 f : ox_F} (h1 : ox_Sem yX11_isKept cX11_isKept 2 (some .boolean) d1 f1) (e1 : d1 + 1 ≤ dp) (h2 : ox_Sem yX11_within cX11_within 3 (some .boolean) d2 f2) (e2 : d2 + 1 ≤ dp) (h3 : ox_Sem yX11_toldKind cX11_toldKind 3 (some .int) d3 f3) (e3 : d3 + 1 ≤ dp) (h4 : ox_Sem yX11_found cX11_found 2 (some .int) d4 f4) (e4 : d4 + 1 ≤ dp) (h5 : ox_Sem yX11_plain cX11_plain 2 (some .int) d5 f5) (e5 : d5 + 1 ≤ dp) (hf : ∀ as h r, f as h = some r → ox_cs as ≤ 5 ∧ ox_le h r.2 ∧ ∃ n, ox_run (bsX11_as f1 f2 f3 f4 f5) n 0 (lv_args 0 as) [] h = some r) : ox_Sem yX11_as cX11_as 5 (some .int) dp f := by
  refine ox_meth (bs := bsX11_as f1 f2 f3 f4 f5) (by decide) hf ?_
  intro p l e R s m args below meth c g c0 t0 C hr hlk hnm hR rc hrc b
  unfold bsX11_as
  refine ox_br (kX11_as_0 C hr hlk hnm hR h1 e1 h2 e2 h3 e3 h4 e4 h5 e5 hrc) ?_
  refine ox_br (kX11_as_17 C hr hlk hnm hR h1 e1 h2 e2 h3 e3 h4 e4 h5 e5 hrc) ?_
  refine ox_br (kX11_as_20 C hr hlk hnm hR h1 e1 h2 e2 h3 e3 h4 e4 h5 e5 hrc) ?_
  refine ox_br (kX11_as_48 C hr hlk hnm hR h1 e1 h2 e2 h3 e3 h4 e4 h5 e5 hrc) ?_
  refine ox_br (kX11_as_49 C hr hlk hnm hR h1 e1 h2 e2 h3 e3 h4 e4 h5 e5 hrc) ?_
  refine ox_br (kX11_as_71 C hr hlk hnm hR h1 e1 h2 e2 h3 e3 h4 e4 h5 e5 hrc) ?_
  exact s_no
theorem dX11_ask_0 : decode cX11_ask 0 = .ok (.aload_n 0, 1) := by decide +kernel
theorem dX11_ask_1 : decode cX11_ask 1 = .ok (.iload_n 1, 1) := by decide +kernel
theorem dX11_ask_2 : decode cX11_ask 2 = .ok (.invokevirtual 278, 3) := by decide +kernel
theorem dX11_ask_5 : decode cX11_ask 5 = .ok (.ifCond .eq 12, 3) := by decide +kernel
theorem dX11_ask_8 : decode cX11_ask 8 = .ok (.iload_n 2, 1) := by decide +kernel
theorem dX11_ask_9 : decode cX11_ask 9 = .ok (.iconst 0, 1) := by decide +kernel
theorem dX11_ask_10 : decode cX11_ask 10 = .ok (.iconst 1, 1) := by decide +kernel
theorem dX11_ask_11 : decode cX11_ask 11 = .ok (.invokestatic 69, 3) := by decide +kernel
theorem dX11_ask_14 : decode cX11_ask 14 = .ok (.ifCond .ne 6, 3) := by decide +kernel
theorem dX11_ask_17 : decode cX11_ask 17 = .ok (.ldc 73, 2) := by decide +kernel
theorem dX11_ask_19 : decode cX11_ask 19 = .ok (.ireturn, 1) := by decide +kernel
theorem dX11_ask_20 : decode cX11_ask 20 = .ok (.aload_n 0, 1) := by decide +kernel
theorem dX11_ask_21 : decode cX11_ask 21 = .ok (.iconst 0, 1) := by decide +kernel
theorem dX11_ask_22 : decode cX11_ask 22 = .ok (.putfield 333, 3) := by decide +kernel
theorem dX11_ask_25 : decode cX11_ask 25 = .ok (.aload_n 0, 1) := by decide +kernel
theorem dX11_ask_26 : decode cX11_ask 26 = .ok (.getfield 49, 3) := by decide +kernel
theorem dX11_ask_29 : decode cX11_ask 29 = .ok (.getfield 281, 3) := by decide +kernel
theorem dX11_ask_32 : decode cX11_ask 32 = .ok (.iload_n 1, 1) := by decide +kernel
theorem dX11_ask_33 : decode cX11_ask 33 = .ok (.aaload, 1) := by decide +kernel
theorem dX11_ask_34 : decode cX11_ask 34 = .ok (.astore_n 3, 1) := by decide +kernel
theorem dX11_ask_35 : decode cX11_ask 35 = .ok (.aload_n 0, 1) := by decide +kernel
theorem dX11_ask_36 : decode cX11_ask 36 = .ok (.aload_n 3, 1) := by decide +kernel
theorem dX11_ask_37 : decode cX11_ask 37 = .ok (.invokevirtual 304, 3) := by decide +kernel
theorem dX11_ask_40 : decode cX11_ask 40 = .ok (.istore 4, 2) := by decide +kernel
theorem dX11_ask_42 : decode cX11_ask 42 = .ok (.aload_n 0, 1) := by decide +kernel
theorem dX11_ask_43 : decode cX11_ask 43 = .ok (.iload_n 2, 1) := by decide +kernel
theorem dX11_ask_44 : decode cX11_ask 44 = .ok (.ifCond .ne 12, 3) := by decide +kernel
theorem dX11_ask_47 : decode cX11_ask 47 = .ok (.getstatic 336, 3) := by decide +kernel
theorem dX11_ask_50 : decode cX11_ask 50 = .ok (.iload 4, 2) := by decide +kernel
theorem dX11_ask_52 : decode cX11_ask 52 = .ok (.iaload, 1) := by decide +kernel
theorem dX11_ask_53 : decode cX11_ask 53 = .ok (.goto 9, 3) := by decide +kernel
theorem dX11_ask_56 : decode cX11_ask 56 = .ok (.getstatic 339, 3) := by decide +kernel
theorem dX11_ask_59 : decode cX11_ask 59 = .ok (.iload 4, 2) := by decide +kernel
theorem dX11_ask_61 : decode cX11_ask 61 = .ok (.iaload, 1) := by decide +kernel
theorem dX11_ask_62 : decode cX11_ask 62 = .ok (.aload_n 3, 1) := by decide +kernel
theorem dX11_ask_63 : decode cX11_ask 63 = .ok (.iload 4, 2) := by decide +kernel
theorem dX11_ask_65 : decode cX11_ask 65 = .ok (.iconst 0, 1) := by decide +kernel
theorem dX11_ask_66 : decode cX11_ask 66 = .ok (.invokevirtual 342, 3) := by decide +kernel
theorem dX11_ask_69 : decode cX11_ask 69 = .ok (.ireturn, 1) := by decide +kernel
def bX11_ask_0 (f1 f2 f3 f4 : ox_F) (rc : Nat → ox_K) : ox_K := o_al 0 (o_il 1 (o_cv f1 11 1 (o_ifeq (rc 17) (o_il 2 (o_ic (0) (o_ic (1) (o_ct f2 3 (o_ifne (rc 20) (rc 17)))))))))
def bX11_ask_17 (f1 f2 f3 f4 : ox_F) (rc : Nat → ox_K) : ox_K := o_ic (-1000001) (o_iret)
def bX11_ask_20 (f1 f2 f3 f4 : ox_F) (rc : Nat → ox_K) : ox_K := o_al 0 (o_ic (0) (o_puti 11 9 (o_al 0 (o_getr 11 6 (o_getr 1 0 (o_il 1 (o_aa 0 (o_as 3 (o_al 0 (o_al 3 (o_cv f3 11 1 (o_is 4 (o_al 0 (o_il 2 (o_ifne (rc 56) (o_gs 5 (o_il 4 (o_ia (rc 62)))))))))))))))))))
def bX11_ask_56 (f1 f2 f3 f4 : ox_F) (rc : Nat → ox_K) : ox_K := o_gs 6 (o_il 4 (o_ia (rc 62)))
def bX11_ask_62 (f1 f2 f3 f4 : ox_F) (rc : Nat → ox_K) : ox_K := o_al 3 (o_il 4 (o_ic (0) (o_cv f4 11 4 (o_iret))))
section SX11_ask
variable {p : Program} {l : Launch} {e : Env} {R : Room} {s : State} {m : MethodId} {args : Array Value} {below : List Frame} {meth : Method} {c : Code} {g : ox_G} {c0 t0 dp d1 d2 d3 d4 : Nat} {rc : Nat → ox_K} {f1 f2 f3 f4 : ox_F}
set_option maxRecDepth 100000 in
theorem kX11_ask_0 (C : ox_C p s m args c g 5 cX11_ask RX11) (hr : meth.sig.returnType = (some .int)) (hlk : meth.locks = false) (hnm : meth.name = "ask") (hR : R.frames = dp ∧ R.locals = 60 * dp) (h1 : ox_Sem yX11_isKept cX11_isKept 2 (some .boolean) d1 f1) (e1 : d1 + 1 ≤ dp) (h2 : ox_Sem yX11_within cX11_within 3 (some .boolean) d2 f2) (e2 : d2 + 1 ≤ dp) (h3 : ox_Sem yX11_toldKind cX11_toldKind 3 (some .int) d3 f3) (e3 : d3 + 1 ≤ dp) (h4 : ox_Sem yX11_body cX11_body 6 (some .int) d4 f4) (e4 : d4 + 1 ≤ dp) (hrc : ∀ b, ox_S p l e R s m args below meth c g 5 c0 t0 (ox_QM g below args s c0 t0) b (rc b)) : ox_S p l e R s m args below meth c g 5 c0 t0 (ox_QM g below args s c0 t0) 0 (bX11_ask_0 f1 f2 f3 f4 rc) := by
  refine s_aload_n (pc := 0) C dX11_ask_0 rfl ?_
  refine s_iload_n (pc := 1) C dX11_ask_1 rfl ?_
  refine s_cv (pc := 2) (q := (RX11, TX11, 13)) C h1 rfl wM_X11_278 wI_X11_isKept wS_X11_isKept wN_X11 wC_X11_isKept (by decide +kernel) (ox_lv hR e1 (by decide)) dX11_ask_2 ?_
  refine s_ifeq (pc := 5) 17 C dX11_ask_5 (by decide) (hrc 17) ?_
  refine s_iload_n (pc := 8) C dX11_ask_8 rfl ?_
  refine s_iconst (pc := 9) C dX11_ask_9 (by decide) ?_
  refine s_iconst (pc := 10) C dX11_ask_10 (by decide) ?_
  refine s_ct (pc := 11) C h2 wM_X11_69 wT_X11_within wN_X11 wC_X11_within (by decide +kernel) (ox_lv hR e2 (by decide)) dX11_ask_11 ?_
  refine s_ifne (pc := 14) 20 C dX11_ask_14 (by decide) (hrc 20) ?_
  exact hrc 17
set_option maxRecDepth 100000 in
theorem kX11_ask_17 (C : ox_C p s m args c g 5 cX11_ask RX11) (hr : meth.sig.returnType = (some .int)) (hlk : meth.locks = false) (hnm : meth.name = "ask") (hR : R.frames = dp ∧ R.locals = 60 * dp) (h1 : ox_Sem yX11_isKept cX11_isKept 2 (some .boolean) d1 f1) (e1 : d1 + 1 ≤ dp) (h2 : ox_Sem yX11_within cX11_within 3 (some .boolean) d2 f2) (e2 : d2 + 1 ≤ dp) (h3 : ox_Sem yX11_toldKind cX11_toldKind 3 (some .int) d3 f3) (e3 : d3 + 1 ≤ dp) (h4 : ox_Sem yX11_body cX11_body 6 (some .int) d4 f4) (e4 : d4 + 1 ≤ dp) (hrc : ∀ b, ox_S p l e R s m args below meth c g 5 c0 t0 (ox_QM g below args s c0 t0) b (rc b)) : ox_S p l e R s m args below meth c g 5 c0 t0 (ox_QM g below args s c0 t0) 17 (bX11_ask_17 f1 f2 f3 f4 rc) := by
  refine s_ldc (pc := 17) C wK_X11_73 dX11_ask_17 ?_
  exact s_iret (pc := 19) C hr hlk dX11_ask_19
set_option maxRecDepth 100000 in
theorem kX11_ask_20 (C : ox_C p s m args c g 5 cX11_ask RX11) (hr : meth.sig.returnType = (some .int)) (hlk : meth.locks = false) (hnm : meth.name = "ask") (hR : R.frames = dp ∧ R.locals = 60 * dp) (h1 : ox_Sem yX11_isKept cX11_isKept 2 (some .boolean) d1 f1) (e1 : d1 + 1 ≤ dp) (h2 : ox_Sem yX11_within cX11_within 3 (some .boolean) d2 f2) (e2 : d2 + 1 ≤ dp) (h3 : ox_Sem yX11_toldKind cX11_toldKind 3 (some .int) d3 f3) (e3 : d3 + 1 ≤ dp) (h4 : ox_Sem yX11_body cX11_body 6 (some .int) d4 f4) (e4 : d4 + 1 ≤ dp) (hrc : ∀ b, ox_S p l e R s m args below meth c g 5 c0 t0 (ox_QM g below args s c0 t0) b (rc b)) : ox_S p l e R s m args below meth c g 5 c0 t0 (ox_QM g below args s c0 t0) 20 (bX11_ask_20 f1 f2 f3 f4 rc) := by
  refine s_aload_n (pc := 20) C dX11_ask_20 rfl ?_
  refine s_iconst (pc := 21) C dX11_ask_21 (by decide) ?_
  refine s_puti (pc := 22) (j := 9) (q := (RX11, TX11, 13)) C rfl (by decide) rfl (Or.inl rfl) wF_X11_333 dX11_ask_22 ?_
  refine s_aload_n (pc := 25) C dX11_ask_25 rfl ?_
  refine s_getr (pc := 26) (j := 6) (q := (RX11, TX11, 13)) C rfl (by decide) rfl wF_X11_49 dX11_ask_26 ?_
  refine s_getr (pc := 29) (j := 0) (q := (RX1, TX1, 7)) C rfl (by decide) rfl wF_X11_281 dX11_ask_29 ?_
  refine s_iload_n (pc := 32) C dX11_ask_32 rfl ?_
  refine s_aa (pc := 33) (q := (RX0, TX0, 7)) 3 C rfl dX11_ask_33 ?_
  refine s_astore_n (pc := 34) C dX11_ask_34 rfl (by decide) ?_
  refine s_aload_n (pc := 35) C dX11_ask_35 rfl ?_
  refine s_aload_n (pc := 36) C dX11_ask_36 rfl ?_
  refine s_cv (pc := 37) (q := (RX11, TX11, 13)) C h3 rfl wM_X11_304 wI_X11_toldKind wS_X11_toldKind wN_X11 wC_X11_toldKind (by decide +kernel) (ox_lv hR e3 (by decide)) dX11_ask_37 ?_
  refine s_istore (pc := 40) C dX11_ask_40 (by decide) ?_
  refine s_aload_n (pc := 42) C dX11_ask_42 rfl ?_
  refine s_iload_n (pc := 43) C dX11_ask_43 rfl ?_
  refine s_ifne (pc := 44) 56 C dX11_ask_44 (by decide) (hrc 56) ?_
  refine s_gs (pc := 47) (C1 := "SweetLine") (n1 := "SIZE_BODY") (d1 := "[I") C (by decide +kernel) wF_X11_336 dX11_ask_47 ?_
  refine s_iload (pc := 50) C dX11_ask_50 ?_
  refine s_ia (pc := 52) C dX11_ask_52 ?_
  exact s_goto (pc := 53) 62 C dX11_ask_53 (by decide) (hrc 62)
set_option maxRecDepth 100000 in
theorem kX11_ask_56 (C : ox_C p s m args c g 5 cX11_ask RX11) (hr : meth.sig.returnType = (some .int)) (hlk : meth.locks = false) (hnm : meth.name = "ask") (hR : R.frames = dp ∧ R.locals = 60 * dp) (h1 : ox_Sem yX11_isKept cX11_isKept 2 (some .boolean) d1 f1) (e1 : d1 + 1 ≤ dp) (h2 : ox_Sem yX11_within cX11_within 3 (some .boolean) d2 f2) (e2 : d2 + 1 ≤ dp) (h3 : ox_Sem yX11_toldKind cX11_toldKind 3 (some .int) d3 f3) (e3 : d3 + 1 ≤ dp) (h4 : ox_Sem yX11_body cX11_body 6 (some .int) d4 f4) (e4 : d4 + 1 ≤ dp) (hrc : ∀ b, ox_S p l e R s m args below meth c g 5 c0 t0 (ox_QM g below args s c0 t0) b (rc b)) : ox_S p l e R s m args below meth c g 5 c0 t0 (ox_QM g below args s c0 t0) 56 (bX11_ask_56 f1 f2 f3 f4 rc) := by
  refine s_gs (pc := 56) (C1 := "SweetLine") (n1 := "MARK_BODY") (d1 := "[I") C (by decide +kernel) wF_X11_339 dX11_ask_56 ?_
  refine s_iload (pc := 59) C dX11_ask_59 ?_
  refine s_ia (pc := 61) C dX11_ask_61 ?_
  exact hrc 62
set_option maxRecDepth 100000 in
theorem kX11_ask_62 (C : ox_C p s m args c g 5 cX11_ask RX11) (hr : meth.sig.returnType = (some .int)) (hlk : meth.locks = false) (hnm : meth.name = "ask") (hR : R.frames = dp ∧ R.locals = 60 * dp) (h1 : ox_Sem yX11_isKept cX11_isKept 2 (some .boolean) d1 f1) (e1 : d1 + 1 ≤ dp) (h2 : ox_Sem yX11_within cX11_within 3 (some .boolean) d2 f2) (e2 : d2 + 1 ≤ dp) (h3 : ox_Sem yX11_toldKind cX11_toldKind 3 (some .int) d3 f3) (e3 : d3 + 1 ≤ dp) (h4 : ox_Sem yX11_body cX11_body 6 (some .int) d4 f4) (e4 : d4 + 1 ≤ dp) (hrc : ∀ b, ox_S p l e R s m args below meth c g 5 c0 t0 (ox_QM g below args s c0 t0) b (rc b)) : ox_S p l e R s m args below meth c g 5 c0 t0 (ox_QM g below args s c0 t0) 62 (bX11_ask_62 f1 f2 f3 f4 rc) := by
  refine s_aload_n (pc := 62) C dX11_ask_62 rfl ?_
  refine s_iload (pc := 63) C dX11_ask_63 ?_
  refine s_iconst (pc := 65) C dX11_ask_65 (by decide) ?_
  refine s_cv (pc := 66) (q := (RX11, TX11, 13)) C h4 rfl wM_X11_342 wI_X11_body wS_X11_body wN_X11 wC_X11_body (by decide +kernel) (ox_lv hR e4 (by decide)) dX11_ask_66 ?_
  exact s_iret (pc := 69) C hr hlk dX11_ask_69
end SX11_ask
def bsX11_ask (f1 f2 f3 f4 : ox_F) (b : Nat) (rc : Nat → ox_K) : ox_K := if b = 0 then bX11_ask_0 f1 f2 f3 f4 rc else if b = 17 then bX11_ask_17 f1 f2 f3 f4 rc else if b = 20 then bX11_ask_20 f1 f2 f3 f4 rc else if b = 56 then bX11_ask_56 f1 f2 f3 f4 rc else if b = 62 then bX11_ask_62 f1 f2 f3 f4 rc else ox_no
theorem mX11_ask {dp d1 d2 d3 d4 : Nat} {f1 f2 f3 f4 f : ox_F} (h1 : ox_Sem yX11_isKept cX11_isKept 2 (some .boolean) d1 f1) (e1 : d1 + 1 ≤ dp) (h2 : ox_Sem yX11_within cX11_within 3 (some .boolean) d2 f2) (e2 : d2 + 1 ≤ dp) (h3 : ox_Sem yX11_toldKind cX11_toldKind 3 (some .int) d3 f3) (e3 : d3 + 1 ≤ dp) (h4 : ox_Sem yX11_body cX11_body 6 (some .int) d4 f4) (e4 : d4 + 1 ≤ dp) (hf : ∀ as h r, f as h = some r → ox_cs as ≤ 5 ∧ ox_le h r.2 ∧ ∃ n, ox_run (bsX11_ask f1 f2 f3 f4) n 0 (lv_args 0 as) [] h = some r) : ox_Sem yX11_ask cX11_ask 5 (some .int) dp f := by
  refine ox_meth (bs := bsX11_ask f1 f2 f3 f4) (by decide) hf ?_
  intro p l e R s m args below meth c g c0 t0 C hr hlk hnm hR rc hrc b
  unfold bsX11_ask
  refine ox_br (kX11_ask_0 C hr hlk hnm hR h1 e1 h2 e2 h3 e3 h4 e4 hrc) ?_
  refine ox_br (kX11_ask_17 C hr hlk hnm hR h1 e1 h2 e2 h3 e3 h4 e4 hrc) ?_
  refine ox_br (kX11_ask_20 C hr hlk hnm hR h1 e1 h2 e2 h3 e3 h4 e4 hrc) ?_
  refine ox_br (kX11_ask_56 C hr hlk hnm hR h1 e1 h2 e2 h3 e3 h4 e4 hrc) ?_
  refine ox_br (kX11_ask_62 C hr hlk hnm hR h1 e1 h2 e2 h3 e3 h4 e4 hrc) ?_
  exact s_no
theorem dX11_trace_0 : decode cX11_trace 0 = .ok (.iload_n 1, 1) := by decide +kernel
theorem dX11_trace_1 : decode cX11_trace 1 = .ok (.iconst 0, 1) := by decide +kernel
theorem dX11_trace_2 : decode cX11_trace 2 = .ok (.aload_n 0, 1) := by decide +kernel
theorem dX11_trace_3 : decode cX11_trace 3 = .ok (.getfield 333, 3) := by decide +kernel
theorem dX11_trace_6 : decode cX11_trace 6 = .ok (.iconst 1, 1) := by decide +kernel
theorem dX11_trace_7 : decode cX11_trace 7 = .ok (.isub, 1) := by decide +kernel
theorem dX11_trace_8 : decode cX11_trace 8 = .ok (.invokestatic 69, 3) := by decide +kernel
theorem dX11_trace_11 : decode cX11_trace 11 = .ok (.ifCond .eq 12, 3) := by decide +kernel
theorem dX11_trace_14 : decode cX11_trace 14 = .ok (.aload_n 0, 1) := by decide +kernel
theorem dX11_trace_15 : decode cX11_trace 15 = .ok (.getfield 60, 3) := by decide +kernel
theorem dX11_trace_18 : decode cX11_trace 18 = .ok (.iload_n 1, 1) := by decide +kernel
theorem dX11_trace_19 : decode cX11_trace 19 = .ok (.iaload, 1) := by decide +kernel
theorem dX11_trace_20 : decode cX11_trace 20 = .ok (.goto 5, 3) := by decide +kernel
theorem dX11_trace_23 : decode cX11_trace 23 = .ok (.ldc 214, 2) := by decide +kernel
theorem dX11_trace_25 : decode cX11_trace 25 = .ok (.ireturn, 1) := by decide +kernel
def bX11_trace_0 (f1 : ox_F) (rc : Nat → ox_K) : ox_K := o_il 1 (o_ic (0) (o_al 0 (o_geti 11 9 (o_ic (1) (o_isub (o_ct f1 3 (o_ifeq (rc 23) (o_al 0 (o_getr 11 8 (o_il 1 (o_ia (rc 25))))))))))))
def bX11_trace_23 (f1 : ox_F) (rc : Nat → ox_K) : ox_K := o_ic (-1000000) (rc 25)
def bX11_trace_25 (f1 : ox_F) (rc : Nat → ox_K) : ox_K := o_iret
section SX11_trace
variable {p : Program} {l : Launch} {e : Env} {R : Room} {s : State} {m : MethodId} {args : Array Value} {below : List Frame} {meth : Method} {c : Code} {g : ox_G} {c0 t0 dp d1 : Nat} {rc : Nat → ox_K} {f1 : ox_F}
set_option maxRecDepth 100000 in
theorem kX11_trace_0 (C : ox_C p s m args c g 2 cX11_trace RX11) (hr : meth.sig.returnType = (some .int)) (hlk : meth.locks = false) (hnm : meth.name = "trace") (hR : R.frames = dp ∧ R.locals = 60 * dp) (h1 : ox_Sem yX11_within cX11_within 3 (some .boolean) d1 f1) (e1 : d1 + 1 ≤ dp) (hrc : ∀ b, ox_S p l e R s m args below meth c g 2 c0 t0 (ox_QM g below args s c0 t0) b (rc b)) : ox_S p l e R s m args below meth c g 2 c0 t0 (ox_QM g below args s c0 t0) 0 (bX11_trace_0 f1 rc) := by
  refine s_iload_n (pc := 0) C dX11_trace_0 rfl ?_
  refine s_iconst (pc := 1) C dX11_trace_1 (by decide) ?_
  refine s_aload_n (pc := 2) C dX11_trace_2 rfl ?_
  refine s_geti (pc := 3) (j := 9) (q := (RX11, TX11, 13)) C rfl (by decide) rfl wF_X11_333 dX11_trace_3 ?_
  refine s_iconst (pc := 6) C dX11_trace_6 (by decide) ?_
  refine s_isub (pc := 7) C dX11_trace_7 ?_
  refine s_ct (pc := 8) C h1 wM_X11_69 wT_X11_within wN_X11 wC_X11_within (by decide +kernel) (ox_lv hR e1 (by decide)) dX11_trace_8 ?_
  refine s_ifeq (pc := 11) 23 C dX11_trace_11 (by decide) (hrc 23) ?_
  refine s_aload_n (pc := 14) C dX11_trace_14 rfl ?_
  refine s_getr (pc := 15) (j := 8) (q := (RX11, TX11, 13)) C rfl (by decide) rfl wF_X11_60 dX11_trace_15 ?_
  refine s_iload_n (pc := 18) C dX11_trace_18 rfl ?_
  refine s_ia (pc := 19) C dX11_trace_19 ?_
  exact s_goto (pc := 20) 25 C dX11_trace_20 (by decide) (hrc 25)
set_option maxRecDepth 100000 in
theorem kX11_trace_23 (C : ox_C p s m args c g 2 cX11_trace RX11) (hr : meth.sig.returnType = (some .int)) (hlk : meth.locks = false) (hnm : meth.name = "trace") (hR : R.frames = dp ∧ R.locals = 60 * dp) (h1 : ox_Sem yX11_within cX11_within 3 (some .boolean) d1 f1) (e1 : d1 + 1 ≤ dp) (hrc : ∀ b, ox_S p l e R s m args below meth c g 2 c0 t0 (ox_QM g below args s c0 t0) b (rc b)) : ox_S p l e R s m args below meth c g 2 c0 t0 (ox_QM g below args s c0 t0) 23 (bX11_trace_23 f1 rc) := by
  refine s_ldc (pc := 23) C wK_X11_214 dX11_trace_23 ?_
  exact hrc 25
set_option maxRecDepth 100000 in
theorem kX11_trace_25 (C : ox_C p s m args c g 2 cX11_trace RX11) (hr : meth.sig.returnType = (some .int)) (hlk : meth.locks = false) (hnm : meth.name = "trace") (hR : R.frames = dp ∧ R.locals = 60 * dp) (h1 : ox_Sem yX11_within cX11_within 3 (some .boolean) d1 f1) (e1 : d1 + 1 ≤ dp) (hrc : ∀ b, ox_S p l e R s m args below meth c g 2 c0 t0 (ox_QM g below args s c0 t0) b (rc b)) : ox_S p l e R s m args below meth c g 2 c0 t0 (ox_QM g below args s c0 t0) 25 (bX11_trace_25 f1 rc) := by
  exact s_iret (pc := 25) C hr hlk dX11_trace_25
end SX11_trace
def bsX11_trace (f1 : ox_F) (b : Nat) (rc : Nat → ox_K) : ox_K := if b = 0 then bX11_trace_0 f1 rc else if b = 23 then bX11_trace_23 f1 rc else if b = 25 then bX11_trace_25 f1 rc else ox_no
theorem mX11_trace {dp d1 : Nat} {f1 f : ox_F} (h1 : ox_Sem yX11_within cX11_within 3 (some .boolean) d1 f1) (e1 : d1 + 1 ≤ dp) (hf : ∀ as h r, f as h = some r → ox_cs as ≤ 2 ∧ ox_le h r.2 ∧ ∃ n, ox_run (bsX11_trace f1) n 0 (lv_args 0 as) [] h = some r) : ox_Sem yX11_trace cX11_trace 2 (some .int) dp f := by
  refine ox_meth (bs := bsX11_trace f1) (by decide) hf ?_
  intro p l e R s m args below meth c g c0 t0 C hr hlk hnm hR rc hrc b
  unfold bsX11_trace
  refine ox_br (kX11_trace_0 C hr hlk hnm hR h1 e1 hrc) ?_
  refine ox_br (kX11_trace_23 C hr hlk hnm hR h1 e1 hrc) ?_
  refine ox_br (kX11_trace_25 C hr hlk hnm hR h1 e1 hrc) ?_
  exact s_no
theorem dX11_count_0 : decode cX11_count 0 = .ok (.iload_n 1, 1) := by decide +kernel
theorem dX11_count_1 : decode cX11_count 1 = .ok (.tableswitch 118 0 7 #[47, 52, 60, 68, 76, 84, 92, 107], 47) := by decide +kernel
theorem dX11_count_48 : decode cX11_count 48 = .ok (.aload_n 0, 1) := by decide +kernel
theorem dX11_count_49 : decode cX11_count 49 = .ok (.invokevirtual 346, 3) := by decide +kernel
theorem dX11_count_52 : decode cX11_count 52 = .ok (.ireturn, 1) := by decide +kernel
theorem dX11_count_53 : decode cX11_count 53 = .ok (.aload_n 0, 1) := by decide +kernel
theorem dX11_count_54 : decode cX11_count 54 = .ok (.getfield 18, 3) := by decide +kernel
theorem dX11_count_57 : decode cX11_count 57 = .ok (.getfield 137, 3) := by decide +kernel
theorem dX11_count_60 : decode cX11_count 60 = .ok (.ireturn, 1) := by decide +kernel
theorem dX11_count_61 : decode cX11_count 61 = .ok (.aload_n 0, 1) := by decide +kernel
theorem dX11_count_62 : decode cX11_count 62 = .ok (.getfield 49, 3) := by decide +kernel
theorem dX11_count_65 : decode cX11_count 65 = .ok (.getfield 233, 3) := by decide +kernel
theorem dX11_count_68 : decode cX11_count 68 = .ok (.ireturn, 1) := by decide +kernel
theorem dX11_count_69 : decode cX11_count 69 = .ok (.aload_n 0, 1) := by decide +kernel
theorem dX11_count_70 : decode cX11_count 70 = .ok (.getfield 42, 3) := by decide +kernel
theorem dX11_count_73 : decode cX11_count 73 = .ok (.getfield 349, 3) := by decide +kernel
theorem dX11_count_76 : decode cX11_count 76 = .ok (.ireturn, 1) := by decide +kernel
theorem dX11_count_77 : decode cX11_count 77 = .ok (.aload_n 0, 1) := by decide +kernel
theorem dX11_count_78 : decode cX11_count 78 = .ok (.getfield 42, 3) := by decide +kernel
theorem dX11_count_81 : decode cX11_count 81 = .ok (.getfield 352, 3) := by decide +kernel
theorem dX11_count_84 : decode cX11_count 84 = .ok (.ireturn, 1) := by decide +kernel
theorem dX11_count_85 : decode cX11_count 85 = .ok (.aload_n 0, 1) := by decide +kernel
theorem dX11_count_86 : decode cX11_count 86 = .ok (.getfield 42, 3) := by decide +kernel
theorem dX11_count_89 : decode cX11_count 89 = .ok (.invokevirtual 218, 3) := by decide +kernel
theorem dX11_count_92 : decode cX11_count 92 = .ok (.ireturn, 1) := by decide +kernel
theorem dX11_count_93 : decode cX11_count 93 = .ok (.aload_n 0, 1) := by decide +kernel
theorem dX11_count_94 : decode cX11_count 94 = .ok (.getfield 49, 3) := by decide +kernel
theorem dX11_count_97 : decode cX11_count 97 = .ok (.aload_n 0, 1) := by decide +kernel
theorem dX11_count_98 : decode cX11_count 98 = .ok (.getfield 49, 3) := by decide +kernel
theorem dX11_count_101 : decode cX11_count 101 = .ok (.getfield 298, 3) := by decide +kernel
theorem dX11_count_104 : decode cX11_count 104 = .ok (.invokevirtual 301, 3) := by decide +kernel
theorem dX11_count_107 : decode cX11_count 107 = .ok (.ireturn, 1) := by decide +kernel
theorem dX11_count_108 : decode cX11_count 108 = .ok (.aload_n 0, 1) := by decide +kernel
theorem dX11_count_109 : decode cX11_count 109 = .ok (.getfield 18, 3) := by decide +kernel
theorem dX11_count_112 : decode cX11_count 112 = .ok (.getfield 116, 3) := by decide +kernel
theorem dX11_count_115 : decode cX11_count 115 = .ok (.getfield 130, 3) := by decide +kernel
theorem dX11_count_118 : decode cX11_count 118 = .ok (.ireturn, 1) := by decide +kernel
theorem dX11_count_119 : decode cX11_count 119 = .ok (.ldc 73, 2) := by decide +kernel
theorem dX11_count_121 : decode cX11_count 121 = .ok (.ireturn, 1) := by decide +kernel
def bX11_count_0 (f1 f2 f3 : ox_F) (rc : Nat → ox_K) : ox_K := o_il 1 (o_tsw 0 [rc 48, rc 53, rc 61, rc 69, rc 77, rc 85, rc 93, rc 108] (rc 119))
def bX11_count_48 (f1 f2 f3 : ox_F) (rc : Nat → ox_K) : ox_K := o_al 0 (o_cv f1 11 0 (o_iret))
def bX11_count_53 (f1 f2 f3 : ox_F) (rc : Nat → ox_K) : ox_K := o_al 0 (o_getr 11 1 (o_geti 3 2 (o_iret)))
def bX11_count_61 (f1 f2 f3 : ox_F) (rc : Nat → ox_K) : ox_K := o_al 0 (o_getr 11 6 (o_geti 1 2 (o_iret)))
def bX11_count_69 (f1 f2 f3 : ox_F) (rc : Nat → ox_K) : ox_K := o_al 0 (o_getr 11 5 (o_geti 2 4 (o_iret)))
def bX11_count_77 (f1 f2 f3 : ox_F) (rc : Nat → ox_K) : ox_K := o_al 0 (o_getr 11 5 (o_geti 2 5 (o_iret)))
def bX11_count_85 (f1 f2 f3 : ox_F) (rc : Nat → ox_K) : ox_K := o_al 0 (o_getr 11 5 (o_cv f2 2 0 (o_iret)))
def bX11_count_93 (f1 f2 f3 : ox_F) (rc : Nat → ox_K) : ox_K := o_al 0 (o_getr 11 6 (o_al 0 (o_getr 11 6 (o_geti 1 5 (o_cv f3 1 1 (o_iret))))))
def bX11_count_108 (f1 f2 f3 : ox_F) (rc : Nat → ox_K) : ox_K := o_al 0 (o_getr 11 1 (o_getr 3 0 (o_geti 10 1 (o_iret))))
def bX11_count_119 (f1 f2 f3 : ox_F) (rc : Nat → ox_K) : ox_K := o_ic (-1000001) (o_iret)
section SX11_count
variable {p : Program} {l : Launch} {e : Env} {R : Room} {s : State} {m : MethodId} {args : Array Value} {below : List Frame} {meth : Method} {c : Code} {g : ox_G} {c0 t0 dp d1 d2 d3 : Nat} {rc : Nat → ox_K} {f1 f2 f3 : ox_F}
set_option maxRecDepth 100000 in
theorem kX11_count_0 (C : ox_C p s m args c g 2 cX11_count RX11) (hr : meth.sig.returnType = (some .int)) (hlk : meth.locks = false) (hnm : meth.name = "count") (hR : R.frames = dp ∧ R.locals = 60 * dp) (h1 : ox_Sem yX11_sheetsThere cX11_sheetsThere 3 (some .int) d1 f1) (e1 : d1 + 1 ≤ dp) (h2 : ox_Sem yX2_fullMoulds cX2_fullMoulds 3 (some .int) d2 f2) (e2 : d2 + 1 ≤ dp) (h3 : ox_Sem yX1_keptWith cX1_keptWith 4 (some .int) d3 f3) (e3 : d3 + 1 ≤ dp) (hrc : ∀ b, ox_S p l e R s m args below meth c g 2 c0 t0 (ox_QM g below args s c0 t0) b (rc b)) : ox_S p l e R s m args below meth c g 2 c0 t0 (ox_QM g below args s c0 t0) 0 (bX11_count_0 f1 f2 f3 rc) := by
  refine s_iload_n (pc := 0) C dX11_count_0 rfl ?_
  exact s_tsw (pc := 1) 119 [48, 53, 61, 69, 77, 85, 93, 108] C dX11_count_1 (by decide) rfl (by decide +kernel) (hrc 119) (ox_ts hrc [48, 53, 61, 69, 77, 85, 93, 108]) rfl
set_option maxRecDepth 100000 in
theorem kX11_count_48 (C : ox_C p s m args c g 2 cX11_count RX11) (hr : meth.sig.returnType = (some .int)) (hlk : meth.locks = false) (hnm : meth.name = "count") (hR : R.frames = dp ∧ R.locals = 60 * dp) (h1 : ox_Sem yX11_sheetsThere cX11_sheetsThere 3 (some .int) d1 f1) (e1 : d1 + 1 ≤ dp) (h2 : ox_Sem yX2_fullMoulds cX2_fullMoulds 3 (some .int) d2 f2) (e2 : d2 + 1 ≤ dp) (h3 : ox_Sem yX1_keptWith cX1_keptWith 4 (some .int) d3 f3) (e3 : d3 + 1 ≤ dp) (hrc : ∀ b, ox_S p l e R s m args below meth c g 2 c0 t0 (ox_QM g below args s c0 t0) b (rc b)) : ox_S p l e R s m args below meth c g 2 c0 t0 (ox_QM g below args s c0 t0) 48 (bX11_count_48 f1 f2 f3 rc) := by
  refine s_aload_n (pc := 48) C dX11_count_48 rfl ?_
  refine s_cv (pc := 49) (q := (RX11, TX11, 13)) C h1 rfl wM_X11_346 wI_X11_sheetsThere wS_X11_sheetsThere wN_X11 wC_X11_sheetsThere (by decide +kernel) (ox_lv hR e1 (by decide)) dX11_count_49 ?_
  exact s_iret (pc := 52) C hr hlk dX11_count_52
set_option maxRecDepth 100000 in
theorem kX11_count_53 (C : ox_C p s m args c g 2 cX11_count RX11) (hr : meth.sig.returnType = (some .int)) (hlk : meth.locks = false) (hnm : meth.name = "count") (hR : R.frames = dp ∧ R.locals = 60 * dp) (h1 : ox_Sem yX11_sheetsThere cX11_sheetsThere 3 (some .int) d1 f1) (e1 : d1 + 1 ≤ dp) (h2 : ox_Sem yX2_fullMoulds cX2_fullMoulds 3 (some .int) d2 f2) (e2 : d2 + 1 ≤ dp) (h3 : ox_Sem yX1_keptWith cX1_keptWith 4 (some .int) d3 f3) (e3 : d3 + 1 ≤ dp) (hrc : ∀ b, ox_S p l e R s m args below meth c g 2 c0 t0 (ox_QM g below args s c0 t0) b (rc b)) : ox_S p l e R s m args below meth c g 2 c0 t0 (ox_QM g below args s c0 t0) 53 (bX11_count_53 f1 f2 f3 rc) := by
  refine s_aload_n (pc := 53) C dX11_count_53 rfl ?_
  refine s_getr (pc := 54) (j := 1) (q := (RX11, TX11, 13)) C rfl (by decide) rfl wF_X11_18 dX11_count_54 ?_
  refine s_geti (pc := 57) (j := 2) (q := (RX3, TX3, 6)) C rfl (by decide) rfl wF_X11_137 dX11_count_57 ?_
  exact s_iret (pc := 60) C hr hlk dX11_count_60
set_option maxRecDepth 100000 in
theorem kX11_count_61 (C : ox_C p s m args c g 2 cX11_count RX11) (hr : meth.sig.returnType = (some .int)) (hlk : meth.locks = false) (hnm : meth.name = "count") (hR : R.frames = dp ∧ R.locals = 60 * dp) (h1 : ox_Sem yX11_sheetsThere cX11_sheetsThere 3 (some .int) d1 f1) (e1 : d1 + 1 ≤ dp) (h2 : ox_Sem yX2_fullMoulds cX2_fullMoulds 3 (some .int) d2 f2) (e2 : d2 + 1 ≤ dp) (h3 : ox_Sem yX1_keptWith cX1_keptWith 4 (some .int) d3 f3) (e3 : d3 + 1 ≤ dp) (hrc : ∀ b, ox_S p l e R s m args below meth c g 2 c0 t0 (ox_QM g below args s c0 t0) b (rc b)) : ox_S p l e R s m args below meth c g 2 c0 t0 (ox_QM g below args s c0 t0) 61 (bX11_count_61 f1 f2 f3 rc) := by
  refine s_aload_n (pc := 61) C dX11_count_61 rfl ?_
  refine s_getr (pc := 62) (j := 6) (q := (RX11, TX11, 13)) C rfl (by decide) rfl wF_X11_49 dX11_count_62 ?_
  refine s_geti (pc := 65) (j := 2) (q := (RX1, TX1, 7)) C rfl (by decide) rfl wF_X11_233 dX11_count_65 ?_
  exact s_iret (pc := 68) C hr hlk dX11_count_68
set_option maxRecDepth 100000 in
theorem kX11_count_69 (C : ox_C p s m args c g 2 cX11_count RX11) (hr : meth.sig.returnType = (some .int)) (hlk : meth.locks = false) (hnm : meth.name = "count") (hR : R.frames = dp ∧ R.locals = 60 * dp) (h1 : ox_Sem yX11_sheetsThere cX11_sheetsThere 3 (some .int) d1 f1) (e1 : d1 + 1 ≤ dp) (h2 : ox_Sem yX2_fullMoulds cX2_fullMoulds 3 (some .int) d2 f2) (e2 : d2 + 1 ≤ dp) (h3 : ox_Sem yX1_keptWith cX1_keptWith 4 (some .int) d3 f3) (e3 : d3 + 1 ≤ dp) (hrc : ∀ b, ox_S p l e R s m args below meth c g 2 c0 t0 (ox_QM g below args s c0 t0) b (rc b)) : ox_S p l e R s m args below meth c g 2 c0 t0 (ox_QM g below args s c0 t0) 69 (bX11_count_69 f1 f2 f3 rc) := by
  refine s_aload_n (pc := 69) C dX11_count_69 rfl ?_
  refine s_getr (pc := 70) (j := 5) (q := (RX11, TX11, 13)) C rfl (by decide) rfl wF_X11_42 dX11_count_70 ?_
  refine s_geti (pc := 73) (j := 4) (q := (RX2, TX2, 6)) C rfl (by decide) rfl wF_X11_349 dX11_count_73 ?_
  exact s_iret (pc := 76) C hr hlk dX11_count_76
set_option maxRecDepth 100000 in
theorem kX11_count_77 (C : ox_C p s m args c g 2 cX11_count RX11) (hr : meth.sig.returnType = (some .int)) (hlk : meth.locks = false) (hnm : meth.name = "count") (hR : R.frames = dp ∧ R.locals = 60 * dp) (h1 : ox_Sem yX11_sheetsThere cX11_sheetsThere 3 (some .int) d1 f1) (e1 : d1 + 1 ≤ dp) (h2 : ox_Sem yX2_fullMoulds cX2_fullMoulds 3 (some .int) d2 f2) (e2 : d2 + 1 ≤ dp) (h3 : ox_Sem yX1_keptWith cX1_keptWith 4 (some .int) d3 f3) (e3 : d3 + 1 ≤ dp) (hrc : ∀ b, ox_S p l e R s m args below meth c g 2 c0 t0 (ox_QM g below args s c0 t0) b (rc b)) : ox_S p l e R s m args below meth c g 2 c0 t0 (ox_QM g below args s c0 t0) 77 (bX11_count_77 f1 f2 f3 rc) := by
  refine s_aload_n (pc := 77) C dX11_count_77 rfl ?_
  refine s_getr (pc := 78) (j := 5) (q := (RX11, TX11, 13)) C rfl (by decide) rfl wF_X11_42 dX11_count_78 ?_
  refine s_geti (pc := 81) (j := 5) (q := (RX2, TX2, 6)) C rfl (by decide) rfl wF_X11_352 dX11_count_81 ?_
  exact s_iret (pc := 84) C hr hlk dX11_count_84
set_option maxRecDepth 100000 in
theorem kX11_count_85 (C : ox_C p s m args c g 2 cX11_count RX11) (hr : meth.sig.returnType = (some .int)) (hlk : meth.locks = false) (hnm : meth.name = "count") (hR : R.frames = dp ∧ R.locals = 60 * dp) (h1 : ox_Sem yX11_sheetsThere cX11_sheetsThere 3 (some .int) d1 f1) (e1 : d1 + 1 ≤ dp) (h2 : ox_Sem yX2_fullMoulds cX2_fullMoulds 3 (some .int) d2 f2) (e2 : d2 + 1 ≤ dp) (h3 : ox_Sem yX1_keptWith cX1_keptWith 4 (some .int) d3 f3) (e3 : d3 + 1 ≤ dp) (hrc : ∀ b, ox_S p l e R s m args below meth c g 2 c0 t0 (ox_QM g below args s c0 t0) b (rc b)) : ox_S p l e R s m args below meth c g 2 c0 t0 (ox_QM g below args s c0 t0) 85 (bX11_count_85 f1 f2 f3 rc) := by
  refine s_aload_n (pc := 85) C dX11_count_85 rfl ?_
  refine s_getr (pc := 86) (j := 5) (q := (RX11, TX11, 13)) C rfl (by decide) rfl wF_X11_42 dX11_count_86 ?_
  refine s_cv (pc := 89) (q := (RX2, TX2, 6)) C h2 rfl wM_X11_218 wI_X2_fullMoulds wS_X2_fullMoulds wN_X2 wC_X2_fullMoulds (by decide +kernel) (ox_lv hR e2 (by decide)) dX11_count_89 ?_
  exact s_iret (pc := 92) C hr hlk dX11_count_92
set_option maxRecDepth 100000 in
theorem kX11_count_93 (C : ox_C p s m args c g 2 cX11_count RX11) (hr : meth.sig.returnType = (some .int)) (hlk : meth.locks = false) (hnm : meth.name = "count") (hR : R.frames = dp ∧ R.locals = 60 * dp) (h1 : ox_Sem yX11_sheetsThere cX11_sheetsThere 3 (some .int) d1 f1) (e1 : d1 + 1 ≤ dp) (h2 : ox_Sem yX2_fullMoulds cX2_fullMoulds 3 (some .int) d2 f2) (e2 : d2 + 1 ≤ dp) (h3 : ox_Sem yX1_keptWith cX1_keptWith 4 (some .int) d3 f3) (e3 : d3 + 1 ≤ dp) (hrc : ∀ b, ox_S p l e R s m args below meth c g 2 c0 t0 (ox_QM g below args s c0 t0) b (rc b)) : ox_S p l e R s m args below meth c g 2 c0 t0 (ox_QM g below args s c0 t0) 93 (bX11_count_93 f1 f2 f3 rc) := by
  refine s_aload_n (pc := 93) C dX11_count_93 rfl ?_
  refine s_getr (pc := 94) (j := 6) (q := (RX11, TX11, 13)) C rfl (by decide) rfl wF_X11_49 dX11_count_94 ?_
  refine s_aload_n (pc := 97) C dX11_count_97 rfl ?_
  refine s_getr (pc := 98) (j := 6) (q := (RX11, TX11, 13)) C rfl (by decide) rfl wF_X11_49 dX11_count_98 ?_
  refine s_geti (pc := 101) (j := 5) (q := (RX1, TX1, 7)) C rfl (by decide) rfl wF_X11_298 dX11_count_101 ?_
  refine s_cv (pc := 104) (q := (RX1, TX1, 7)) C h3 rfl wM_X11_301 wI_X1_keptWith wS_X1_keptWith wN_X1 wC_X1_keptWith (by decide +kernel) (ox_lv hR e3 (by decide)) dX11_count_104 ?_
  exact s_iret (pc := 107) C hr hlk dX11_count_107
set_option maxRecDepth 100000 in
theorem kX11_count_108 (C : ox_C p s m args c g 2 cX11_count RX11) (hr : meth.sig.returnType = (some .int)) (hlk : meth.locks = false) (hnm : meth.name = "count") (hR : R.frames = dp ∧ R.locals = 60 * dp) (h1 : ox_Sem yX11_sheetsThere cX11_sheetsThere 3 (some .int) d1 f1) (e1 : d1 + 1 ≤ dp) (h2 : ox_Sem yX2_fullMoulds cX2_fullMoulds 3 (some .int) d2 f2) (e2 : d2 + 1 ≤ dp) (h3 : ox_Sem yX1_keptWith cX1_keptWith 4 (some .int) d3 f3) (e3 : d3 + 1 ≤ dp) (hrc : ∀ b, ox_S p l e R s m args below meth c g 2 c0 t0 (ox_QM g below args s c0 t0) b (rc b)) : ox_S p l e R s m args below meth c g 2 c0 t0 (ox_QM g below args s c0 t0) 108 (bX11_count_108 f1 f2 f3 rc) := by
  refine s_aload_n (pc := 108) C dX11_count_108 rfl ?_
  refine s_getr (pc := 109) (j := 1) (q := (RX11, TX11, 13)) C rfl (by decide) rfl wF_X11_18 dX11_count_109 ?_
  refine s_getr (pc := 112) (j := 0) (q := (RX3, TX3, 6)) C rfl (by decide) rfl wF_X11_116 dX11_count_112 ?_
  refine s_geti (pc := 115) (j := 1) (q := (RX10, TX10, 6)) C rfl (by decide) rfl wF_X11_130 dX11_count_115 ?_
  exact s_iret (pc := 118) C hr hlk dX11_count_118
set_option maxRecDepth 100000 in
theorem kX11_count_119 (C : ox_C p s m args c g 2 cX11_count RX11) (hr : meth.sig.returnType = (some .int)) (hlk : meth.locks = false) (hnm : meth.name = "count") (hR : R.frames = dp ∧ R.locals = 60 * dp) (h1 : ox_Sem yX11_sheetsThere cX11_sheetsThere 3 (some .int) d1 f1) (e1 : d1 + 1 ≤ dp) (h2 : ox_Sem yX2_fullMoulds cX2_fullMoulds 3 (some .int) d2 f2) (e2 : d2 + 1 ≤ dp) (h3 : ox_Sem yX1_keptWith cX1_keptWith 4 (some .int) d3 f3) (e3 : d3 + 1 ≤ dp) (hrc : ∀ b, ox_S p l e R s m args below meth c g 2 c0 t0 (ox_QM g below args s c0 t0) b (rc b)) : ox_S p l e R s m args below meth c g 2 c0 t0 (ox_QM g below args s c0 t0) 119 (bX11_count_119 f1 f2 f3 rc) := by
  refine s_ldc (pc := 119) C wK_X11_73 dX11_count_119 ?_
  exact s_iret (pc := 121) C hr hlk dX11_count_121
end SX11_count
def bsX11_count (f1 f2 f3 : ox_F) (b : Nat) (rc : Nat → ox_K) : ox_K := if b = 0 then bX11_count_0 f1 f2 f3 rc else if b = 48 then bX11_count_48 f1 f2 f3 rc else if b = 53 then bX11_count_53 f1 f2 f3 rc else if b = 61 then bX11_count_61 f1 f2 f3 rc else if b = 69 then bX11_count_69 f1 f2 f3 rc else if b = 77 then bX11_count_77 f1 f2 f3 rc else if b = 85 then bX11_count_85 f1 f2 f3 rc else if b = 93 then bX11_count_93 f1 f2 f3 rc else if b = 108 then bX11_count_108 f1 f2 f3 rc else if b = 119 then bX11_count_119 f1 f2 f3 rc else ox_no
theorem mX11_count {dp d1 d2 d3 : Nat} {f1 f2 f3 f : ox_F} (h1 : ox_Sem yX11_sheetsThere cX11_sheetsThere 3 (some .int) d1 f1) (e1 : d1 + 1 ≤ dp) (h2 : ox_Sem yX2_fullMoulds cX2_fullMoulds 3 (some .int) d2 f2) (e2 : d2 + 1 ≤ dp) (h3 : ox_Sem yX1_keptWith cX1_keptWith 4 (some .int) d3 f3) (e3 : d3 + 1 ≤ dp) (hf : ∀ as h r, f as h = some r → ox_cs as ≤ 2 ∧ ox_le h r.2 ∧ ∃ n, ox_run (bsX11_count f1 f2 f3) n 0 (lv_args 0 as) [] h = some r) : ox_Sem yX11_count cX11_count 2 (some .int) dp f := by
  refine ox_meth (bs := bsX11_count f1 f2 f3) (by decide) hf ?_
  intro p l e R s m args below meth c g c0 t0 C hr hlk hnm hR rc hrc b
  unfold bsX11_count
  refine ox_br (kX11_count_0 C hr hlk hnm hR h1 e1 h2 e2 h3 e3 hrc) ?_
  refine ox_br (kX11_count_48 C hr hlk hnm hR h1 e1 h2 e2 h3 e3 hrc) ?_
  refine ox_br (kX11_count_53 C hr hlk hnm hR h1 e1 h2 e2 h3 e3 hrc) ?_
  refine ox_br (kX11_count_61 C hr hlk hnm hR h1 e1 h2 e2 h3 e3 hrc) ?_
  refine ox_br (kX11_count_69 C hr hlk hnm hR h1 e1 h2 e2 h3 e3 hrc) ?_
  refine ox_br (kX11_count_77 C hr hlk hnm hR h1 e1 h2 e2 h3 e3 hrc) ?_
  refine ox_br (kX11_count_85 C hr hlk hnm hR h1 e1 h2 e2 h3 e3 hrc) ?_
  refine ox_br (kX11_count_93 C hr hlk hnm hR h1 e1 h2 e2 h3 e3 hrc) ?_
  refine ox_br (kX11_count_108 C hr hlk hnm hR h1 e1 h2 e2 h3 e3 hrc) ?_
  refine ox_br (kX11_count_119 C hr hlk hnm hR h1 e1 h2 e2 h3 e3 hrc) ?_
  exact s_no
theorem dX11_status_0 : decode cX11_status 0 = .ok (.aload_n 0, 1) := by decide +kernel
theorem dX11_status_1 : decode cX11_status 1 = .ok (.getfield 355, 3) := by decide +kernel
theorem dX11_status_4 : decode cX11_status 4 = .ok (.ireturn, 1) := by decide +kernel
def bX11_status_0 (rc : Nat → ox_K) : ox_K := o_al 0 (o_geti 11 12 (o_iret))
section SX11_status
variable {p : Program} {l : Launch} {e : Env} {R : Room} {s : State} {m : MethodId} {args : Array Value} {below : List Frame} {meth : Method} {c : Code} {g : ox_G} {c0 t0 dp  : Nat} {rc : Nat → ox_K}
set_option maxRecDepth 100000 in
theorem kX11_status_0 (C : ox_C p s m args c g 1 cX11_status RX11) (hr : meth.sig.returnType = (some .int)) (hlk : meth.locks = false) (hnm : meth.name = "status") (hR : R.frames = dp ∧ R.locals = 60 * dp) (hrc : ∀ b, ox_S p l e R s m args below meth c g 1 c0 t0 (ox_QM g below args s c0 t0) b (rc b)) : ox_S p l e R s m args below meth c g 1 c0 t0 (ox_QM g below args s c0 t0) 0 (bX11_status_0 rc) := by
  refine s_aload_n (pc := 0) C dX11_status_0 rfl ?_
  refine s_geti (pc := 1) (j := 12) (q := (RX11, TX11, 13)) C rfl (by decide) rfl wF_X11_355 dX11_status_1 ?_
  exact s_iret (pc := 4) C hr hlk dX11_status_4
end SX11_status
def bsX11_status (b : Nat) (rc : Nat → ox_K) : ox_K := if b = 0 then bX11_status_0 rc else ox_no
theorem mX11_status {dp  : Nat} {f : ox_F} (hf : ∀ as h r, f as h = some r → ox_cs as ≤ 1 ∧ ox_le h r.2 ∧ ∃ n, ox_run (bsX11_status) n 0 (lv_args 0 as) [] h = some r) : ox_Sem yX11_status cX11_status 1 (some .int) dp f := by
  refine ox_meth (bs := bsX11_status) (by decide) hf ?_
  intro p l e R s m args below meth c g c0 t0 C hr hlk hnm hR rc hrc b
  unfold bsX11_status
  refine ox_br (kX11_status_0 C hr hlk hnm hR hrc) ?_
  exact s_no
theorem dX11_within_0 : decode cX11_within 0 = .ok (.iload_n 0, 1) := by decide +kernel
theorem dX11_within_1 : decode cX11_within 1 = .ok (.iload_n 1, 1) := by decide +kernel
theorem dX11_within_2 : decode cX11_within 2 = .ok (.if_icmp .lt 12, 3) := by decide +kernel
theorem dX11_within_5 : decode cX11_within 5 = .ok (.iload_n 0, 1) := by decide +kernel
theorem dX11_within_6 : decode cX11_within 6 = .ok (.iload_n 2, 1) := by decide +kernel
theorem dX11_within_7 : decode cX11_within 7 = .ok (.if_icmp .gt 7, 3) := by decide +kernel
theorem dX11_within_10 : decode cX11_within 10 = .ok (.iconst 1, 1) := by decide +kernel
theorem dX11_within_11 : decode cX11_within 11 = .ok (.goto 4, 3) := by decide +kernel
theorem dX11_within_14 : decode cX11_within 14 = .ok (.iconst 0, 1) := by decide +kernel
theorem dX11_within_15 : decode cX11_within 15 = .ok (.ireturn, 1) := by decide +kernel
def bX11_within_0 (rc : Nat → ox_K) : ox_K := o_il 0 (o_il 1 (o_iclt (rc 14) (o_il 0 (o_il 2 (o_icgt (rc 14) (o_ic (1) (rc 15)))))))
def bX11_within_14 (rc : Nat → ox_K) : ox_K := o_ic (0) (rc 15)
def bX11_within_15 (rc : Nat → ox_K) : ox_K := o_zret
section SX11_within
variable {p : Program} {l : Launch} {e : Env} {R : Room} {s : State} {m : MethodId} {args : Array Value} {below : List Frame} {meth : Method} {c : Code} {g : ox_G} {c0 t0 dp  : Nat} {rc : Nat → ox_K}
set_option maxRecDepth 100000 in
theorem kX11_within_0 (C : ox_C p s m args c g 3 cX11_within RX11) (hr : meth.sig.returnType = (some .boolean)) (hlk : meth.locks = false) (hnm : meth.name = "within") (hR : R.frames = dp ∧ R.locals = 60 * dp) (hrc : ∀ b, ox_S p l e R s m args below meth c g 3 c0 t0 (ox_QM g below args s c0 t0) b (rc b)) : ox_S p l e R s m args below meth c g 3 c0 t0 (ox_QM g below args s c0 t0) 0 (bX11_within_0 rc) := by
  refine s_iload_n (pc := 0) C dX11_within_0 rfl ?_
  refine s_iload_n (pc := 1) C dX11_within_1 rfl ?_
  refine s_icmplt (pc := 2) 14 C dX11_within_2 (by decide) (hrc 14) ?_
  refine s_iload_n (pc := 5) C dX11_within_5 rfl ?_
  refine s_iload_n (pc := 6) C dX11_within_6 rfl ?_
  refine s_icmpgt (pc := 7) 14 C dX11_within_7 (by decide) (hrc 14) ?_
  refine s_iconst (pc := 10) C dX11_within_10 (by decide) ?_
  exact s_goto (pc := 11) 15 C dX11_within_11 (by decide) (hrc 15)
set_option maxRecDepth 100000 in
theorem kX11_within_14 (C : ox_C p s m args c g 3 cX11_within RX11) (hr : meth.sig.returnType = (some .boolean)) (hlk : meth.locks = false) (hnm : meth.name = "within") (hR : R.frames = dp ∧ R.locals = 60 * dp) (hrc : ∀ b, ox_S p l e R s m args below meth c g 3 c0 t0 (ox_QM g below args s c0 t0) b (rc b)) : ox_S p l e R s m args below meth c g 3 c0 t0 (ox_QM g below args s c0 t0) 14 (bX11_within_14 rc) := by
  refine s_iconst (pc := 14) C dX11_within_14 (by decide) ?_
  exact hrc 15
set_option maxRecDepth 100000 in
theorem kX11_within_15 (C : ox_C p s m args c g 3 cX11_within RX11) (hr : meth.sig.returnType = (some .boolean)) (hlk : meth.locks = false) (hnm : meth.name = "within") (hR : R.frames = dp ∧ R.locals = 60 * dp) (hrc : ∀ b, ox_S p l e R s m args below meth c g 3 c0 t0 (ox_QM g below args s c0 t0) b (rc b)) : ox_S p l e R s m args below meth c g 3 c0 t0 (ox_QM g below args s c0 t0) 15 (bX11_within_15 rc) := by
  exact s_zret (pc := 15) C hr (by decide) hlk dX11_within_15
end SX11_within
def bsX11_within (b : Nat) (rc : Nat → ox_K) : ox_K := if b = 0 then bX11_within_0 rc else if b = 14 then bX11_within_14 rc else if b = 15 then bX11_within_15 rc else ox_no
theorem mX11_within {dp  : Nat} {f : ox_F} (hf : ∀ as h r, f as h = some r → ox_cs as ≤ 3 ∧ ox_le h r.2 ∧ ∃ n, ox_run (bsX11_within) n 0 (lv_args 0 as) [] h = some r) : ox_Sem yX11_within cX11_within 3 (some .boolean) dp f := by
  refine ox_meth (bs := bsX11_within) (by decide) hf ?_
  intro p l e R s m args below meth c g c0 t0 C hr hlk hnm hR rc hrc b
  unfold bsX11_within
  refine ox_br (kX11_within_0 C hr hlk hnm hR hrc) ?_
  refine ox_br (kX11_within_14 C hr hlk hnm hR hrc) ?_
  refine ox_br (kX11_within_15 C hr hlk hnm hR hrc) ?_
  exact s_no
theorem dX11_isSheet_0 : decode cX11_isSheet 0 = .ok (.iload_n 0, 1) := by decide +kernel
theorem dX11_isSheet_1 : decode cX11_isSheet 1 = .ok (.iconst 0, 1) := by decide +kernel
theorem dX11_isSheet_2 : decode cX11_isSheet 2 = .ok (.bipush 7, 2) := by decide +kernel
theorem dX11_isSheet_4 : decode cX11_isSheet 4 = .ok (.invokestatic 69, 3) := by decide +kernel
theorem dX11_isSheet_7 : decode cX11_isSheet 7 = .ok (.ireturn, 1) := by decide +kernel
def bX11_isSheet_0 (f1 : ox_F) (rc : Nat → ox_K) : ox_K := o_il 0 (o_ic (0) (o_ic (7) (o_ct f1 3 (o_zret))))
section SX11_isSheet
variable {p : Program} {l : Launch} {e : Env} {R : Room} {s : State} {m : MethodId} {args : Array Value} {below : List Frame} {meth : Method} {c : Code} {g : ox_G} {c0 t0 dp d1 : Nat} {rc : Nat → ox_K} {f1 : ox_F}
set_option maxRecDepth 100000 in
theorem kX11_isSheet_0 (C : ox_C p s m args c g 1 cX11_isSheet RX11) (hr : meth.sig.returnType = (some .boolean)) (hlk : meth.locks = false) (hnm : meth.name = "isSheet") (hR : R.frames = dp ∧ R.locals = 60 * dp) (h1 : ox_Sem yX11_within cX11_within 3 (some .boolean) d1 f1) (e1 : d1 + 1 ≤ dp) (hrc : ∀ b, ox_S p l e R s m args below meth c g 1 c0 t0 (ox_QM g below args s c0 t0) b (rc b)) : ox_S p l e R s m args below meth c g 1 c0 t0 (ox_QM g below args s c0 t0) 0 (bX11_isSheet_0 f1 rc) := by
  refine s_iload_n (pc := 0) C dX11_isSheet_0 rfl ?_
  refine s_iconst (pc := 1) C dX11_isSheet_1 (by decide) ?_
  refine s_bipush (pc := 2) C dX11_isSheet_2 (by decide) ?_
  refine s_ct (pc := 4) C h1 wM_X11_69 wT_X11_within wN_X11 wC_X11_within (by decide +kernel) (ox_lv hR e1 (by decide)) dX11_isSheet_4 ?_
  exact s_zret (pc := 7) C hr (by decide) hlk dX11_isSheet_7
end SX11_isSheet
def bsX11_isSheet (f1 : ox_F) (b : Nat) (rc : Nat → ox_K) : ox_K := if b = 0 then bX11_isSheet_0 f1 rc else ox_no
theorem mX11_isSheet {dp d1 : Nat} {f1 f : ox_F} (h1 : ox_Sem yX11_within cX11_within 3 (some .boolean) d1 f1) (e1 : d1 + 1 ≤ dp) (hf : ∀ as h r, f as h = some r → ox_cs as ≤ 1 ∧ ox_le h r.2 ∧ ∃ n, ox_run (bsX11_isSheet f1) n 0 (lv_args 0 as) [] h = some r) : ox_Sem yX11_isSheet cX11_isSheet 1 (some .boolean) dp f := by
  refine ox_meth (bs := bsX11_isSheet f1) (by decide) hf ?_
  intro p l e R s m args below meth c g c0 t0 C hr hlk hnm hR rc hrc b
  unfold bsX11_isSheet
  refine ox_br (kX11_isSheet_0 C hr hlk hnm hR h1 e1 hrc) ?_
  exact s_no
theorem dX11_isTank_0 : decode cX11_isTank 0 = .ok (.iload_n 0, 1) := by decide +kernel
theorem dX11_isTank_1 : decode cX11_isTank 1 = .ok (.iconst 0, 1) := by decide +kernel
theorem dX11_isTank_2 : decode cX11_isTank 2 = .ok (.iconst 3, 1) := by decide +kernel
theorem dX11_isTank_3 : decode cX11_isTank 3 = .ok (.invokestatic 69, 3) := by decide +kernel
theorem dX11_isTank_6 : decode cX11_isTank 6 = .ok (.ireturn, 1) := by decide +kernel
def bX11_isTank_0 (f1 : ox_F) (rc : Nat → ox_K) : ox_K := o_il 0 (o_ic (0) (o_ic (3) (o_ct f1 3 (o_zret))))
section SX11_isTank
variable {p : Program} {l : Launch} {e : Env} {R : Room} {s : State} {m : MethodId} {args : Array Value} {below : List Frame} {meth : Method} {c : Code} {g : ox_G} {c0 t0 dp d1 : Nat} {rc : Nat → ox_K} {f1 : ox_F}
set_option maxRecDepth 100000 in
theorem kX11_isTank_0 (C : ox_C p s m args c g 1 cX11_isTank RX11) (hr : meth.sig.returnType = (some .boolean)) (hlk : meth.locks = false) (hnm : meth.name = "isTank") (hR : R.frames = dp ∧ R.locals = 60 * dp) (h1 : ox_Sem yX11_within cX11_within 3 (some .boolean) d1 f1) (e1 : d1 + 1 ≤ dp) (hrc : ∀ b, ox_S p l e R s m args below meth c g 1 c0 t0 (ox_QM g below args s c0 t0) b (rc b)) : ox_S p l e R s m args below meth c g 1 c0 t0 (ox_QM g below args s c0 t0) 0 (bX11_isTank_0 f1 rc) := by
  refine s_iload_n (pc := 0) C dX11_isTank_0 rfl ?_
  refine s_iconst (pc := 1) C dX11_isTank_1 (by decide) ?_
  refine s_iconst (pc := 2) C dX11_isTank_2 (by decide) ?_
  refine s_ct (pc := 3) C h1 wM_X11_69 wT_X11_within wN_X11 wC_X11_within (by decide +kernel) (ox_lv hR e1 (by decide)) dX11_isTank_3 ?_
  exact s_zret (pc := 6) C hr (by decide) hlk dX11_isTank_6
end SX11_isTank
def bsX11_isTank (f1 : ox_F) (b : Nat) (rc : Nat → ox_K) : ox_K := if b = 0 then bX11_isTank_0 f1 rc else ox_no
theorem mX11_isTank {dp d1 : Nat} {f1 f : ox_F} (h1 : ox_Sem yX11_within cX11_within 3 (some .boolean) d1 f1) (e1 : d1 + 1 ≤ dp) (hf : ∀ as h r, f as h = some r → ox_cs as ≤ 1 ∧ ox_le h r.2 ∧ ∃ n, ox_run (bsX11_isTank f1) n 0 (lv_args 0 as) [] h = some r) : ox_Sem yX11_isTank cX11_isTank 1 (some .boolean) dp f := by
  refine ox_meth (bs := bsX11_isTank f1) (by decide) hf ?_
  intro p l e R s m args below meth c g c0 t0 C hr hlk hnm hR rc hrc b
  unfold bsX11_isTank
  refine ox_br (kX11_isTank_0 C hr hlk hnm hR h1 e1 hrc) ?_
  exact s_no
theorem dX11_isLot_0 : decode cX11_isLot 0 = .ok (.iload_n 0, 1) := by decide +kernel
theorem dX11_isLot_1 : decode cX11_isLot 1 = .ok (.iconst 0, 1) := by decide +kernel
theorem dX11_isLot_2 : decode cX11_isLot 2 = .ok (.bipush 9, 2) := by decide +kernel
theorem dX11_isLot_4 : decode cX11_isLot 4 = .ok (.invokestatic 69, 3) := by decide +kernel
theorem dX11_isLot_7 : decode cX11_isLot 7 = .ok (.ireturn, 1) := by decide +kernel
def bX11_isLot_0 (f1 : ox_F) (rc : Nat → ox_K) : ox_K := o_il 0 (o_ic (0) (o_ic (9) (o_ct f1 3 (o_zret))))
section SX11_isLot
variable {p : Program} {l : Launch} {e : Env} {R : Room} {s : State} {m : MethodId} {args : Array Value} {below : List Frame} {meth : Method} {c : Code} {g : ox_G} {c0 t0 dp d1 : Nat} {rc : Nat → ox_K} {f1 : ox_F}
set_option maxRecDepth 100000 in
theorem kX11_isLot_0 (C : ox_C p s m args c g 1 cX11_isLot RX11) (hr : meth.sig.returnType = (some .boolean)) (hlk : meth.locks = false) (hnm : meth.name = "isLot") (hR : R.frames = dp ∧ R.locals = 60 * dp) (h1 : ox_Sem yX11_within cX11_within 3 (some .boolean) d1 f1) (e1 : d1 + 1 ≤ dp) (hrc : ∀ b, ox_S p l e R s m args below meth c g 1 c0 t0 (ox_QM g below args s c0 t0) b (rc b)) : ox_S p l e R s m args below meth c g 1 c0 t0 (ox_QM g below args s c0 t0) 0 (bX11_isLot_0 f1 rc) := by
  refine s_iload_n (pc := 0) C dX11_isLot_0 rfl ?_
  refine s_iconst (pc := 1) C dX11_isLot_1 (by decide) ?_
  refine s_bipush (pc := 2) C dX11_isLot_2 (by decide) ?_
  refine s_ct (pc := 4) C h1 wM_X11_69 wT_X11_within wN_X11 wC_X11_within (by decide +kernel) (ox_lv hR e1 (by decide)) dX11_isLot_4 ?_
  exact s_zret (pc := 7) C hr (by decide) hlk dX11_isLot_7
end SX11_isLot
def bsX11_isLot (f1 : ox_F) (b : Nat) (rc : Nat → ox_K) : ox_K := if b = 0 then bX11_isLot_0 f1 rc else ox_no
theorem mX11_isLot {dp d1 : Nat} {f1 f : ox_F} (h1 : ox_Sem yX11_within cX11_within 3 (some .boolean) d1 f1) (e1 : d1 + 1 ≤ dp) (hf : ∀ as h r, f as h = some r → ox_cs as ≤ 1 ∧ ox_le h r.2 ∧ ∃ n, ox_run (bsX11_isLot f1) n 0 (lv_args 0 as) [] h = some r) : ox_Sem yX11_isLot cX11_isLot 1 (some .boolean) dp f := by
  refine ox_meth (bs := bsX11_isLot f1) (by decide) hf ?_
  intro p l e R s m args below meth c g c0 t0 C hr hlk hnm hR rc hrc b
  unfold bsX11_isLot
  refine ox_br (kX11_isLot_0 C hr hlk hnm hR h1 e1 hrc) ?_
  exact s_no
theorem dX11_isRecipe_0 : decode cX11_isRecipe 0 = .ok (.iload_n 1, 1) := by decide +kernel
theorem dX11_isRecipe_1 : decode cX11_isRecipe 1 = .ok (.iconst 0, 1) := by decide +kernel
theorem dX11_isRecipe_2 : decode cX11_isRecipe 2 = .ok (.aload_n 0, 1) := by decide +kernel
theorem dX11_isRecipe_3 : decode cX11_isRecipe 3 = .ok (.getfield 18, 3) := by decide +kernel
theorem dX11_isRecipe_6 : decode cX11_isRecipe 6 = .ok (.getfield 137, 3) := by decide +kernel
theorem dX11_isRecipe_9 : decode cX11_isRecipe 9 = .ok (.iconst 1, 1) := by decide +kernel
theorem dX11_isRecipe_10 : decode cX11_isRecipe 10 = .ok (.isub, 1) := by decide +kernel
theorem dX11_isRecipe_11 : decode cX11_isRecipe 11 = .ok (.invokestatic 69, 3) := by decide +kernel
theorem dX11_isRecipe_14 : decode cX11_isRecipe 14 = .ok (.ireturn, 1) := by decide +kernel
def bX11_isRecipe_0 (f1 : ox_F) (rc : Nat → ox_K) : ox_K := o_il 1 (o_ic (0) (o_al 0 (o_getr 11 1 (o_geti 3 2 (o_ic (1) (o_isub (o_ct f1 3 (o_zret))))))))
section SX11_isRecipe
variable {p : Program} {l : Launch} {e : Env} {R : Room} {s : State} {m : MethodId} {args : Array Value} {below : List Frame} {meth : Method} {c : Code} {g : ox_G} {c0 t0 dp d1 : Nat} {rc : Nat → ox_K} {f1 : ox_F}
set_option maxRecDepth 100000 in
theorem kX11_isRecipe_0 (C : ox_C p s m args c g 2 cX11_isRecipe RX11) (hr : meth.sig.returnType = (some .boolean)) (hlk : meth.locks = false) (hnm : meth.name = "isRecipe") (hR : R.frames = dp ∧ R.locals = 60 * dp) (h1 : ox_Sem yX11_within cX11_within 3 (some .boolean) d1 f1) (e1 : d1 + 1 ≤ dp) (hrc : ∀ b, ox_S p l e R s m args below meth c g 2 c0 t0 (ox_QM g below args s c0 t0) b (rc b)) : ox_S p l e R s m args below meth c g 2 c0 t0 (ox_QM g below args s c0 t0) 0 (bX11_isRecipe_0 f1 rc) := by
  refine s_iload_n (pc := 0) C dX11_isRecipe_0 rfl ?_
  refine s_iconst (pc := 1) C dX11_isRecipe_1 (by decide) ?_
  refine s_aload_n (pc := 2) C dX11_isRecipe_2 rfl ?_
  refine s_getr (pc := 3) (j := 1) (q := (RX11, TX11, 13)) C rfl (by decide) rfl wF_X11_18 dX11_isRecipe_3 ?_
  refine s_geti (pc := 6) (j := 2) (q := (RX3, TX3, 6)) C rfl (by decide) rfl wF_X11_137 dX11_isRecipe_6 ?_
  refine s_iconst (pc := 9) C dX11_isRecipe_9 (by decide) ?_
  refine s_isub (pc := 10) C dX11_isRecipe_10 ?_
  refine s_ct (pc := 11) C h1 wM_X11_69 wT_X11_within wN_X11 wC_X11_within (by decide +kernel) (ox_lv hR e1 (by decide)) dX11_isRecipe_11 ?_
  exact s_zret (pc := 14) C hr (by decide) hlk dX11_isRecipe_14
end SX11_isRecipe
def bsX11_isRecipe (f1 : ox_F) (b : Nat) (rc : Nat → ox_K) : ox_K := if b = 0 then bX11_isRecipe_0 f1 rc else ox_no
theorem mX11_isRecipe {dp d1 : Nat} {f1 f : ox_F} (h1 : ox_Sem yX11_within cX11_within 3 (some .boolean) d1 f1) (e1 : d1 + 1 ≤ dp) (hf : ∀ as h r, f as h = some r → ox_cs as ≤ 2 ∧ ox_le h r.2 ∧ ∃ n, ox_run (bsX11_isRecipe f1) n 0 (lv_args 0 as) [] h = some r) : ox_Sem yX11_isRecipe cX11_isRecipe 2 (some .boolean) dp f := by
  refine ox_meth (bs := bsX11_isRecipe f1) (by decide) hf ?_
  intro p l e R s m args below meth c g c0 t0 C hr hlk hnm hR rc hrc b
  unfold bsX11_isRecipe
  refine ox_br (kX11_isRecipe_0 C hr hlk hnm hR h1 e1 hrc) ?_
  exact s_no
theorem dX11_isKept_0 : decode cX11_isKept 0 = .ok (.iload_n 1, 1) := by decide +kernel
theorem dX11_isKept_1 : decode cX11_isKept 1 = .ok (.iconst 0, 1) := by decide +kernel
theorem dX11_isKept_2 : decode cX11_isKept 2 = .ok (.aload_n 0, 1) := by decide +kernel
theorem dX11_isKept_3 : decode cX11_isKept 3 = .ok (.getfield 49, 3) := by decide +kernel
theorem dX11_isKept_6 : decode cX11_isKept 6 = .ok (.getfield 358, 3) := by decide +kernel
theorem dX11_isKept_9 : decode cX11_isKept 9 = .ok (.iconst 1, 1) := by decide +kernel
theorem dX11_isKept_10 : decode cX11_isKept 10 = .ok (.isub, 1) := by decide +kernel
theorem dX11_isKept_11 : decode cX11_isKept 11 = .ok (.invokestatic 69, 3) := by decide +kernel
theorem dX11_isKept_14 : decode cX11_isKept 14 = .ok (.ireturn, 1) := by decide +kernel
def bX11_isKept_0 (f1 : ox_F) (rc : Nat → ox_K) : ox_K := o_il 1 (o_ic (0) (o_al 0 (o_getr 11 6 (o_geti 1 1 (o_ic (1) (o_isub (o_ct f1 3 (o_zret))))))))
section SX11_isKept
variable {p : Program} {l : Launch} {e : Env} {R : Room} {s : State} {m : MethodId} {args : Array Value} {below : List Frame} {meth : Method} {c : Code} {g : ox_G} {c0 t0 dp d1 : Nat} {rc : Nat → ox_K} {f1 : ox_F}
set_option maxRecDepth 100000 in
theorem kX11_isKept_0 (C : ox_C p s m args c g 2 cX11_isKept RX11) (hr : meth.sig.returnType = (some .boolean)) (hlk : meth.locks = false) (hnm : meth.name = "isKept") (hR : R.frames = dp ∧ R.locals = 60 * dp) (h1 : ox_Sem yX11_within cX11_within 3 (some .boolean) d1 f1) (e1 : d1 + 1 ≤ dp) (hrc : ∀ b, ox_S p l e R s m args below meth c g 2 c0 t0 (ox_QM g below args s c0 t0) b (rc b)) : ox_S p l e R s m args below meth c g 2 c0 t0 (ox_QM g below args s c0 t0) 0 (bX11_isKept_0 f1 rc) := by
  refine s_iload_n (pc := 0) C dX11_isKept_0 rfl ?_
  refine s_iconst (pc := 1) C dX11_isKept_1 (by decide) ?_
  refine s_aload_n (pc := 2) C dX11_isKept_2 rfl ?_
  refine s_getr (pc := 3) (j := 6) (q := (RX11, TX11, 13)) C rfl (by decide) rfl wF_X11_49 dX11_isKept_3 ?_
  refine s_geti (pc := 6) (j := 1) (q := (RX1, TX1, 7)) C rfl (by decide) rfl wF_X11_358 dX11_isKept_6 ?_
  refine s_iconst (pc := 9) C dX11_isKept_9 (by decide) ?_
  refine s_isub (pc := 10) C dX11_isKept_10 ?_
  refine s_ct (pc := 11) C h1 wM_X11_69 wT_X11_within wN_X11 wC_X11_within (by decide +kernel) (ox_lv hR e1 (by decide)) dX11_isKept_11 ?_
  exact s_zret (pc := 14) C hr (by decide) hlk dX11_isKept_14
end SX11_isKept
def bsX11_isKept (f1 : ox_F) (b : Nat) (rc : Nat → ox_K) : ox_K := if b = 0 then bX11_isKept_0 f1 rc else ox_no
theorem mX11_isKept {dp d1 : Nat} {f1 f : ox_F} (h1 : ox_Sem yX11_within cX11_within 3 (some .boolean) d1 f1) (e1 : d1 + 1 ≤ dp) (hf : ∀ as h r, f as h = some r → ox_cs as ≤ 2 ∧ ox_le h r.2 ∧ ∃ n, ox_run (bsX11_isKept f1) n 0 (lv_args 0 as) [] h = some r) : ox_Sem yX11_isKept cX11_isKept 2 (some .boolean) dp f := by
  refine ox_meth (bs := bsX11_isKept f1) (by decide) hf ?_
  intro p l e R s m args below meth c g c0 t0 C hr hlk hnm hR rc hrc b
  unfold bsX11_isKept
  refine ox_br (kX11_isKept_0 C hr hlk hnm hR h1 e1 hrc) ?_
  exact s_no
theorem dX11_found_0 : decode cX11_found 0 = .ok (.aload_n 0, 1) := by decide +kernel
theorem dX11_found_1 : decode cX11_found 1 = .ok (.iload_n 1, 1) := by decide +kernel
theorem dX11_found_2 : decode cX11_found 2 = .ok (.putfield 355, 3) := by decide +kernel
theorem dX11_found_5 : decode cX11_found 5 = .ok (.ldc_w 361, 3) := by decide +kernel
theorem dX11_found_8 : decode cX11_found 8 = .ok (.iload_n 1, 1) := by decide +kernel
theorem dX11_found_9 : decode cX11_found 9 = .ok (.isub, 1) := by decide +kernel
theorem dX11_found_10 : decode cX11_found 10 = .ok (.ireturn, 1) := by decide +kernel
def bX11_found_0 (rc : Nat → ox_K) : ox_K := o_al 0 (o_il 1 (o_puti 11 12 (o_ic (-1000010) (o_il 1 (o_isub (o_iret))))))
section SX11_found
variable {p : Program} {l : Launch} {e : Env} {R : Room} {s : State} {m : MethodId} {args : Array Value} {below : List Frame} {meth : Method} {c : Code} {g : ox_G} {c0 t0 dp  : Nat} {rc : Nat → ox_K}
set_option maxRecDepth 100000 in
theorem kX11_found_0 (C : ox_C p s m args c g 2 cX11_found RX11) (hr : meth.sig.returnType = (some .int)) (hlk : meth.locks = false) (hnm : meth.name = "found") (hR : R.frames = dp ∧ R.locals = 60 * dp) (hrc : ∀ b, ox_S p l e R s m args below meth c g 2 c0 t0 (ox_QM g below args s c0 t0) b (rc b)) : ox_S p l e R s m args below meth c g 2 c0 t0 (ox_QM g below args s c0 t0) 0 (bX11_found_0 rc) := by
  refine s_aload_n (pc := 0) C dX11_found_0 rfl ?_
  refine s_iload_n (pc := 1) C dX11_found_1 rfl ?_
  refine s_puti (pc := 2) (j := 12) (q := (RX11, TX11, 13)) C rfl (by decide) rfl (Or.inl rfl) wF_X11_355 dX11_found_2 ?_
  refine s_ldcw (pc := 5) C wK_X11_361 dX11_found_5 ?_
  refine s_iload_n (pc := 8) C dX11_found_8 rfl ?_
  refine s_isub (pc := 9) C dX11_found_9 ?_
  exact s_iret (pc := 10) C hr hlk dX11_found_10
end SX11_found
def bsX11_found (b : Nat) (rc : Nat → ox_K) : ox_K := if b = 0 then bX11_found_0 rc else ox_no
theorem mX11_found {dp  : Nat} {f : ox_F} (hf : ∀ as h r, f as h = some r → ox_cs as ≤ 2 ∧ ox_le h r.2 ∧ ∃ n, ox_run (bsX11_found) n 0 (lv_args 0 as) [] h = some r) : ox_Sem yX11_found cX11_found 2 (some .int) dp f := by
  refine ox_meth (bs := bsX11_found) (by decide) hf ?_
  intro p l e R s m args below meth c g c0 t0 C hr hlk hnm hR rc hrc b
  unfold bsX11_found
  refine ox_br (kX11_found_0 C hr hlk hnm hR hrc) ?_
  exact s_no
theorem dX11_amissIn_0 : decode cX11_amissIn 0 = .ok (.aload_n 0, 1) := by decide +kernel
theorem dX11_amissIn_1 : decode cX11_amissIn 1 = .ok (.getfield 95, 3) := by decide +kernel
theorem dX11_amissIn_4 : decode cX11_amissIn 4 = .ok (.ifCond .eq 5, 3) := by decide +kernel
theorem dX11_amissIn_7 : decode cX11_amissIn 7 = .ok (.iconst 1, 1) := by decide +kernel
theorem dX11_amissIn_8 : decode cX11_amissIn 8 = .ok (.ireturn, 1) := by decide +kernel
theorem dX11_amissIn_9 : decode cX11_amissIn 9 = .ok (.aload_n 0, 1) := by decide +kernel
theorem dX11_amissIn_10 : decode cX11_amissIn 10 = .ok (.iload_n 1, 1) := by decide +kernel
theorem dX11_amissIn_11 : decode cX11_amissIn 11 = .ok (.iload_n 2, 1) := by decide +kernel
theorem dX11_amissIn_12 : decode cX11_amissIn 12 = .ok (.invokevirtual 103, 3) := by decide +kernel
theorem dX11_amissIn_15 : decode cX11_amissIn 15 = .ok (.ifCond .eq 7, 3) := by decide +kernel
theorem dX11_amissIn_18 : decode cX11_amissIn 18 = .ok (.iconst 0, 1) := by decide +kernel
theorem dX11_amissIn_19 : decode cX11_amissIn 19 = .ok (.goto 4, 3) := by decide +kernel
theorem dX11_amissIn_22 : decode cX11_amissIn 22 = .ok (.iconst 2, 1) := by decide +kernel
theorem dX11_amissIn_23 : decode cX11_amissIn 23 = .ok (.ireturn, 1) := by decide +kernel
def bX11_amissIn_0 (f1 : ox_F) (rc : Nat → ox_K) : ox_K := o_al 0 (o_geti 8 1 (o_ifeq (rc 9) (o_ic (1) (o_iret))))
def bX11_amissIn_9 (f1 : ox_F) (rc : Nat → ox_K) : ox_K := o_al 0 (o_il 1 (o_il 2 (o_cv f1 8 2 (o_ifeq (rc 22) (o_ic (0) (rc 23))))))
def bX11_amissIn_22 (f1 : ox_F) (rc : Nat → ox_K) : ox_K := o_ic (2) (rc 23)
def bX11_amissIn_23 (f1 : ox_F) (rc : Nat → ox_K) : ox_K := o_iret
section SX11_amissIn
variable {p : Program} {l : Launch} {e : Env} {R : Room} {s : State} {m : MethodId} {args : Array Value} {below : List Frame} {meth : Method} {c : Code} {g : ox_G} {c0 t0 dp d1 : Nat} {rc : Nat → ox_K} {f1 : ox_F}
set_option maxRecDepth 100000 in
theorem kX11_amissIn_0 (C : ox_C p s m args c g 3 cX11_amissIn RX11) (hr : meth.sig.returnType = (some .int)) (hlk : meth.locks = false) (hnm : meth.name = "amissIn") (hR : R.frames = dp ∧ R.locals = 60 * dp) (h1 : ox_Sem yX8_has cX8_has 3 (some .boolean) d1 f1) (e1 : d1 + 1 ≤ dp) (hrc : ∀ b, ox_S p l e R s m args below meth c g 3 c0 t0 (ox_QM g below args s c0 t0) b (rc b)) : ox_S p l e R s m args below meth c g 3 c0 t0 (ox_QM g below args s c0 t0) 0 (bX11_amissIn_0 f1 rc) := by
  refine s_aload_n (pc := 0) C dX11_amissIn_0 rfl ?_
  refine s_geti (pc := 1) (j := 1) (q := (RX8, TX8, 4)) C rfl (by decide) rfl wF_X11_95 dX11_amissIn_1 ?_
  refine s_ifeq (pc := 4) 9 C dX11_amissIn_4 (by decide) (hrc 9) ?_
  refine s_iconst (pc := 7) C dX11_amissIn_7 (by decide) ?_
  exact s_iret (pc := 8) C hr hlk dX11_amissIn_8
set_option maxRecDepth 100000 in
theorem kX11_amissIn_9 (C : ox_C p s m args c g 3 cX11_amissIn RX11) (hr : meth.sig.returnType = (some .int)) (hlk : meth.locks = false) (hnm : meth.name = "amissIn") (hR : R.frames = dp ∧ R.locals = 60 * dp) (h1 : ox_Sem yX8_has cX8_has 3 (some .boolean) d1 f1) (e1 : d1 + 1 ≤ dp) (hrc : ∀ b, ox_S p l e R s m args below meth c g 3 c0 t0 (ox_QM g below args s c0 t0) b (rc b)) : ox_S p l e R s m args below meth c g 3 c0 t0 (ox_QM g below args s c0 t0) 9 (bX11_amissIn_9 f1 rc) := by
  refine s_aload_n (pc := 9) C dX11_amissIn_9 rfl ?_
  refine s_iload_n (pc := 10) C dX11_amissIn_10 rfl ?_
  refine s_iload_n (pc := 11) C dX11_amissIn_11 rfl ?_
  refine s_cv (pc := 12) (q := (RX8, TX8, 4)) C h1 rfl wM_X11_103 wI_X8_has wS_X8_has wN_X8 wC_X8_has (by decide +kernel) (ox_lv hR e1 (by decide)) dX11_amissIn_12 ?_
  refine s_ifeq (pc := 15) 22 C dX11_amissIn_15 (by decide) (hrc 22) ?_
  refine s_iconst (pc := 18) C dX11_amissIn_18 (by decide) ?_
  exact s_goto (pc := 19) 23 C dX11_amissIn_19 (by decide) (hrc 23)
set_option maxRecDepth 100000 in
theorem kX11_amissIn_22 (C : ox_C p s m args c g 3 cX11_amissIn RX11) (hr : meth.sig.returnType = (some .int)) (hlk : meth.locks = false) (hnm : meth.name = "amissIn") (hR : R.frames = dp ∧ R.locals = 60 * dp) (h1 : ox_Sem yX8_has cX8_has 3 (some .boolean) d1 f1) (e1 : d1 + 1 ≤ dp) (hrc : ∀ b, ox_S p l e R s m args below meth c g 3 c0 t0 (ox_QM g below args s c0 t0) b (rc b)) : ox_S p l e R s m args below meth c g 3 c0 t0 (ox_QM g below args s c0 t0) 22 (bX11_amissIn_22 f1 rc) := by
  refine s_iconst (pc := 22) C dX11_amissIn_22 (by decide) ?_
  exact hrc 23
set_option maxRecDepth 100000 in
theorem kX11_amissIn_23 (C : ox_C p s m args c g 3 cX11_amissIn RX11) (hr : meth.sig.returnType = (some .int)) (hlk : meth.locks = false) (hnm : meth.name = "amissIn") (hR : R.frames = dp ∧ R.locals = 60 * dp) (h1 : ox_Sem yX8_has cX8_has 3 (some .boolean) d1 f1) (e1 : d1 + 1 ≤ dp) (hrc : ∀ b, ox_S p l e R s m args below meth c g 3 c0 t0 (ox_QM g below args s c0 t0) b (rc b)) : ox_S p l e R s m args below meth c g 3 c0 t0 (ox_QM g below args s c0 t0) 23 (bX11_amissIn_23 f1 rc) := by
  exact s_iret (pc := 23) C hr hlk dX11_amissIn_23
end SX11_amissIn
def bsX11_amissIn (f1 : ox_F) (b : Nat) (rc : Nat → ox_K) : ox_K := if b = 0 then bX11_amissIn_0 f1 rc else if b = 9 then bX11_amissIn_9 f1 rc else if b = 22 then bX11_amissIn_22 f1 rc else if b = 23 then bX11_amissIn_23 f1 rc else ox_no
theorem mX11_amissIn {dp d1 : Nat} {f1 f : ox_F} (h1 : ox_Sem yX8_has cX8_has 3 (some .boolean) d1 f1) (e1 : d1 + 1 ≤ dp) (hf : ∀ as h r, f as h = some r → ox_cs as ≤ 3 ∧ ox_le h r.2 ∧ ∃ n, ox_run (bsX11_amissIn f1) n 0 (lv_args 0 as) [] h = some r) : ox_Sem yX11_amissIn cX11_amissIn 3 (some .int) dp f := by
  refine ox_meth (bs := bsX11_amissIn f1) (by decide) hf ?_
  intro p l e R s m args below meth c g c0 t0 C hr hlk hnm hR rc hrc b
  unfold bsX11_amissIn
  refine ox_br (kX11_amissIn_0 C hr hlk hnm hR h1 e1 hrc) ?_
  refine ox_br (kX11_amissIn_9 C hr hlk hnm hR h1 e1 hrc) ?_
  refine ox_br (kX11_amissIn_22 C hr hlk hnm hR h1 e1 hrc) ?_
  refine ox_br (kX11_amissIn_23 C hr hlk hnm hR h1 e1 hrc) ?_
  exact s_no
theorem dX11_plain_0 : decode cX11_plain 0 = .ok (.aload_n 0, 1) := by decide +kernel
theorem dX11_plain_1 : decode cX11_plain 1 = .ok (.iconst 0, 1) := by decide +kernel
theorem dX11_plain_2 : decode cX11_plain 2 = .ok (.putfield 355, 3) := by decide +kernel
theorem dX11_plain_5 : decode cX11_plain 5 = .ok (.iload_n 1, 1) := by decide +kernel
theorem dX11_plain_6 : decode cX11_plain 6 = .ok (.ireturn, 1) := by decide +kernel
def bX11_plain_0 (rc : Nat → ox_K) : ox_K := o_al 0 (o_ic (0) (o_puti 11 12 (o_il 1 (o_iret))))
section SX11_plain
variable {p : Program} {l : Launch} {e : Env} {R : Room} {s : State} {m : MethodId} {args : Array Value} {below : List Frame} {meth : Method} {c : Code} {g : ox_G} {c0 t0 dp  : Nat} {rc : Nat → ox_K}
set_option maxRecDepth 100000 in
theorem kX11_plain_0 (C : ox_C p s m args c g 2 cX11_plain RX11) (hr : meth.sig.returnType = (some .int)) (hlk : meth.locks = false) (hnm : meth.name = "plain") (hR : R.frames = dp ∧ R.locals = 60 * dp) (hrc : ∀ b, ox_S p l e R s m args below meth c g 2 c0 t0 (ox_QM g below args s c0 t0) b (rc b)) : ox_S p l e R s m args below meth c g 2 c0 t0 (ox_QM g below args s c0 t0) 0 (bX11_plain_0 rc) := by
  refine s_aload_n (pc := 0) C dX11_plain_0 rfl ?_
  refine s_iconst (pc := 1) C dX11_plain_1 (by decide) ?_
  refine s_puti (pc := 2) (j := 12) (q := (RX11, TX11, 13)) C rfl (by decide) rfl (Or.inl rfl) wF_X11_355 dX11_plain_2 ?_
  refine s_iload_n (pc := 5) C dX11_plain_5 rfl ?_
  exact s_iret (pc := 6) C hr hlk dX11_plain_6
end SX11_plain
def bsX11_plain (b : Nat) (rc : Nat → ox_K) : ox_K := if b = 0 then bX11_plain_0 rc else ox_no
theorem mX11_plain {dp  : Nat} {f : ox_F} (hf : ∀ as h r, f as h = some r → ox_cs as ≤ 2 ∧ ox_le h r.2 ∧ ∃ n, ox_run (bsX11_plain) n 0 (lv_args 0 as) [] h = some r) : ox_Sem yX11_plain cX11_plain 2 (some .int) dp f := by
  refine ox_meth (bs := bsX11_plain) (by decide) hf ?_
  intro p l e R s m args below meth c g c0 t0 C hr hlk hnm hR rc hrc b
  unfold bsX11_plain
  refine ox_br (kX11_plain_0 C hr hlk hnm hR hrc) ?_
  exact s_no
theorem dX11_sheetsThere_0 : decode cX11_sheetsThere 0 = .ok (.iconst 0, 1) := by decide +kernel
theorem dX11_sheetsThere_1 : decode cX11_sheetsThere 1 = .ok (.istore_n 1, 1) := by decide +kernel
theorem dX11_sheetsThere_2 : decode cX11_sheetsThere 2 = .ok (.iconst 0, 1) := by decide +kernel
theorem dX11_sheetsThere_3 : decode cX11_sheetsThere 3 = .ok (.istore_n 2, 1) := by decide +kernel
theorem dX11_sheetsThere_4 : decode cX11_sheetsThere 4 = .ok (.iload_n 2, 1) := by decide +kernel
theorem dX11_sheetsThere_5 : decode cX11_sheetsThere 5 = .ok (.bipush 8, 2) := by decide +kernel
theorem dX11_sheetsThere_7 : decode cX11_sheetsThere 7 = .ok (.if_icmp .ge 24, 3) := by decide +kernel
theorem dX11_sheetsThere_10 : decode cX11_sheetsThere 10 = .ok (.aload_n 0, 1) := by decide +kernel
theorem dX11_sheetsThere_11 : decode cX11_sheetsThere 11 = .ok (.getfield 11, 3) := by decide +kernel
theorem dX11_sheetsThere_14 : decode cX11_sheetsThere 14 = .ok (.iload_n 2, 1) := by decide +kernel
theorem dX11_sheetsThere_15 : decode cX11_sheetsThere 15 = .ok (.aaload, 1) := by decide +kernel
theorem dX11_sheetsThere_16 : decode cX11_sheetsThere 16 = .ok (.getfield 95, 3) := by decide +kernel
theorem dX11_sheetsThere_19 : decode cX11_sheetsThere 19 = .ok (.ifCond .ne 6, 3) := by decide +kernel
theorem dX11_sheetsThere_22 : decode cX11_sheetsThere 22 = .ok (.iinc 1 1, 3) := by decide +kernel
theorem dX11_sheetsThere_25 : decode cX11_sheetsThere 25 = .ok (.iinc 2 1, 3) := by decide +kernel
theorem dX11_sheetsThere_28 : decode cX11_sheetsThere 28 = .ok (.goto (-24), 3) := by decide +kernel
theorem dX11_sheetsThere_31 : decode cX11_sheetsThere 31 = .ok (.iload_n 1, 1) := by decide +kernel
theorem dX11_sheetsThere_32 : decode cX11_sheetsThere 32 = .ok (.ireturn, 1) := by decide +kernel
def bX11_sheetsThere_0 (rc : Nat → ox_K) : ox_K := o_ic (0) (o_is 1 (o_ic (0) (o_is 2 (rc 4))))
def bX11_sheetsThere_4 (rc : Nat → ox_K) : ox_K := o_keep [0, 1, 2] (o_il 2 (o_ic (8) (o_icge (rc 31) (o_al 0 (o_getr 11 0 (o_il 2 (o_aa 8 (o_geti 8 1 (o_ifne (rc 25) (o_inc 1 (1) (rc 25)))))))))))
def bX11_sheetsThere_25 (rc : Nat → ox_K) : ox_K := o_inc 2 (1) (rc 4)
def bX11_sheetsThere_31 (rc : Nat → ox_K) : ox_K := o_il 1 (o_iret)
section SX11_sheetsThere
variable {p : Program} {l : Launch} {e : Env} {R : Room} {s : State} {m : MethodId} {args : Array Value} {below : List Frame} {meth : Method} {c : Code} {g : ox_G} {c0 t0 dp  : Nat} {rc : Nat → ox_K}
set_option maxRecDepth 100000 in
theorem kX11_sheetsThere_0 (C : ox_C p s m args c g 3 cX11_sheetsThere RX11) (hr : meth.sig.returnType = (some .int)) (hlk : meth.locks = false) (hnm : meth.name = "sheetsThere") (hR : R.frames = dp ∧ R.locals = 60 * dp) (hrc : ∀ b, ox_S p l e R s m args below meth c g 3 c0 t0 (ox_QM g below args s c0 t0) b (rc b)) : ox_S p l e R s m args below meth c g 3 c0 t0 (ox_QM g below args s c0 t0) 0 (bX11_sheetsThere_0 rc) := by
  refine s_iconst (pc := 0) C dX11_sheetsThere_0 (by decide) ?_
  refine s_istore_n (pc := 1) C dX11_sheetsThere_1 rfl (by decide) ?_
  refine s_iconst (pc := 2) C dX11_sheetsThere_2 (by decide) ?_
  refine s_istore_n (pc := 3) C dX11_sheetsThere_3 rfl (by decide) ?_
  exact hrc 4
set_option maxRecDepth 100000 in
theorem kX11_sheetsThere_4 (C : ox_C p s m args c g 3 cX11_sheetsThere RX11) (hr : meth.sig.returnType = (some .int)) (hlk : meth.locks = false) (hnm : meth.name = "sheetsThere") (hR : R.frames = dp ∧ R.locals = 60 * dp) (hrc : ∀ b, ox_S p l e R s m args below meth c g 3 c0 t0 (ox_QM g below args s c0 t0) b (rc b)) : ox_S p l e R s m args below meth c g 3 c0 t0 (ox_QM g below args s c0 t0) 4 (bX11_sheetsThere_4 rc) := by
  refine s_keep ?_
  refine s_iload_n (pc := 4) C dX11_sheetsThere_4 rfl ?_
  refine s_bipush (pc := 5) C dX11_sheetsThere_5 (by decide) ?_
  refine s_icmpge (pc := 7) 31 C dX11_sheetsThere_7 (by decide) (hrc 31) ?_
  refine s_aload_n (pc := 10) C dX11_sheetsThere_10 rfl ?_
  refine s_getr (pc := 11) (j := 0) (q := (RX11, TX11, 13)) C rfl (by decide) rfl wF_X11_11 dX11_sheetsThere_11 ?_
  refine s_iload_n (pc := 14) C dX11_sheetsThere_14 rfl ?_
  refine s_aa (pc := 15) (q := (RX8, TX8, 4)) 6 C rfl dX11_sheetsThere_15 ?_
  refine s_geti (pc := 16) (j := 1) (q := (RX8, TX8, 4)) C rfl (by decide) rfl wF_X11_95 dX11_sheetsThere_16 ?_
  refine s_ifne (pc := 19) 25 C dX11_sheetsThere_19 (by decide) (hrc 25) ?_
  refine s_iinc (pc := 22) C dX11_sheetsThere_22 (by decide) (by decide) ?_
  exact hrc 25
set_option maxRecDepth 100000 in
theorem kX11_sheetsThere_25 (C : ox_C p s m args c g 3 cX11_sheetsThere RX11) (hr : meth.sig.returnType = (some .int)) (hlk : meth.locks = false) (hnm : meth.name = "sheetsThere") (hR : R.frames = dp ∧ R.locals = 60 * dp) (hrc : ∀ b, ox_S p l e R s m args below meth c g 3 c0 t0 (ox_QM g below args s c0 t0) b (rc b)) : ox_S p l e R s m args below meth c g 3 c0 t0 (ox_QM g below args s c0 t0) 25 (bX11_sheetsThere_25 rc) := by
  refine s_iinc (pc := 25) C dX11_sheetsThere_25 (by decide) (by decide) ?_
  exact s_goto (pc := 28) 4 C dX11_sheetsThere_28 (by decide) (hrc 4)
set_option maxRecDepth 100000 in
theorem kX11_sheetsThere_31 (C : ox_C p s m args c g 3 cX11_sheetsThere RX11) (hr : meth.sig.returnType = (some .int)) (hlk : meth.locks = false) (hnm : meth.name = "sheetsThere") (hR : R.frames = dp ∧ R.locals = 60 * dp) (hrc : ∀ b, ox_S p l e R s m args below meth c g 3 c0 t0 (ox_QM g below args s c0 t0) b (rc b)) : ox_S p l e R s m args below meth c g 3 c0 t0 (ox_QM g below args s c0 t0) 31 (bX11_sheetsThere_31 rc) := by
  refine s_iload_n (pc := 31) C dX11_sheetsThere_31 rfl ?_
  exact s_iret (pc := 32) C hr hlk dX11_sheetsThere_32
end SX11_sheetsThere
def bsX11_sheetsThere (b : Nat) (rc : Nat → ox_K) : ox_K := if b = 0 then bX11_sheetsThere_0 rc else if b = 4 then bX11_sheetsThere_4 rc else if b = 25 then bX11_sheetsThere_25 rc else if b = 31 then bX11_sheetsThere_31 rc else ox_no
theorem mX11_sheetsThere {dp  : Nat} {f : ox_F} (hf : ∀ as h r, f as h = some r → ox_cs as ≤ 3 ∧ ox_le h r.2 ∧ ∃ n, ox_run (bsX11_sheetsThere) n 0 (lv_args 0 as) [] h = some r) : ox_Sem yX11_sheetsThere cX11_sheetsThere 3 (some .int) dp f := by
  refine ox_meth (bs := bsX11_sheetsThere) (by decide) hf ?_
  intro p l e R s m args below meth c g c0 t0 C hr hlk hnm hR rc hrc b
  unfold bsX11_sheetsThere
  refine ox_br (kX11_sheetsThere_0 C hr hlk hnm hR hrc) ?_
  refine ox_br (kX11_sheetsThere_4 C hr hlk hnm hR hrc) ?_
  refine ox_br (kX11_sheetsThere_25 C hr hlk hnm hR hrc) ?_
  refine ox_br (kX11_sheetsThere_31 C hr hlk hnm hR hrc) ?_
  exact s_no
theorem dX11_gramsInTanks_0 : decode cX11_gramsInTanks 0 = .ok (.iconst 0, 1) := by decide +kernel
theorem dX11_gramsInTanks_1 : decode cX11_gramsInTanks 1 = .ok (.istore_n 1, 1) := by decide +kernel
theorem dX11_gramsInTanks_2 : decode cX11_gramsInTanks 2 = .ok (.iconst 0, 1) := by decide +kernel
theorem dX11_gramsInTanks_3 : decode cX11_gramsInTanks 3 = .ok (.istore_n 2, 1) := by decide +kernel
theorem dX11_gramsInTanks_4 : decode cX11_gramsInTanks 4 = .ok (.iload_n 2, 1) := by decide +kernel
theorem dX11_gramsInTanks_5 : decode cX11_gramsInTanks 5 = .ok (.iconst 4, 1) := by decide +kernel
theorem dX11_gramsInTanks_6 : decode cX11_gramsInTanks 6 = .ok (.if_icmp .ge 21, 3) := by decide +kernel
theorem dX11_gramsInTanks_9 : decode cX11_gramsInTanks 9 = .ok (.iload_n 1, 1) := by decide +kernel
theorem dX11_gramsInTanks_10 : decode cX11_gramsInTanks 10 = .ok (.aload_n 0, 1) := by decide +kernel
theorem dX11_gramsInTanks_11 : decode cX11_gramsInTanks 11 = .ok (.getfield 31, 3) := by decide +kernel
theorem dX11_gramsInTanks_14 : decode cX11_gramsInTanks 14 = .ok (.iload_n 2, 1) := by decide +kernel
theorem dX11_gramsInTanks_15 : decode cX11_gramsInTanks 15 = .ok (.aaload, 1) := by decide +kernel
theorem dX11_gramsInTanks_16 : decode cX11_gramsInTanks 16 = .ok (.getfield 184, 3) := by decide +kernel
theorem dX11_gramsInTanks_19 : decode cX11_gramsInTanks 19 = .ok (.iadd, 1) := by decide +kernel
theorem dX11_gramsInTanks_20 : decode cX11_gramsInTanks 20 = .ok (.istore_n 1, 1) := by decide +kernel
theorem dX11_gramsInTanks_21 : decode cX11_gramsInTanks 21 = .ok (.iinc 2 1, 3) := by decide +kernel
theorem dX11_gramsInTanks_24 : decode cX11_gramsInTanks 24 = .ok (.goto (-20), 3) := by decide +kernel
theorem dX11_gramsInTanks_27 : decode cX11_gramsInTanks 27 = .ok (.iload_n 1, 1) := by decide +kernel
theorem dX11_gramsInTanks_28 : decode cX11_gramsInTanks 28 = .ok (.ireturn, 1) := by decide +kernel
def bX11_gramsInTanks_0 (rc : Nat → ox_K) : ox_K := o_ic (0) (o_is 1 (o_ic (0) (o_is 2 (rc 4))))
def bX11_gramsInTanks_4 (rc : Nat → ox_K) : ox_K := o_keep [0, 1, 2] (o_il 2 (o_ic (4) (o_icge (rc 27) (o_il 1 (o_al 0 (o_getr 11 3 (o_il 2 (o_aa 9 (o_geti 9 0 (o_iadd (o_is 1 (o_inc 2 (1) (rc 4)))))))))))))
def bX11_gramsInTanks_27 (rc : Nat → ox_K) : ox_K := o_il 1 (o_iret)
section SX11_gramsInTanks
variable {p : Program} {l : Launch} {e : Env} {R : Room} {s : State} {m : MethodId} {args : Array Value} {below : List Frame} {meth : Method} {c : Code} {g : ox_G} {c0 t0 dp  : Nat} {rc : Nat → ox_K}
set_option maxRecDepth 100000 in
theorem kX11_gramsInTanks_0 (C : ox_C p s m args c g 3 cX11_gramsInTanks RX11) (hr : meth.sig.returnType = (some .int)) (hlk : meth.locks = false) (hnm : meth.name = "gramsInTanks") (hR : R.frames = dp ∧ R.locals = 60 * dp) (hrc : ∀ b, ox_S p l e R s m args below meth c g 3 c0 t0 (ox_QM g below args s c0 t0) b (rc b)) : ox_S p l e R s m args below meth c g 3 c0 t0 (ox_QM g below args s c0 t0) 0 (bX11_gramsInTanks_0 rc) := by
  refine s_iconst (pc := 0) C dX11_gramsInTanks_0 (by decide) ?_
  refine s_istore_n (pc := 1) C dX11_gramsInTanks_1 rfl (by decide) ?_
  refine s_iconst (pc := 2) C dX11_gramsInTanks_2 (by decide) ?_
  refine s_istore_n (pc := 3) C dX11_gramsInTanks_3 rfl (by decide) ?_
  exact hrc 4
set_option maxRecDepth 100000 in
theorem kX11_gramsInTanks_4 (C : ox_C p s m args c g 3 cX11_gramsInTanks RX11) (hr : meth.sig.returnType = (some .int)) (hlk : meth.locks = false) (hnm : meth.name = "gramsInTanks") (hR : R.frames = dp ∧ R.locals = 60 * dp) (hrc : ∀ b, ox_S p l e R s m args below meth c g 3 c0 t0 (ox_QM g below args s c0 t0) b (rc b)) : ox_S p l e R s m args below meth c g 3 c0 t0 (ox_QM g below args s c0 t0) 4 (bX11_gramsInTanks_4 rc) := by
  refine s_keep ?_
  refine s_iload_n (pc := 4) C dX11_gramsInTanks_4 rfl ?_
  refine s_iconst (pc := 5) C dX11_gramsInTanks_5 (by decide) ?_
  refine s_icmpge (pc := 6) 27 C dX11_gramsInTanks_6 (by decide) (hrc 27) ?_
  refine s_iload_n (pc := 9) C dX11_gramsInTanks_9 rfl ?_
  refine s_aload_n (pc := 10) C dX11_gramsInTanks_10 rfl ?_
  refine s_getr (pc := 11) (j := 3) (q := (RX11, TX11, 13)) C rfl (by decide) rfl wF_X11_31 dX11_gramsInTanks_11 ?_
  refine s_iload_n (pc := 14) C dX11_gramsInTanks_14 rfl ?_
  refine s_aa (pc := 15) (q := (RX9, TX9, 5)) 7 C rfl dX11_gramsInTanks_15 ?_
  refine s_geti (pc := 16) (j := 0) (q := (RX9, TX9, 5)) C rfl (by decide) rfl wF_X11_184 dX11_gramsInTanks_16 ?_
  refine s_iadd (pc := 19) C dX11_gramsInTanks_19 ?_
  refine s_istore_n (pc := 20) C dX11_gramsInTanks_20 rfl (by decide) ?_
  refine s_iinc (pc := 21) C dX11_gramsInTanks_21 (by decide) (by decide) ?_
  exact s_goto (pc := 24) 4 C dX11_gramsInTanks_24 (by decide) (hrc 4)
set_option maxRecDepth 100000 in
theorem kX11_gramsInTanks_27 (C : ox_C p s m args c g 3 cX11_gramsInTanks RX11) (hr : meth.sig.returnType = (some .int)) (hlk : meth.locks = false) (hnm : meth.name = "gramsInTanks") (hR : R.frames = dp ∧ R.locals = 60 * dp) (hrc : ∀ b, ox_S p l e R s m args below meth c g 3 c0 t0 (ox_QM g below args s c0 t0) b (rc b)) : ox_S p l e R s m args below meth c g 3 c0 t0 (ox_QM g below args s c0 t0) 27 (bX11_gramsInTanks_27 rc) := by
  refine s_iload_n (pc := 27) C dX11_gramsInTanks_27 rfl ?_
  exact s_iret (pc := 28) C hr hlk dX11_gramsInTanks_28
end SX11_gramsInTanks
def bsX11_gramsInTanks (b : Nat) (rc : Nat → ox_K) : ox_K := if b = 0 then bX11_gramsInTanks_0 rc else if b = 4 then bX11_gramsInTanks_4 rc else if b = 27 then bX11_gramsInTanks_27 rc else ox_no
theorem mX11_gramsInTanks {dp  : Nat} {f : ox_F} (hf : ∀ as h r, f as h = some r → ox_cs as ≤ 3 ∧ ox_le h r.2 ∧ ∃ n, ox_run (bsX11_gramsInTanks) n 0 (lv_args 0 as) [] h = some r) : ox_Sem yX11_gramsInTanks cX11_gramsInTanks 3 (some .int) dp f := by
  refine ox_meth (bs := bsX11_gramsInTanks) (by decide) hf ?_
  intro p l e R s m args below meth c g c0 t0 C hr hlk hnm hR rc hrc b
  unfold bsX11_gramsInTanks
  refine ox_br (kX11_gramsInTanks_0 C hr hlk hnm hR hrc) ?_
  refine ox_br (kX11_gramsInTanks_4 C hr hlk hnm hR hrc) ?_
  refine ox_br (kX11_gramsInTanks_27 C hr hlk hnm hR hrc) ?_
  exact s_no
theorem dX11_takeOrders_0 : decode cX11_takeOrders 0 = .ok (.iconst 0, 1) := by decide +kernel
theorem dX11_takeOrders_1 : decode cX11_takeOrders 1 = .ok (.istore 4, 2) := by decide +kernel
theorem dX11_takeOrders_3 : decode cX11_takeOrders 3 = .ok (.iload 4, 2) := by decide +kernel
theorem dX11_takeOrders_5 : decode cX11_takeOrders 5 = .ok (.iload_n 3, 1) := by decide +kernel
theorem dX11_takeOrders_6 : decode cX11_takeOrders 6 = .ok (.if_icmp .ge 124, 3) := by decide +kernel
theorem dX11_takeOrders_9 : decode cX11_takeOrders 9 = .ok (.aload_n 1, 1) := by decide +kernel
theorem dX11_takeOrders_10 : decode cX11_takeOrders 10 = .ok (.getfield 89, 3) := by decide +kernel
theorem dX11_takeOrders_13 : decode cX11_takeOrders 13 = .ok (.iload_n 2, 1) := by decide +kernel
theorem dX11_takeOrders_14 : decode cX11_takeOrders 14 = .ok (.iconst 3, 1) := by decide +kernel
theorem dX11_takeOrders_15 : decode cX11_takeOrders 15 = .ok (.iload 4, 2) := by decide +kernel
theorem dX11_takeOrders_17 : decode cX11_takeOrders 17 = .ok (.imul, 1) := by decide +kernel
theorem dX11_takeOrders_18 : decode cX11_takeOrders 18 = .ok (.iadd, 1) := by decide +kernel
theorem dX11_takeOrders_19 : decode cX11_takeOrders 19 = .ok (.iaload, 1) := by decide +kernel
theorem dX11_takeOrders_20 : decode cX11_takeOrders 20 = .ok (.istore 5, 2) := by decide +kernel
theorem dX11_takeOrders_22 : decode cX11_takeOrders 22 = .ok (.aload_n 1, 1) := by decide +kernel
theorem dX11_takeOrders_23 : decode cX11_takeOrders 23 = .ok (.getfield 89, 3) := by decide +kernel
theorem dX11_takeOrders_26 : decode cX11_takeOrders 26 = .ok (.iload_n 2, 1) := by decide +kernel
theorem dX11_takeOrders_27 : decode cX11_takeOrders 27 = .ok (.iconst 3, 1) := by decide +kernel
theorem dX11_takeOrders_28 : decode cX11_takeOrders 28 = .ok (.iload 4, 2) := by decide +kernel
theorem dX11_takeOrders_30 : decode cX11_takeOrders 30 = .ok (.imul, 1) := by decide +kernel
theorem dX11_takeOrders_31 : decode cX11_takeOrders 31 = .ok (.iadd, 1) := by decide +kernel
theorem dX11_takeOrders_32 : decode cX11_takeOrders 32 = .ok (.iconst 1, 1) := by decide +kernel
theorem dX11_takeOrders_33 : decode cX11_takeOrders 33 = .ok (.iadd, 1) := by decide +kernel
theorem dX11_takeOrders_34 : decode cX11_takeOrders 34 = .ok (.iaload, 1) := by decide +kernel
theorem dX11_takeOrders_35 : decode cX11_takeOrders 35 = .ok (.istore 6, 2) := by decide +kernel
theorem dX11_takeOrders_37 : decode cX11_takeOrders 37 = .ok (.aload_n 1, 1) := by decide +kernel
theorem dX11_takeOrders_38 : decode cX11_takeOrders 38 = .ok (.getfield 89, 3) := by decide +kernel
theorem dX11_takeOrders_41 : decode cX11_takeOrders 41 = .ok (.iload_n 2, 1) := by decide +kernel
theorem dX11_takeOrders_42 : decode cX11_takeOrders 42 = .ok (.iconst 3, 1) := by decide +kernel
theorem dX11_takeOrders_43 : decode cX11_takeOrders 43 = .ok (.iload 4, 2) := by decide +kernel
theorem dX11_takeOrders_45 : decode cX11_takeOrders 45 = .ok (.imul, 1) := by decide +kernel
theorem dX11_takeOrders_46 : decode cX11_takeOrders 46 = .ok (.iadd, 1) := by decide +kernel
theorem dX11_takeOrders_47 : decode cX11_takeOrders 47 = .ok (.iconst 2, 1) := by decide +kernel
theorem dX11_takeOrders_48 : decode cX11_takeOrders 48 = .ok (.iadd, 1) := by decide +kernel
theorem dX11_takeOrders_49 : decode cX11_takeOrders 49 = .ok (.iaload, 1) := by decide +kernel
theorem dX11_takeOrders_50 : decode cX11_takeOrders 50 = .ok (.istore 7, 2) := by decide +kernel
theorem dX11_takeOrders_52 : decode cX11_takeOrders 52 = .ok (.iload 5, 2) := by decide +kernel
theorem dX11_takeOrders_54 : decode cX11_takeOrders 54 = .ok (.iconst 0, 1) := by decide +kernel
theorem dX11_takeOrders_55 : decode cX11_takeOrders 55 = .ok (.bipush 15, 2) := by decide +kernel
theorem dX11_takeOrders_57 : decode cX11_takeOrders 57 = .ok (.invokestatic 69, 3) := by decide +kernel
theorem dX11_takeOrders_60 : decode cX11_takeOrders 60 = .ok (.ifCond .eq 26, 3) := by decide +kernel
theorem dX11_takeOrders_63 : decode cX11_takeOrders 63 = .ok (.iload 6, 2) := by decide +kernel
theorem dX11_takeOrders_65 : decode cX11_takeOrders 65 = .ok (.iconst 1, 1) := by decide +kernel
theorem dX11_takeOrders_66 : decode cX11_takeOrders 66 = .ok (.bipush 99, 2) := by decide +kernel
theorem dX11_takeOrders_68 : decode cX11_takeOrders 68 = .ok (.invokestatic 69, 3) := by decide +kernel
theorem dX11_takeOrders_71 : decode cX11_takeOrders 71 = .ok (.ifCond .eq 15, 3) := by decide +kernel
theorem dX11_takeOrders_74 : decode cX11_takeOrders 74 = .ok (.iload 7, 2) := by decide +kernel
theorem dX11_takeOrders_76 : decode cX11_takeOrders 76 = .ok (.iconst 0, 1) := by decide +kernel
theorem dX11_takeOrders_77 : decode cX11_takeOrders 77 = .ok (.sipush 999, 3) := by decide +kernel
theorem dX11_takeOrders_80 : decode cX11_takeOrders 80 = .ok (.invokestatic 69, 3) := by decide +kernel
theorem dX11_takeOrders_83 : decode cX11_takeOrders 83 = .ok (.ifCond .ne 5, 3) := by decide +kernel
theorem dX11_takeOrders_86 : decode cX11_takeOrders 86 = .ok (.iconst 0, 1) := by decide +kernel
theorem dX11_takeOrders_87 : decode cX11_takeOrders 87 = .ok (.ireturn, 1) := by decide +kernel
theorem dX11_takeOrders_88 : decode cX11_takeOrders 88 = .ok (.aload_n 0, 1) := by decide +kernel
theorem dX11_takeOrders_89 : decode cX11_takeOrders 89 = .ok (.getfield 56, 3) := by decide +kernel
theorem dX11_takeOrders_92 : decode cX11_takeOrders 92 = .ok (.getfield 362, 3) := by decide +kernel
theorem dX11_takeOrders_95 : decode cX11_takeOrders 95 = .ok (.iload 4, 2) := by decide +kernel
theorem dX11_takeOrders_97 : decode cX11_takeOrders 97 = .ok (.iload 5, 2) := by decide +kernel
theorem dX11_takeOrders_99 : decode cX11_takeOrders 99 = .ok (.iastore, 1) := by decide +kernel
theorem dX11_takeOrders_100 : decode cX11_takeOrders 100 = .ok (.aload_n 0, 1) := by decide +kernel
theorem dX11_takeOrders_101 : decode cX11_takeOrders 101 = .ok (.getfield 56, 3) := by decide +kernel
theorem dX11_takeOrders_104 : decode cX11_takeOrders 104 = .ok (.getfield 365, 3) := by decide +kernel
theorem dX11_takeOrders_107 : decode cX11_takeOrders 107 = .ok (.iload 4, 2) := by decide +kernel
theorem dX11_takeOrders_109 : decode cX11_takeOrders 109 = .ok (.iload 6, 2) := by decide +kernel
theorem dX11_takeOrders_111 : decode cX11_takeOrders 111 = .ok (.iastore, 1) := by decide +kernel
theorem dX11_takeOrders_112 : decode cX11_takeOrders 112 = .ok (.aload_n 0, 1) := by decide +kernel
theorem dX11_takeOrders_113 : decode cX11_takeOrders 113 = .ok (.getfield 56, 3) := by decide +kernel
theorem dX11_takeOrders_116 : decode cX11_takeOrders 116 = .ok (.getfield 368, 3) := by decide +kernel
theorem dX11_takeOrders_119 : decode cX11_takeOrders 119 = .ok (.iload 4, 2) := by decide +kernel
theorem dX11_takeOrders_121 : decode cX11_takeOrders 121 = .ok (.iload 7, 2) := by decide +kernel
theorem dX11_takeOrders_123 : decode cX11_takeOrders 123 = .ok (.iastore, 1) := by decide +kernel
theorem dX11_takeOrders_124 : decode cX11_takeOrders 124 = .ok (.iinc 4 1, 3) := by decide +kernel
theorem dX11_takeOrders_127 : decode cX11_takeOrders 127 = .ok (.goto (-124), 3) := by decide +kernel
theorem dX11_takeOrders_130 : decode cX11_takeOrders 130 = .ok (.iconst 1, 1) := by decide +kernel
theorem dX11_takeOrders_131 : decode cX11_takeOrders 131 = .ok (.ireturn, 1) := by decide +kernel
def bX11_takeOrders_0 (f1 : ox_F) (rc : Nat → ox_K) : ox_K := o_ic (0) (o_is 4 (rc 3))
def bX11_takeOrders_3 (f1 : ox_F) (rc : Nat → ox_K) : ox_K := o_keep [0, 1, 2, 3, 4] (o_il 4 (o_il 3 (o_icge (rc 130) (o_al 1 (o_getr 8 0 (o_il 2 (o_ic (3) (o_il 4 (o_imul (o_iadd (o_ia (o_is 5 (o_al 1 (o_getr 8 0 (o_il 2 (o_ic (3) (o_il 4 (o_imul (o_iadd (o_ic (1) (o_iadd (o_ia (o_is 6 (o_al 1 (o_getr 8 0 (o_il 2 (o_ic (3) (o_il 4 (o_imul (o_iadd (o_ic (2) (o_iadd (o_ia (o_is 7 (o_il 5 (o_ic (0) (o_ic (15) (o_ct f1 3 (o_ifeq (rc 86) (o_il 6 (o_ic (1) (o_ic (99) (o_ct f1 3 (o_ifeq (rc 86) (o_il 7 (o_ic (0) (o_ic (999) (o_ct f1 3 (o_ifne (rc 88) (rc 86))))))))))))))))))))))))))))))))))))))))))))))))))
def bX11_takeOrders_86 (f1 : ox_F) (rc : Nat → ox_K) : ox_K := o_ic (0) (o_zret)
def bX11_takeOrders_88 (f1 : ox_F) (rc : Nat → ox_K) : ox_K := o_al 0 (o_getr 11 7 (o_getr 7 0 (o_il 4 (o_il 5 (o_iast (o_al 0 (o_getr 11 7 (o_getr 7 1 (o_il 4 (o_il 6 (o_iast (o_al 0 (o_getr 11 7 (o_getr 7 2 (o_il 4 (o_il 7 (o_iast (o_inc 4 (1) (rc 3)))))))))))))))))))
def bX11_takeOrders_130 (f1 : ox_F) (rc : Nat → ox_K) : ox_K := o_ic (1) (o_zret)
section SX11_takeOrders
variable {p : Program} {l : Launch} {e : Env} {R : Room} {s : State} {m : MethodId} {args : Array Value} {below : List Frame} {meth : Method} {c : Code} {g : ox_G} {c0 t0 dp d1 : Nat} {rc : Nat → ox_K} {f1 : ox_F}
set_option maxRecDepth 100000 in
theorem kX11_takeOrders_0 (C : ox_C p s m args c g 8 cX11_takeOrders RX11) (hr : meth.sig.returnType = (some .boolean)) (hlk : meth.locks = false) (hnm : meth.name = "takeOrders") (hR : R.frames = dp ∧ R.locals = 60 * dp) (h1 : ox_Sem yX11_within cX11_within 3 (some .boolean) d1 f1) (e1 : d1 + 1 ≤ dp) (hrc : ∀ b, ox_S p l e R s m args below meth c g 8 c0 t0 (ox_QM g below args s c0 t0) b (rc b)) : ox_S p l e R s m args below meth c g 8 c0 t0 (ox_QM g below args s c0 t0) 0 (bX11_takeOrders_0 f1 rc) := by
  refine s_iconst (pc := 0) C dX11_takeOrders_0 (by decide) ?_
  refine s_istore (pc := 1) C dX11_takeOrders_1 (by decide) ?_
  exact hrc 3
set_option maxRecDepth 100000 in
theorem kX11_takeOrders_3 (C : ox_C p s m args c g 8 cX11_takeOrders RX11) (hr : meth.sig.returnType = (some .boolean)) (hlk : meth.locks = false) (hnm : meth.name = "takeOrders") (hR : R.frames = dp ∧ R.locals = 60 * dp) (h1 : ox_Sem yX11_within cX11_within 3 (some .boolean) d1 f1) (e1 : d1 + 1 ≤ dp) (hrc : ∀ b, ox_S p l e R s m args below meth c g 8 c0 t0 (ox_QM g below args s c0 t0) b (rc b)) : ox_S p l e R s m args below meth c g 8 c0 t0 (ox_QM g below args s c0 t0) 3 (bX11_takeOrders_3 f1 rc) := by
  refine s_keep ?_
  refine s_iload (pc := 3) C dX11_takeOrders_3 ?_
  refine s_iload_n (pc := 5) C dX11_takeOrders_5 rfl ?_
  refine s_icmpge (pc := 6) 130 C dX11_takeOrders_6 (by decide) (hrc 130) ?_
  refine s_aload_n (pc := 9) C dX11_takeOrders_9 rfl ?_
  refine s_getr (pc := 10) (j := 0) (q := (RX8, TX8, 4)) C rfl (by decide) rfl wF_X11_89 dX11_takeOrders_10 ?_
  refine s_iload_n (pc := 13) C dX11_takeOrders_13 rfl ?_
  refine s_iconst (pc := 14) C dX11_takeOrders_14 (by decide) ?_
  refine s_iload (pc := 15) C dX11_takeOrders_15 ?_
  refine s_imul (pc := 17) C dX11_takeOrders_17 ?_
  refine s_iadd (pc := 18) C dX11_takeOrders_18 ?_
  refine s_ia (pc := 19) C dX11_takeOrders_19 ?_
  refine s_istore (pc := 20) C dX11_takeOrders_20 (by decide) ?_
  refine s_aload_n (pc := 22) C dX11_takeOrders_22 rfl ?_
  refine s_getr (pc := 23) (j := 0) (q := (RX8, TX8, 4)) C rfl (by decide) rfl wF_X11_89 dX11_takeOrders_23 ?_
  refine s_iload_n (pc := 26) C dX11_takeOrders_26 rfl ?_
  refine s_iconst (pc := 27) C dX11_takeOrders_27 (by decide) ?_
  refine s_iload (pc := 28) C dX11_takeOrders_28 ?_
  refine s_imul (pc := 30) C dX11_takeOrders_30 ?_
  refine s_iadd (pc := 31) C dX11_takeOrders_31 ?_
  refine s_iconst (pc := 32) C dX11_takeOrders_32 (by decide) ?_
  refine s_iadd (pc := 33) C dX11_takeOrders_33 ?_
  refine s_ia (pc := 34) C dX11_takeOrders_34 ?_
  refine s_istore (pc := 35) C dX11_takeOrders_35 (by decide) ?_
  refine s_aload_n (pc := 37) C dX11_takeOrders_37 rfl ?_
  refine s_getr (pc := 38) (j := 0) (q := (RX8, TX8, 4)) C rfl (by decide) rfl wF_X11_89 dX11_takeOrders_38 ?_
  refine s_iload_n (pc := 41) C dX11_takeOrders_41 rfl ?_
  refine s_iconst (pc := 42) C dX11_takeOrders_42 (by decide) ?_
  refine s_iload (pc := 43) C dX11_takeOrders_43 ?_
  refine s_imul (pc := 45) C dX11_takeOrders_45 ?_
  refine s_iadd (pc := 46) C dX11_takeOrders_46 ?_
  refine s_iconst (pc := 47) C dX11_takeOrders_47 (by decide) ?_
  refine s_iadd (pc := 48) C dX11_takeOrders_48 ?_
  refine s_ia (pc := 49) C dX11_takeOrders_49 ?_
  refine s_istore (pc := 50) C dX11_takeOrders_50 (by decide) ?_
  refine s_iload (pc := 52) C dX11_takeOrders_52 ?_
  refine s_iconst (pc := 54) C dX11_takeOrders_54 (by decide) ?_
  refine s_bipush (pc := 55) C dX11_takeOrders_55 (by decide) ?_
  refine s_ct (pc := 57) C h1 wM_X11_69 wT_X11_within wN_X11 wC_X11_within (by decide +kernel) (ox_lv hR e1 (by decide)) dX11_takeOrders_57 ?_
  refine s_ifeq (pc := 60) 86 C dX11_takeOrders_60 (by decide) (hrc 86) ?_
  refine s_iload (pc := 63) C dX11_takeOrders_63 ?_
  refine s_iconst (pc := 65) C dX11_takeOrders_65 (by decide) ?_
  refine s_bipush (pc := 66) C dX11_takeOrders_66 (by decide) ?_
  refine s_ct (pc := 68) C h1 wM_X11_69 wT_X11_within wN_X11 wC_X11_within (by decide +kernel) (ox_lv hR e1 (by decide)) dX11_takeOrders_68 ?_
  refine s_ifeq (pc := 71) 86 C dX11_takeOrders_71 (by decide) (hrc 86) ?_
  refine s_iload (pc := 74) C dX11_takeOrders_74 ?_
  refine s_iconst (pc := 76) C dX11_takeOrders_76 (by decide) ?_
  refine s_sipush (pc := 77) C dX11_takeOrders_77 (by decide) ?_
  refine s_ct (pc := 80) C h1 wM_X11_69 wT_X11_within wN_X11 wC_X11_within (by decide +kernel) (ox_lv hR e1 (by decide)) dX11_takeOrders_80 ?_
  refine s_ifne (pc := 83) 88 C dX11_takeOrders_83 (by decide) (hrc 88) ?_
  exact hrc 86
set_option maxRecDepth 100000 in
theorem kX11_takeOrders_86 (C : ox_C p s m args c g 8 cX11_takeOrders RX11) (hr : meth.sig.returnType = (some .boolean)) (hlk : meth.locks = false) (hnm : meth.name = "takeOrders") (hR : R.frames = dp ∧ R.locals = 60 * dp) (h1 : ox_Sem yX11_within cX11_within 3 (some .boolean) d1 f1) (e1 : d1 + 1 ≤ dp) (hrc : ∀ b, ox_S p l e R s m args below meth c g 8 c0 t0 (ox_QM g below args s c0 t0) b (rc b)) : ox_S p l e R s m args below meth c g 8 c0 t0 (ox_QM g below args s c0 t0) 86 (bX11_takeOrders_86 f1 rc) := by
  refine s_iconst (pc := 86) C dX11_takeOrders_86 (by decide) ?_
  exact s_zret (pc := 87) C hr (by decide) hlk dX11_takeOrders_87
set_option maxRecDepth 100000 in
theorem kX11_takeOrders_88 (C : ox_C p s m args c g 8 cX11_takeOrders RX11) (hr : meth.sig.returnType = (some .boolean)) (hlk : meth.locks = false) (hnm : meth.name = "takeOrders") (hR : R.frames = dp ∧ R.locals = 60 * dp) (h1 : ox_Sem yX11_within cX11_within 3 (some .boolean) d1 f1) (e1 : d1 + 1 ≤ dp) (hrc : ∀ b, ox_S p l e R s m args below meth c g 8 c0 t0 (ox_QM g below args s c0 t0) b (rc b)) : ox_S p l e R s m args below meth c g 8 c0 t0 (ox_QM g below args s c0 t0) 88 (bX11_takeOrders_88 f1 rc) := by
  refine s_aload_n (pc := 88) C dX11_takeOrders_88 rfl ?_
  refine s_getr (pc := 89) (j := 7) (q := (RX11, TX11, 13)) C rfl (by decide) rfl wF_X11_56 dX11_takeOrders_89 ?_
  refine s_getr (pc := 92) (j := 0) (q := (RX7, TX7, 7)) C rfl (by decide) rfl wF_X11_362 dX11_takeOrders_92 ?_
  refine s_iload (pc := 95) C dX11_takeOrders_95 ?_
  refine s_iload (pc := 97) C dX11_takeOrders_97 ?_
  refine s_iast (pc := 99) C dX11_takeOrders_99 ?_
  refine s_aload_n (pc := 100) C dX11_takeOrders_100 rfl ?_
  refine s_getr (pc := 101) (j := 7) (q := (RX11, TX11, 13)) C rfl (by decide) rfl wF_X11_56 dX11_takeOrders_101 ?_
  refine s_getr (pc := 104) (j := 1) (q := (RX7, TX7, 7)) C rfl (by decide) rfl wF_X11_365 dX11_takeOrders_104 ?_
  refine s_iload (pc := 107) C dX11_takeOrders_107 ?_
  refine s_iload (pc := 109) C dX11_takeOrders_109 ?_
  refine s_iast (pc := 111) C dX11_takeOrders_111 ?_
  refine s_aload_n (pc := 112) C dX11_takeOrders_112 rfl ?_
  refine s_getr (pc := 113) (j := 7) (q := (RX11, TX11, 13)) C rfl (by decide) rfl wF_X11_56 dX11_takeOrders_113 ?_
  refine s_getr (pc := 116) (j := 2) (q := (RX7, TX7, 7)) C rfl (by decide) rfl wF_X11_368 dX11_takeOrders_116 ?_
  refine s_iload (pc := 119) C dX11_takeOrders_119 ?_
  refine s_iload (pc := 121) C dX11_takeOrders_121 ?_
  refine s_iast (pc := 123) C dX11_takeOrders_123 ?_
  refine s_iinc (pc := 124) C dX11_takeOrders_124 (by decide) (by decide) ?_
  exact s_goto (pc := 127) 3 C dX11_takeOrders_127 (by decide) (hrc 3)
set_option maxRecDepth 100000 in
theorem kX11_takeOrders_130 (C : ox_C p s m args c g 8 cX11_takeOrders RX11) (hr : meth.sig.returnType = (some .boolean)) (hlk : meth.locks = false) (hnm : meth.name = "takeOrders") (hR : R.frames = dp ∧ R.locals = 60 * dp) (h1 : ox_Sem yX11_within cX11_within 3 (some .boolean) d1 f1) (e1 : d1 + 1 ≤ dp) (hrc : ∀ b, ox_S p l e R s m args below meth c g 8 c0 t0 (ox_QM g below args s c0 t0) b (rc b)) : ox_S p l e R s m args below meth c g 8 c0 t0 (ox_QM g below args s c0 t0) 130 (bX11_takeOrders_130 f1 rc) := by
  refine s_iconst (pc := 130) C dX11_takeOrders_130 (by decide) ?_
  exact s_zret (pc := 131) C hr (by decide) hlk dX11_takeOrders_131
end SX11_takeOrders
def bsX11_takeOrders (f1 : ox_F) (b : Nat) (rc : Nat → ox_K) : ox_K := if b = 0 then bX11_takeOrders_0 f1 rc else if b = 3 then bX11_takeOrders_3 f1 rc else if b = 86 then bX11_takeOrders_86 f1 rc else if b = 88 then bX11_takeOrders_88 f1 rc else if b = 130 then bX11_takeOrders_130 f1 rc else ox_no
theorem mX11_takeOrders {dp d1 : Nat} {f1 f : ox_F} (h1 : ox_Sem yX11_within cX11_within 3 (some .boolean) d1 f1) (e1 : d1 + 1 ≤ dp) (hf : ∀ as h r, f as h = some r → ox_cs as ≤ 8 ∧ ox_le h r.2 ∧ ∃ n, ox_run (bsX11_takeOrders f1) n 0 (lv_args 0 as) [] h = some r) : ox_Sem yX11_takeOrders cX11_takeOrders 8 (some .boolean) dp f := by
  refine ox_meth (bs := bsX11_takeOrders f1) (by decide) hf ?_
  intro p l e R s m args below meth c g c0 t0 C hr hlk hnm hR rc hrc b
  unfold bsX11_takeOrders
  refine ox_br (kX11_takeOrders_0 C hr hlk hnm hR h1 e1 hrc) ?_
  refine ox_br (kX11_takeOrders_3 C hr hlk hnm hR h1 e1 hrc) ?_
  refine ox_br (kX11_takeOrders_86 C hr hlk hnm hR h1 e1 hrc) ?_
  refine ox_br (kX11_takeOrders_88 C hr hlk hnm hR h1 e1 hrc) ?_
  refine ox_br (kX11_takeOrders_130 C hr hlk hnm hR h1 e1 hrc) ?_
  exact s_no
theorem dX11_toldKind_0 : decode cX11_toldKind 0 = .ok (.aload_n 1, 1) := by decide +kernel
theorem dX11_toldKind_1 : decode cX11_toldKind 1 = .ok (.getfield 290, 3) := by decide +kernel
theorem dX11_toldKind_4 : decode cX11_toldKind 4 = .ok (.aload_n 0, 1) := by decide +kernel
theorem dX11_toldKind_5 : decode cX11_toldKind 5 = .ok (.getfield 49, 3) := by decide +kernel
theorem dX11_toldKind_8 : decode cX11_toldKind 8 = .ok (.getfield 298, 3) := by decide +kernel
theorem dX11_toldKind_11 : decode cX11_toldKind 11 = .ok (.iand, 1) := by decide +kernel
theorem dX11_toldKind_12 : decode cX11_toldKind 12 = .ok (.ifCond .eq 5, 3) := by decide +kernel
theorem dX11_toldKind_15 : decode cX11_toldKind 15 = .ok (.iconst 4, 1) := by decide +kernel
theorem dX11_toldKind_16 : decode cX11_toldKind 16 = .ok (.ireturn, 1) := by decide +kernel
theorem dX11_toldKind_17 : decode cX11_toldKind 17 = .ok (.aload_n 1, 1) := by decide +kernel
theorem dX11_toldKind_18 : decode cX11_toldKind 18 = .ok (.getfield 291, 3) := by decide +kernel
theorem dX11_toldKind_21 : decode cX11_toldKind 21 = .ok (.ifCond .ne 5, 3) := by decide +kernel
theorem dX11_toldKind_24 : decode cX11_toldKind 24 = .ok (.iconst 3, 1) := by decide +kernel
theorem dX11_toldKind_25 : decode cX11_toldKind 25 = .ok (.ireturn, 1) := by decide +kernel
theorem dX11_toldKind_26 : decode cX11_toldKind 26 = .ok (.aload_n 1, 1) := by decide +kernel
theorem dX11_toldKind_27 : decode cX11_toldKind 27 = .ok (.getfield 288, 3) := by decide +kernel
theorem dX11_toldKind_30 : decode cX11_toldKind 30 = .ok (.ifCond .ne 5, 3) := by decide +kernel
theorem dX11_toldKind_33 : decode cX11_toldKind 33 = .ok (.iconst 0, 1) := by decide +kernel
theorem dX11_toldKind_34 : decode cX11_toldKind 34 = .ok (.ireturn, 1) := by decide +kernel
theorem dX11_toldKind_35 : decode cX11_toldKind 35 = .ok (.aload_n 0, 1) := by decide +kernel
theorem dX11_toldKind_36 : decode cX11_toldKind 36 = .ok (.getfield 18, 3) := by decide +kernel
theorem dX11_toldKind_39 : decode cX11_toldKind 39 = .ok (.getfield 151, 3) := by decide +kernel
theorem dX11_toldKind_42 : decode cX11_toldKind 42 = .ok (.aload_n 1, 1) := by decide +kernel
theorem dX11_toldKind_43 : decode cX11_toldKind 43 = .ok (.getfield 289, 3) := by decide +kernel
theorem dX11_toldKind_46 : decode cX11_toldKind 46 = .ok (.aaload, 1) := by decide +kernel
theorem dX11_toldKind_47 : decode cX11_toldKind 47 = .ok (.getfield 371, 3) := by decide +kernel
theorem dX11_toldKind_50 : decode cX11_toldKind 50 = .ok (.iconst 1, 1) := by decide +kernel
theorem dX11_toldKind_51 : decode cX11_toldKind 51 = .ok (.iand, 1) := by decide +kernel
theorem dX11_toldKind_52 : decode cX11_toldKind 52 = .ok (.ifCond .eq 7, 3) := by decide +kernel
theorem dX11_toldKind_55 : decode cX11_toldKind 55 = .ok (.iconst 1, 1) := by decide +kernel
theorem dX11_toldKind_56 : decode cX11_toldKind 56 = .ok (.goto 4, 3) := by decide +kernel
theorem dX11_toldKind_59 : decode cX11_toldKind 59 = .ok (.iconst 0, 1) := by decide +kernel
theorem dX11_toldKind_60 : decode cX11_toldKind 60 = .ok (.istore_n 2, 1) := by decide +kernel
theorem dX11_toldKind_61 : decode cX11_toldKind 61 = .ok (.iload_n 2, 1) := by decide +kernel
theorem dX11_toldKind_62 : decode cX11_toldKind 62 = .ok (.ifCond .eq 7, 3) := by decide +kernel
theorem dX11_toldKind_65 : decode cX11_toldKind 65 = .ok (.iconst 2, 1) := by decide +kernel
theorem dX11_toldKind_66 : decode cX11_toldKind 66 = .ok (.goto 4, 3) := by decide +kernel
theorem dX11_toldKind_69 : decode cX11_toldKind 69 = .ok (.iconst 1, 1) := by decide +kernel
theorem dX11_toldKind_70 : decode cX11_toldKind 70 = .ok (.ireturn, 1) := by decide +kernel
def bX11_toldKind_0 (rc : Nat → ox_K) : ox_K := o_al 1 (o_geti 0 3 (o_al 0 (o_getr 11 6 (o_geti 1 5 (o_iand (o_ifeq (rc 17) (o_ic (4) (o_iret))))))))
def bX11_toldKind_17 (rc : Nat → ox_K) : ox_K := o_al 1 (o_geti 0 4 (o_ifne (rc 26) (o_ic (3) (o_iret))))
def bX11_toldKind_26 (rc : Nat → ox_K) : ox_K := o_al 1 (o_geti 0 1 (o_ifne (rc 35) (o_ic (0) (o_iret))))
def bX11_toldKind_35 (rc : Nat → ox_K) : ox_K := o_al 0 (o_getr 11 1 (o_getr 3 1 (o_al 1 (o_geti 0 2 (o_aa 6 (o_geti 6 0 (o_ic (1) (o_iand (o_ifeq (rc 59) (o_ic (1) (rc 60)))))))))))
def bX11_toldKind_59 (rc : Nat → ox_K) : ox_K := o_ic (0) (rc 60)
def bX11_toldKind_60 (rc : Nat → ox_K) : ox_K := o_is 2 (o_il 2 (o_ifeq (rc 69) (o_ic (2) (rc 70))))
def bX11_toldKind_69 (rc : Nat → ox_K) : ox_K := o_ic (1) (rc 70)
def bX11_toldKind_70 (rc : Nat → ox_K) : ox_K := o_iret
section SX11_toldKind
variable {p : Program} {l : Launch} {e : Env} {R : Room} {s : State} {m : MethodId} {args : Array Value} {below : List Frame} {meth : Method} {c : Code} {g : ox_G} {c0 t0 dp  : Nat} {rc : Nat → ox_K}
set_option maxRecDepth 100000 in
theorem kX11_toldKind_0 (C : ox_C p s m args c g 3 cX11_toldKind RX11) (hr : meth.sig.returnType = (some .int)) (hlk : meth.locks = false) (hnm : meth.name = "toldKind") (hR : R.frames = dp ∧ R.locals = 60 * dp) (hrc : ∀ b, ox_S p l e R s m args below meth c g 3 c0 t0 (ox_QM g below args s c0 t0) b (rc b)) : ox_S p l e R s m args below meth c g 3 c0 t0 (ox_QM g below args s c0 t0) 0 (bX11_toldKind_0 rc) := by
  refine s_aload_n (pc := 0) C dX11_toldKind_0 rfl ?_
  refine s_geti (pc := 1) (j := 3) (q := (RX0, TX0, 7)) C rfl (by decide) rfl wF_X11_290 dX11_toldKind_1 ?_
  refine s_aload_n (pc := 4) C dX11_toldKind_4 rfl ?_
  refine s_getr (pc := 5) (j := 6) (q := (RX11, TX11, 13)) C rfl (by decide) rfl wF_X11_49 dX11_toldKind_5 ?_
  refine s_geti (pc := 8) (j := 5) (q := (RX1, TX1, 7)) C rfl (by decide) rfl wF_X11_298 dX11_toldKind_8 ?_
  refine s_iand (pc := 11) C dX11_toldKind_11 ?_
  refine s_ifeq (pc := 12) 17 C dX11_toldKind_12 (by decide) (hrc 17) ?_
  refine s_iconst (pc := 15) C dX11_toldKind_15 (by decide) ?_
  exact s_iret (pc := 16) C hr hlk dX11_toldKind_16
set_option maxRecDepth 100000 in
theorem kX11_toldKind_17 (C : ox_C p s m args c g 3 cX11_toldKind RX11) (hr : meth.sig.returnType = (some .int)) (hlk : meth.locks = false) (hnm : meth.name = "toldKind") (hR : R.frames = dp ∧ R.locals = 60 * dp) (hrc : ∀ b, ox_S p l e R s m args below meth c g 3 c0 t0 (ox_QM g below args s c0 t0) b (rc b)) : ox_S p l e R s m args below meth c g 3 c0 t0 (ox_QM g below args s c0 t0) 17 (bX11_toldKind_17 rc) := by
  refine s_aload_n (pc := 17) C dX11_toldKind_17 rfl ?_
  refine s_geti (pc := 18) (j := 4) (q := (RX0, TX0, 7)) C rfl (by decide) rfl wF_X11_291 dX11_toldKind_18 ?_
  refine s_ifne (pc := 21) 26 C dX11_toldKind_21 (by decide) (hrc 26) ?_
  refine s_iconst (pc := 24) C dX11_toldKind_24 (by decide) ?_
  exact s_iret (pc := 25) C hr hlk dX11_toldKind_25
set_option maxRecDepth 100000 in
theorem kX11_toldKind_26 (C : ox_C p s m args c g 3 cX11_toldKind RX11) (hr : meth.sig.returnType = (some .int)) (hlk : meth.locks = false) (hnm : meth.name = "toldKind") (hR : R.frames = dp ∧ R.locals = 60 * dp) (hrc : ∀ b, ox_S p l e R s m args below meth c g 3 c0 t0 (ox_QM g below args s c0 t0) b (rc b)) : ox_S p l e R s m args below meth c g 3 c0 t0 (ox_QM g below args s c0 t0) 26 (bX11_toldKind_26 rc) := by
  refine s_aload_n (pc := 26) C dX11_toldKind_26 rfl ?_
  refine s_geti (pc := 27) (j := 1) (q := (RX0, TX0, 7)) C rfl (by decide) rfl wF_X11_288 dX11_toldKind_27 ?_
  refine s_ifne (pc := 30) 35 C dX11_toldKind_30 (by decide) (hrc 35) ?_
  refine s_iconst (pc := 33) C dX11_toldKind_33 (by decide) ?_
  exact s_iret (pc := 34) C hr hlk dX11_toldKind_34
set_option maxRecDepth 100000 in
theorem kX11_toldKind_35 (C : ox_C p s m args c g 3 cX11_toldKind RX11) (hr : meth.sig.returnType = (some .int)) (hlk : meth.locks = false) (hnm : meth.name = "toldKind") (hR : R.frames = dp ∧ R.locals = 60 * dp) (hrc : ∀ b, ox_S p l e R s m args below meth c g 3 c0 t0 (ox_QM g below args s c0 t0) b (rc b)) : ox_S p l e R s m args below meth c g 3 c0 t0 (ox_QM g below args s c0 t0) 35 (bX11_toldKind_35 rc) := by
  refine s_aload_n (pc := 35) C dX11_toldKind_35 rfl ?_
  refine s_getr (pc := 36) (j := 1) (q := (RX11, TX11, 13)) C rfl (by decide) rfl wF_X11_18 dX11_toldKind_36 ?_
  refine s_getr (pc := 39) (j := 1) (q := (RX3, TX3, 6)) C rfl (by decide) rfl wF_X11_151 dX11_toldKind_39 ?_
  refine s_aload_n (pc := 42) C dX11_toldKind_42 rfl ?_
  refine s_geti (pc := 43) (j := 2) (q := (RX0, TX0, 7)) C rfl (by decide) rfl wF_X11_289 dX11_toldKind_43 ?_
  refine s_aa (pc := 46) (q := (RX6, TX6, 5)) 5 C rfl dX11_toldKind_46 ?_
  refine s_geti (pc := 47) (j := 0) (q := (RX6, TX6, 5)) C rfl (by decide) rfl wF_X11_371 dX11_toldKind_47 ?_
  refine s_iconst (pc := 50) C dX11_toldKind_50 (by decide) ?_
  refine s_iand (pc := 51) C dX11_toldKind_51 ?_
  refine s_ifeq (pc := 52) 59 C dX11_toldKind_52 (by decide) (hrc 59) ?_
  refine s_iconst (pc := 55) C dX11_toldKind_55 (by decide) ?_
  exact s_goto (pc := 56) 60 C dX11_toldKind_56 (by decide) (hrc 60)
set_option maxRecDepth 100000 in
theorem kX11_toldKind_59 (C : ox_C p s m args c g 3 cX11_toldKind RX11) (hr : meth.sig.returnType = (some .int)) (hlk : meth.locks = false) (hnm : meth.name = "toldKind") (hR : R.frames = dp ∧ R.locals = 60 * dp) (hrc : ∀ b, ox_S p l e R s m args below meth c g 3 c0 t0 (ox_QM g below args s c0 t0) b (rc b)) : ox_S p l e R s m args below meth c g 3 c0 t0 (ox_QM g below args s c0 t0) 59 (bX11_toldKind_59 rc) := by
  refine s_iconst (pc := 59) C dX11_toldKind_59 (by decide) ?_
  exact hrc 60
set_option maxRecDepth 100000 in
theorem kX11_toldKind_60 (C : ox_C p s m args c g 3 cX11_toldKind RX11) (hr : meth.sig.returnType = (some .int)) (hlk : meth.locks = false) (hnm : meth.name = "toldKind") (hR : R.frames = dp ∧ R.locals = 60 * dp) (hrc : ∀ b, ox_S p l e R s m args below meth c g 3 c0 t0 (ox_QM g below args s c0 t0) b (rc b)) : ox_S p l e R s m args below meth c g 3 c0 t0 (ox_QM g below args s c0 t0) 60 (bX11_toldKind_60 rc) := by
  refine s_istore_n (pc := 60) C dX11_toldKind_60 rfl (by decide) ?_
  refine s_iload_n (pc := 61) C dX11_toldKind_61 rfl ?_
  refine s_ifeq (pc := 62) 69 C dX11_toldKind_62 (by decide) (hrc 69) ?_
  refine s_iconst (pc := 65) C dX11_toldKind_65 (by decide) ?_
  exact s_goto (pc := 66) 70 C dX11_toldKind_66 (by decide) (hrc 70)
set_option maxRecDepth 100000 in
theorem kX11_toldKind_69 (C : ox_C p s m args c g 3 cX11_toldKind RX11) (hr : meth.sig.returnType = (some .int)) (hlk : meth.locks = false) (hnm : meth.name = "toldKind") (hR : R.frames = dp ∧ R.locals = 60 * dp) (hrc : ∀ b, ox_S p l e R s m args below meth c g 3 c0 t0 (ox_QM g below args s c0 t0) b (rc b)) : ox_S p l e R s m args below meth c g 3 c0 t0 (ox_QM g below args s c0 t0) 69 (bX11_toldKind_69 rc) := by
  refine s_iconst (pc := 69) C dX11_toldKind_69 (by decide) ?_
  exact hrc 70
set_option maxRecDepth 100000 in
theorem kX11_toldKind_70 (C : ox_C p s m args c g 3 cX11_toldKind RX11) (hr : meth.sig.returnType = (some .int)) (hlk : meth.locks = false) (hnm : meth.name = "toldKind") (hR : R.frames = dp ∧ R.locals = 60 * dp) (hrc : ∀ b, ox_S p l e R s m args below meth c g 3 c0 t0 (ox_QM g below args s c0 t0) b (rc b)) : ox_S p l e R s m args below meth c g 3 c0 t0 (ox_QM g below args s c0 t0) 70 (bX11_toldKind_70 rc) := by
  exact s_iret (pc := 70) C hr hlk dX11_toldKind_70
end SX11_toldKind
def bsX11_toldKind (b : Nat) (rc : Nat → ox_K) : ox_K := if b = 0 then bX11_toldKind_0 rc else if b = 17 then bX11_toldKind_17 rc else if b = 26 then bX11_toldKind_26 rc else if b = 35 then bX11_toldKind_35 rc else if b = 59 then bX11_toldKind_59 rc else if b = 60 then bX11_toldKind_60 rc else if b = 69 then bX11_toldKind_69 rc else if b = 70 then bX11_toldKind_70 rc else ox_no
theorem mX11_toldKind {dp  : Nat} {f : ox_F} (hf : ∀ as h r, f as h = some r → ox_cs as ≤ 3 ∧ ox_le h r.2 ∧ ∃ n, ox_run (bsX11_toldKind) n 0 (lv_args 0 as) [] h = some r) : ox_Sem yX11_toldKind cX11_toldKind 3 (some .int) dp f := by
  refine ox_meth (bs := bsX11_toldKind) (by decide) hf ?_
  intro p l e R s m args below meth c g c0 t0 C hr hlk hnm hR rc hrc b
  unfold bsX11_toldKind
  refine ox_br (kX11_toldKind_0 C hr hlk hnm hR hrc) ?_
  refine ox_br (kX11_toldKind_17 C hr hlk hnm hR hrc) ?_
  refine ox_br (kX11_toldKind_26 C hr hlk hnm hR hrc) ?_
  refine ox_br (kX11_toldKind_35 C hr hlk hnm hR hrc) ?_
  refine ox_br (kX11_toldKind_59 C hr hlk hnm hR hrc) ?_
  refine ox_br (kX11_toldKind_60 C hr hlk hnm hR hrc) ?_
  refine ox_br (kX11_toldKind_69 C hr hlk hnm hR hrc) ?_
  refine ox_br (kX11_toldKind_70 C hr hlk hnm hR hrc) ?_
  exact s_no
theorem dX11_body_0 : decode cX11_body 0 = .ok (.iload 4, 2) := by decide +kernel
theorem dX11_body_2 : decode cX11_body 2 = .ok (.bipush 8, 2) := by decide +kernel
theorem dX11_body_4 : decode cX11_body 4 = .ok (.if_icmp .lt 5, 3) := by decide +kernel
theorem dX11_body_7 : decode cX11_body 7 = .ok (.iconst 0, 1) := by decide +kernel
theorem dX11_body_8 : decode cX11_body 8 = .ok (.ireturn, 1) := by decide +kernel
theorem dX11_body_9 : decode cX11_body 9 = .ok (.aload_n 0, 1) := by decide +kernel
theorem dX11_body_10 : decode cX11_body 10 = .ok (.getfield 333, 3) := by decide +kernel
theorem dX11_body_13 : decode cX11_body 13 = .ok (.bipush 16, 2) := by decide +kernel
theorem dX11_body_15 : decode cX11_body 15 = .ok (.if_icmp .ge 23, 3) := by decide +kernel
theorem dX11_body_18 : decode cX11_body 18 = .ok (.aload_n 0, 1) := by decide +kernel
theorem dX11_body_19 : decode cX11_body 19 = .ok (.getfield 60, 3) := by decide +kernel
theorem dX11_body_22 : decode cX11_body 22 = .ok (.aload_n 0, 1) := by decide +kernel
theorem dX11_body_23 : decode cX11_body 23 = .ok (.getfield 333, 3) := by decide +kernel
theorem dX11_body_26 : decode cX11_body 26 = .ok (.iload_n 1, 1) := by decide +kernel
theorem dX11_body_27 : decode cX11_body 27 = .ok (.iastore, 1) := by decide +kernel
theorem dX11_body_28 : decode cX11_body 28 = .ok (.aload_n 0, 1) := by decide +kernel
theorem dX11_body_29 : decode cX11_body 29 = .ok (.dup, 1) := by decide +kernel
theorem dX11_body_30 : decode cX11_body 30 = .ok (.getfield 333, 3) := by decide +kernel
theorem dX11_body_33 : decode cX11_body 33 = .ok (.iconst 1, 1) := by decide +kernel
theorem dX11_body_34 : decode cX11_body 34 = .ok (.iadd, 1) := by decide +kernel
theorem dX11_body_35 : decode cX11_body 35 = .ok (.putfield 333, 3) := by decide +kernel
theorem dX11_body_38 : decode cX11_body 38 = .ok (.iload 4, 2) := by decide +kernel
theorem dX11_body_40 : decode cX11_body 40 = .ok (.iconst 1, 1) := by decide +kernel
theorem dX11_body_41 : decode cX11_body 41 = .ok (.iadd, 1) := by decide +kernel
theorem dX11_body_42 : decode cX11_body 42 = .ok (.istore 5, 2) := by decide +kernel
theorem dX11_body_44 : decode cX11_body 44 = .ok (.iload_n 1, 1) := by decide +kernel
theorem dX11_body_45 : decode cX11_body 45 = .ok (.tableswitch 194 11 23 #[67, 83, 96, 121, 194, 194, 194, 194, 194, 133, 138, 153, 178], 67) := by decide +kernel
theorem dX11_body_112 : decode cX11_body 112 = .ok (.aload_n 0, 1) := by decide +kernel
theorem dX11_body_113 : decode cX11_body 113 = .ok (.bipush 10, 2) := by decide +kernel
theorem dX11_body_115 : decode cX11_body 115 = .ok (.aload_n 2, 1) := by decide +kernel
theorem dX11_body_116 : decode cX11_body 116 = .ok (.iload_n 3, 1) := by decide +kernel
theorem dX11_body_117 : decode cX11_body 117 = .ok (.iload 5, 2) := by decide +kernel
theorem dX11_body_119 : decode cX11_body 119 = .ok (.invokevirtual 342, 3) := by decide +kernel
theorem dX11_body_122 : decode cX11_body 122 = .ok (.aload_n 2, 1) := by decide +kernel
theorem dX11_body_123 : decode cX11_body 123 = .ok (.getfield 288, 3) := by decide +kernel
theorem dX11_body_126 : decode cX11_body 126 = .ok (.iadd, 1) := by decide +kernel
theorem dX11_body_127 : decode cX11_body 127 = .ok (.ireturn, 1) := by decide +kernel
theorem dX11_body_128 : decode cX11_body 128 = .ok (.iconst 2, 1) := by decide +kernel
theorem dX11_body_129 : decode cX11_body 129 = .ok (.aload_n 0, 1) := by decide +kernel
theorem dX11_body_130 : decode cX11_body 130 = .ok (.bipush 11, 2) := by decide +kernel
theorem dX11_body_132 : decode cX11_body 132 = .ok (.aload_n 2, 1) := by decide +kernel
theorem dX11_body_133 : decode cX11_body 133 = .ok (.iload_n 3, 1) := by decide +kernel
theorem dX11_body_134 : decode cX11_body 134 = .ok (.iload 5, 2) := by decide +kernel
theorem dX11_body_136 : decode cX11_body 136 = .ok (.invokevirtual 342, 3) := by decide +kernel
theorem dX11_body_139 : decode cX11_body 139 = .ok (.imul, 1) := by decide +kernel
theorem dX11_body_140 : decode cX11_body 140 = .ok (.ireturn, 1) := by decide +kernel
theorem dX11_body_141 : decode cX11_body 141 = .ok (.aload_n 0, 1) := by decide +kernel
theorem dX11_body_142 : decode cX11_body 142 = .ok (.bipush 10, 2) := by decide +kernel
theorem dX11_body_144 : decode cX11_body 144 = .ok (.aload_n 2, 1) := by decide +kernel
theorem dX11_body_145 : decode cX11_body 145 = .ok (.iload_n 3, 1) := by decide +kernel
theorem dX11_body_146 : decode cX11_body 146 = .ok (.iload 5, 2) := by decide +kernel
theorem dX11_body_148 : decode cX11_body 148 = .ok (.invokevirtual 342, 3) := by decide +kernel
theorem dX11_body_151 : decode cX11_body 151 = .ok (.aload_n 0, 1) := by decide +kernel
theorem dX11_body_152 : decode cX11_body 152 = .ok (.getstatic 339, 3) := by decide +kernel
theorem dX11_body_155 : decode cX11_body 155 = .ok (.iload_n 3, 1) := by decide +kernel
theorem dX11_body_156 : decode cX11_body 156 = .ok (.iaload, 1) := by decide +kernel
theorem dX11_body_157 : decode cX11_body 157 = .ok (.aload_n 2, 1) := by decide +kernel
theorem dX11_body_158 : decode cX11_body 158 = .ok (.iload_n 3, 1) := by decide +kernel
theorem dX11_body_159 : decode cX11_body 159 = .ok (.iload 5, 2) := by decide +kernel
theorem dX11_body_161 : decode cX11_body 161 = .ok (.invokevirtual 342, 3) := by decide +kernel
theorem dX11_body_164 : decode cX11_body 164 = .ok (.isub, 1) := by decide +kernel
theorem dX11_body_165 : decode cX11_body 165 = .ok (.ireturn, 1) := by decide +kernel
theorem dX11_body_166 : decode cX11_body 166 = .ok (.aload_n 0, 1) := by decide +kernel
theorem dX11_body_167 : decode cX11_body 167 = .ok (.bipush 10, 2) := by decide +kernel
theorem dX11_body_169 : decode cX11_body 169 = .ok (.aload_n 2, 1) := by decide +kernel
theorem dX11_body_170 : decode cX11_body 170 = .ok (.iload_n 3, 1) := by decide +kernel
theorem dX11_body_171 : decode cX11_body 171 = .ok (.iload 5, 2) := by decide +kernel
theorem dX11_body_173 : decode cX11_body 173 = .ok (.invokevirtual 342, 3) := by decide +kernel
theorem dX11_body_176 : decode cX11_body 176 = .ok (.ineg, 1) := by decide +kernel
theorem dX11_body_177 : decode cX11_body 177 = .ok (.ireturn, 1) := by decide +kernel
theorem dX11_body_178 : decode cX11_body 178 = .ok (.aload_n 2, 1) := by decide +kernel
theorem dX11_body_179 : decode cX11_body 179 = .ok (.getfield 292, 3) := by decide +kernel
theorem dX11_body_182 : decode cX11_body 182 = .ok (.ireturn, 1) := by decide +kernel
theorem dX11_body_183 : decode cX11_body 183 = .ok (.aload_n 0, 1) := by decide +kernel
theorem dX11_body_184 : decode cX11_body 184 = .ok (.bipush 20, 2) := by decide +kernel
theorem dX11_body_186 : decode cX11_body 186 = .ok (.aload_n 2, 1) := by decide +kernel
theorem dX11_body_187 : decode cX11_body 187 = .ok (.iload_n 3, 1) := by decide +kernel
theorem dX11_body_188 : decode cX11_body 188 = .ok (.iload 5, 2) := by decide +kernel
theorem dX11_body_190 : decode cX11_body 190 = .ok (.invokevirtual 342, 3) := by decide +kernel
theorem dX11_body_193 : decode cX11_body 193 = .ok (.sipush 1000, 3) := by decide +kernel
theorem dX11_body_196 : decode cX11_body 196 = .ok (.iadd, 1) := by decide +kernel
theorem dX11_body_197 : decode cX11_body 197 = .ok (.ireturn, 1) := by decide +kernel
theorem dX11_body_198 : decode cX11_body 198 = .ok (.aload_n 0, 1) := by decide +kernel
theorem dX11_body_199 : decode cX11_body 199 = .ok (.bipush 21, 2) := by decide +kernel
theorem dX11_body_201 : decode cX11_body 201 = .ok (.aload_n 2, 1) := by decide +kernel
theorem dX11_body_202 : decode cX11_body 202 = .ok (.iload_n 3, 1) := by decide +kernel
theorem dX11_body_203 : decode cX11_body 203 = .ok (.iload 5, 2) := by decide +kernel
theorem dX11_body_205 : decode cX11_body 205 = .ok (.invokevirtual 342, 3) := by decide +kernel
theorem dX11_body_208 : decode cX11_body 208 = .ok (.aload_n 0, 1) := by decide +kernel
theorem dX11_body_209 : decode cX11_body 209 = .ok (.getstatic 336, 3) := by decide +kernel
theorem dX11_body_212 : decode cX11_body 212 = .ok (.iload_n 3, 1) := by decide +kernel
theorem dX11_body_213 : decode cX11_body 213 = .ok (.iaload, 1) := by decide +kernel
theorem dX11_body_214 : decode cX11_body 214 = .ok (.aload_n 2, 1) := by decide +kernel
theorem dX11_body_215 : decode cX11_body 215 = .ok (.iload_n 3, 1) := by decide +kernel
theorem dX11_body_216 : decode cX11_body 216 = .ok (.iload 5, 2) := by decide +kernel
theorem dX11_body_218 : decode cX11_body 218 = .ok (.invokevirtual 342, 3) := by decide +kernel
theorem dX11_body_221 : decode cX11_body 221 = .ok (.iadd, 1) := by decide +kernel
theorem dX11_body_222 : decode cX11_body 222 = .ok (.ireturn, 1) := by decide +kernel
theorem dX11_body_223 : decode cX11_body 223 = .ok (.aload_n 0, 1) := by decide +kernel
theorem dX11_body_224 : decode cX11_body 224 = .ok (.bipush 20, 2) := by decide +kernel
theorem dX11_body_226 : decode cX11_body 226 = .ok (.aload_n 2, 1) := by decide +kernel
theorem dX11_body_227 : decode cX11_body 227 = .ok (.iload_n 3, 1) := by decide +kernel
theorem dX11_body_228 : decode cX11_body 228 = .ok (.iload 5, 2) := by decide +kernel
theorem dX11_body_230 : decode cX11_body 230 = .ok (.invokevirtual 342, 3) := by decide +kernel
theorem dX11_body_233 : decode cX11_body 233 = .ok (.aload_n 2, 1) := by decide +kernel
theorem dX11_body_234 : decode cX11_body 234 = .ok (.getfield 290, 3) := by decide +kernel
theorem dX11_body_237 : decode cX11_body 237 = .ok (.iadd, 1) := by decide +kernel
theorem dX11_body_238 : decode cX11_body 238 = .ok (.ireturn, 1) := by decide +kernel
theorem dX11_body_239 : decode cX11_body 239 = .ok (.aload_n 2, 1) := by decide +kernel
theorem dX11_body_240 : decode cX11_body 240 = .ok (.getfield 285, 3) := by decide +kernel
theorem dX11_body_243 : decode cX11_body 243 = .ok (.ireturn, 1) := by decide +kernel
def bX11_body_0 (f1 : ox_F) (rc : Nat → ox_K) : ox_K := o_il 4 (o_ic (8) (o_iclt (rc 9) (o_ic (0) (o_iret))))
def bX11_body_9 (f1 : ox_F) (rc : Nat → ox_K) : ox_K := o_al 0 (o_geti 11 9 (o_ic (16) (o_icge (rc 38) (o_al 0 (o_getr 11 8 (o_al 0 (o_geti 11 9 (o_il 1 (o_iast (o_al 0 (o_dup (o_geti 11 9 (o_ic (1) (o_iadd (o_puti 11 9 (rc 38))))))))))))))))
def bX11_body_38 (f1 : ox_F) (rc : Nat → ox_K) : ox_K := o_il 4 (o_ic (1) (o_iadd (o_is 5 (o_il 1 (o_tsw 11 [rc 112, rc 128, rc 141, rc 166, rc 239, rc 239, rc 239, rc 239, rc 239, rc 178, rc 183, rc 198, rc 223] (rc 239))))))
def bX11_body_112 (f1 : ox_F) (rc : Nat → ox_K) : ox_K := o_al 0 (o_ic (10) (o_al 2 (o_il 3 (o_il 5 (o_cv f1 11 4 (o_al 2 (o_geti 0 1 (o_iadd (o_iret)))))))))
def bX11_body_128 (f1 : ox_F) (rc : Nat → ox_K) : ox_K := o_ic (2) (o_al 0 (o_ic (11) (o_al 2 (o_il 3 (o_il 5 (o_cv f1 11 4 (o_imul (o_iret))))))))
def bX11_body_141 (f1 : ox_F) (rc : Nat → ox_K) : ox_K := o_al 0 (o_ic (10) (o_al 2 (o_il 3 (o_il 5 (o_cv f1 11 4 (o_al 0 (o_gs 6 (o_il 3 (o_ia (o_al 2 (o_il 3 (o_il 5 (o_cv f1 11 4 (o_isub (o_iret)))))))))))))))
def bX11_body_166 (f1 : ox_F) (rc : Nat → ox_K) : ox_K := o_al 0 (o_ic (10) (o_al 2 (o_il 3 (o_il 5 (o_cv f1 11 4 (o_ineg (o_iret)))))))
def bX11_body_178 (f1 : ox_F) (rc : Nat → ox_K) : ox_K := o_al 2 (o_geti 0 5 (o_iret))
def bX11_body_183 (f1 : ox_F) (rc : Nat → ox_K) : ox_K := o_al 0 (o_ic (20) (o_al 2 (o_il 3 (o_il 5 (o_cv f1 11 4 (o_ic (1000) (o_iadd (o_iret))))))))
def bX11_body_198 (f1 : ox_F) (rc : Nat → ox_K) : ox_K := o_al 0 (o_ic (21) (o_al 2 (o_il 3 (o_il 5 (o_cv f1 11 4 (o_al 0 (o_gs 5 (o_il 3 (o_ia (o_al 2 (o_il 3 (o_il 5 (o_cv f1 11 4 (o_iadd (o_iret)))))))))))))))
def bX11_body_223 (f1 : ox_F) (rc : Nat → ox_K) : ox_K := o_al 0 (o_ic (20) (o_al 2 (o_il 3 (o_il 5 (o_cv f1 11 4 (o_al 2 (o_geti 0 3 (o_iadd (o_iret)))))))))
def bX11_body_239 (f1 : ox_F) (rc : Nat → ox_K) : ox_K := o_al 2 (o_geti 0 0 (o_iret))
section SX11_body
variable {p : Program} {l : Launch} {e : Env} {R : Room} {s : State} {m : MethodId} {args : Array Value} {below : List Frame} {meth : Method} {c : Code} {g : ox_G} {c0 t0 dp d1 : Nat} {rc : Nat → ox_K} {f1 : ox_F}
set_option maxRecDepth 100000 in
theorem kX11_body_0 (C : ox_C p s m args c g 6 cX11_body RX11) (hr : meth.sig.returnType = (some .int)) (hlk : meth.locks = false) (hnm : meth.name = "body") (hR : R.frames = dp ∧ R.locals = 60 * dp) (h1 : ox_Sem yX11_body cX11_body 6 (some .int) d1 f1) (e1 : d1 + 1 ≤ dp) (hrc : ∀ b, ox_S p l e R s m args below meth c g 6 c0 t0 (ox_QM g below args s c0 t0) b (rc b)) : ox_S p l e R s m args below meth c g 6 c0 t0 (ox_QM g below args s c0 t0) 0 (bX11_body_0 f1 rc) := by
  refine s_iload (pc := 0) C dX11_body_0 ?_
  refine s_bipush (pc := 2) C dX11_body_2 (by decide) ?_
  refine s_icmplt (pc := 4) 9 C dX11_body_4 (by decide) (hrc 9) ?_
  refine s_iconst (pc := 7) C dX11_body_7 (by decide) ?_
  exact s_iret (pc := 8) C hr hlk dX11_body_8
set_option maxRecDepth 100000 in
theorem kX11_body_9 (C : ox_C p s m args c g 6 cX11_body RX11) (hr : meth.sig.returnType = (some .int)) (hlk : meth.locks = false) (hnm : meth.name = "body") (hR : R.frames = dp ∧ R.locals = 60 * dp) (h1 : ox_Sem yX11_body cX11_body 6 (some .int) d1 f1) (e1 : d1 + 1 ≤ dp) (hrc : ∀ b, ox_S p l e R s m args below meth c g 6 c0 t0 (ox_QM g below args s c0 t0) b (rc b)) : ox_S p l e R s m args below meth c g 6 c0 t0 (ox_QM g below args s c0 t0) 9 (bX11_body_9 f1 rc) := by
  refine s_aload_n (pc := 9) C dX11_body_9 rfl ?_
  refine s_geti (pc := 10) (j := 9) (q := (RX11, TX11, 13)) C rfl (by decide) rfl wF_X11_333 dX11_body_10 ?_
  refine s_bipush (pc := 13) C dX11_body_13 (by decide) ?_
  refine s_icmpge (pc := 15) 38 C dX11_body_15 (by decide) (hrc 38) ?_
  refine s_aload_n (pc := 18) C dX11_body_18 rfl ?_
  refine s_getr (pc := 19) (j := 8) (q := (RX11, TX11, 13)) C rfl (by decide) rfl wF_X11_60 dX11_body_19 ?_
  refine s_aload_n (pc := 22) C dX11_body_22 rfl ?_
  refine s_geti (pc := 23) (j := 9) (q := (RX11, TX11, 13)) C rfl (by decide) rfl wF_X11_333 dX11_body_23 ?_
  refine s_iload_n (pc := 26) C dX11_body_26 rfl ?_
  refine s_iast (pc := 27) C dX11_body_27 ?_
  refine s_aload_n (pc := 28) C dX11_body_28 rfl ?_
  refine s_dup (pc := 29) C dX11_body_29 ?_
  refine s_geti (pc := 30) (j := 9) (q := (RX11, TX11, 13)) C rfl (by decide) rfl wF_X11_333 dX11_body_30 ?_
  refine s_iconst (pc := 33) C dX11_body_33 (by decide) ?_
  refine s_iadd (pc := 34) C dX11_body_34 ?_
  refine s_puti (pc := 35) (j := 9) (q := (RX11, TX11, 13)) C rfl (by decide) rfl (Or.inl rfl) wF_X11_333 dX11_body_35 ?_
  exact hrc 38
set_option maxRecDepth 100000 in
theorem kX11_body_38 (C : ox_C p s m args c g 6 cX11_body RX11) (hr : meth.sig.returnType = (some .int)) (hlk : meth.locks = false) (hnm : meth.name = "body") (hR : R.frames = dp ∧ R.locals = 60 * dp) (h1 : ox_Sem yX11_body cX11_body 6 (some .int) d1 f1) (e1 : d1 + 1 ≤ dp) (hrc : ∀ b, ox_S p l e R s m args below meth c g 6 c0 t0 (ox_QM g below args s c0 t0) b (rc b)) : ox_S p l e R s m args below meth c g 6 c0 t0 (ox_QM g below args s c0 t0) 38 (bX11_body_38 f1 rc) := by
  refine s_iload (pc := 38) C dX11_body_38 ?_
  refine s_iconst (pc := 40) C dX11_body_40 (by decide) ?_
  refine s_iadd (pc := 41) C dX11_body_41 ?_
  refine s_istore (pc := 42) C dX11_body_42 (by decide) ?_
  refine s_iload_n (pc := 44) C dX11_body_44 rfl ?_
  exact s_tsw (pc := 45) 239 [112, 128, 141, 166, 239, 239, 239, 239, 239, 178, 183, 198, 223] C dX11_body_45 (by decide) rfl (by decide +kernel) (hrc 239) (ox_ts hrc [112, 128, 141, 166, 239, 239, 239, 239, 239, 178, 183, 198, 223]) rfl
set_option maxRecDepth 100000 in
theorem kX11_body_112 (C : ox_C p s m args c g 6 cX11_body RX11) (hr : meth.sig.returnType = (some .int)) (hlk : meth.locks = false) (hnm : meth.name = "body") (hR : R.frames = dp ∧ R.locals = 60 * dp) (h1 : ox_Sem yX11_body cX11_body 6 (some .int) d1 f1) (e1 : d1 + 1 ≤ dp) (hrc : ∀ b, ox_S p l e R s m args below meth c g 6 c0 t0 (ox_QM g below args s c0 t0) b (rc b)) : ox_S p l e R s m args below meth c g 6 c0 t0 (ox_QM g below args s c0 t0) 112 (bX11_body_112 f1 rc) := by
  refine s_aload_n (pc := 112) C dX11_body_112 rfl ?_
  refine s_bipush (pc := 113) C dX11_body_113 (by decide) ?_
  refine s_aload_n (pc := 115) C dX11_body_115 rfl ?_
  refine s_iload_n (pc := 116) C dX11_body_116 rfl ?_
  refine s_iload (pc := 117) C dX11_body_117 ?_
  refine s_cv (pc := 119) (q := (RX11, TX11, 13)) C h1 rfl wM_X11_342 wI_X11_body wS_X11_body wN_X11 wC_X11_body (by decide +kernel) (ox_lv hR e1 (by decide)) dX11_body_119 ?_
  refine s_aload_n (pc := 122) C dX11_body_122 rfl ?_
  refine s_geti (pc := 123) (j := 1) (q := (RX0, TX0, 7)) C rfl (by decide) rfl wF_X11_288 dX11_body_123 ?_
  refine s_iadd (pc := 126) C dX11_body_126 ?_
  exact s_iret (pc := 127) C hr hlk dX11_body_127
set_option maxRecDepth 100000 in
theorem kX11_body_128 (C : ox_C p s m args c g 6 cX11_body RX11) (hr : meth.sig.returnType = (some .int)) (hlk : meth.locks = false) (hnm : meth.name = "body") (hR : R.frames = dp ∧ R.locals = 60 * dp) (h1 : ox_Sem yX11_body cX11_body 6 (some .int) d1 f1) (e1 : d1 + 1 ≤ dp) (hrc : ∀ b, ox_S p l e R s m args below meth c g 6 c0 t0 (ox_QM g below args s c0 t0) b (rc b)) : ox_S p l e R s m args below meth c g 6 c0 t0 (ox_QM g below args s c0 t0) 128 (bX11_body_128 f1 rc) := by
  refine s_iconst (pc := 128) C dX11_body_128 (by decide) ?_
  refine s_aload_n (pc := 129) C dX11_body_129 rfl ?_
  refine s_bipush (pc := 130) C dX11_body_130 (by decide) ?_
  refine s_aload_n (pc := 132) C dX11_body_132 rfl ?_
  refine s_iload_n (pc := 133) C dX11_body_133 rfl ?_
  refine s_iload (pc := 134) C dX11_body_134 ?_
  refine s_cv (pc := 136) (q := (RX11, TX11, 13)) C h1 rfl wM_X11_342 wI_X11_body wS_X11_body wN_X11 wC_X11_body (by decide +kernel) (ox_lv hR e1 (by decide)) dX11_body_136 ?_
  refine s_imul (pc := 139) C dX11_body_139 ?_
  exact s_iret (pc := 140) C hr hlk dX11_body_140
set_option maxRecDepth 100000 in
theorem kX11_body_141 (C : ox_C p s m args c g 6 cX11_body RX11) (hr : meth.sig.returnType = (some .int)) (hlk : meth.locks = false) (hnm : meth.name = "body") (hR : R.frames = dp ∧ R.locals = 60 * dp) (h1 : ox_Sem yX11_body cX11_body 6 (some .int) d1 f1) (e1 : d1 + 1 ≤ dp) (hrc : ∀ b, ox_S p l e R s m args below meth c g 6 c0 t0 (ox_QM g below args s c0 t0) b (rc b)) : ox_S p l e R s m args below meth c g 6 c0 t0 (ox_QM g below args s c0 t0) 141 (bX11_body_141 f1 rc) := by
  refine s_aload_n (pc := 141) C dX11_body_141 rfl ?_
  refine s_bipush (pc := 142) C dX11_body_142 (by decide) ?_
  refine s_aload_n (pc := 144) C dX11_body_144 rfl ?_
  refine s_iload_n (pc := 145) C dX11_body_145 rfl ?_
  refine s_iload (pc := 146) C dX11_body_146 ?_
  refine s_cv (pc := 148) (q := (RX11, TX11, 13)) C h1 rfl wM_X11_342 wI_X11_body wS_X11_body wN_X11 wC_X11_body (by decide +kernel) (ox_lv hR e1 (by decide)) dX11_body_148 ?_
  refine s_aload_n (pc := 151) C dX11_body_151 rfl ?_
  refine s_gs (pc := 152) (C1 := "SweetLine") (n1 := "MARK_BODY") (d1 := "[I") C (by decide +kernel) wF_X11_339 dX11_body_152 ?_
  refine s_iload_n (pc := 155) C dX11_body_155 rfl ?_
  refine s_ia (pc := 156) C dX11_body_156 ?_
  refine s_aload_n (pc := 157) C dX11_body_157 rfl ?_
  refine s_iload_n (pc := 158) C dX11_body_158 rfl ?_
  refine s_iload (pc := 159) C dX11_body_159 ?_
  refine s_cv (pc := 161) (q := (RX11, TX11, 13)) C h1 rfl wM_X11_342 wI_X11_body wS_X11_body wN_X11 wC_X11_body (by decide +kernel) (ox_lv hR e1 (by decide)) dX11_body_161 ?_
  refine s_isub (pc := 164) C dX11_body_164 ?_
  exact s_iret (pc := 165) C hr hlk dX11_body_165
set_option maxRecDepth 100000 in
theorem kX11_body_166 (C : ox_C p s m args c g 6 cX11_body RX11) (hr : meth.sig.returnType = (some .int)) (hlk : meth.locks = false) (hnm : meth.name = "body") (hR : R.frames = dp ∧ R.locals = 60 * dp) (h1 : ox_Sem yX11_body cX11_body 6 (some .int) d1 f1) (e1 : d1 + 1 ≤ dp) (hrc : ∀ b, ox_S p l e R s m args below meth c g 6 c0 t0 (ox_QM g below args s c0 t0) b (rc b)) : ox_S p l e R s m args below meth c g 6 c0 t0 (ox_QM g below args s c0 t0) 166 (bX11_body_166 f1 rc) := by
  refine s_aload_n (pc := 166) C dX11_body_166 rfl ?_
  refine s_bipush (pc := 167) C dX11_body_167 (by decide) ?_
  refine s_aload_n (pc := 169) C dX11_body_169 rfl ?_
  refine s_iload_n (pc := 170) C dX11_body_170 rfl ?_
  refine s_iload (pc := 171) C dX11_body_171 ?_
  refine s_cv (pc := 173) (q := (RX11, TX11, 13)) C h1 rfl wM_X11_342 wI_X11_body wS_X11_body wN_X11 wC_X11_body (by decide +kernel) (ox_lv hR e1 (by decide)) dX11_body_173 ?_
  refine s_ineg (pc := 176) C dX11_body_176 ?_
  exact s_iret (pc := 177) C hr hlk dX11_body_177
set_option maxRecDepth 100000 in
theorem kX11_body_178 (C : ox_C p s m args c g 6 cX11_body RX11) (hr : meth.sig.returnType = (some .int)) (hlk : meth.locks = false) (hnm : meth.name = "body") (hR : R.frames = dp ∧ R.locals = 60 * dp) (h1 : ox_Sem yX11_body cX11_body 6 (some .int) d1 f1) (e1 : d1 + 1 ≤ dp) (hrc : ∀ b, ox_S p l e R s m args below meth c g 6 c0 t0 (ox_QM g below args s c0 t0) b (rc b)) : ox_S p l e R s m args below meth c g 6 c0 t0 (ox_QM g below args s c0 t0) 178 (bX11_body_178 f1 rc) := by
  refine s_aload_n (pc := 178) C dX11_body_178 rfl ?_
  refine s_geti (pc := 179) (j := 5) (q := (RX0, TX0, 7)) C rfl (by decide) rfl wF_X11_292 dX11_body_179 ?_
  exact s_iret (pc := 182) C hr hlk dX11_body_182
set_option maxRecDepth 100000 in
theorem kX11_body_183 (C : ox_C p s m args c g 6 cX11_body RX11) (hr : meth.sig.returnType = (some .int)) (hlk : meth.locks = false) (hnm : meth.name = "body") (hR : R.frames = dp ∧ R.locals = 60 * dp) (h1 : ox_Sem yX11_body cX11_body 6 (some .int) d1 f1) (e1 : d1 + 1 ≤ dp) (hrc : ∀ b, ox_S p l e R s m args below meth c g 6 c0 t0 (ox_QM g below args s c0 t0) b (rc b)) : ox_S p l e R s m args below meth c g 6 c0 t0 (ox_QM g below args s c0 t0) 183 (bX11_body_183 f1 rc) := by
  refine s_aload_n (pc := 183) C dX11_body_183 rfl ?_
  refine s_bipush (pc := 184) C dX11_body_184 (by decide) ?_
  refine s_aload_n (pc := 186) C dX11_body_186 rfl ?_
  refine s_iload_n (pc := 187) C dX11_body_187 rfl ?_
  refine s_iload (pc := 188) C dX11_body_188 ?_
  refine s_cv (pc := 190) (q := (RX11, TX11, 13)) C h1 rfl wM_X11_342 wI_X11_body wS_X11_body wN_X11 wC_X11_body (by decide +kernel) (ox_lv hR e1 (by decide)) dX11_body_190 ?_
  refine s_sipush (pc := 193) C dX11_body_193 (by decide) ?_
  refine s_iadd (pc := 196) C dX11_body_196 ?_
  exact s_iret (pc := 197) C hr hlk dX11_body_197
set_option maxRecDepth 100000 in
theorem kX11_body_198 (C : ox_C p s m args c g 6 cX11_body RX11) (hr : meth.sig.returnType = (some .int)) (hlk : meth.locks = false) (hnm : meth.name = "body") (hR : R.frames = dp ∧ R.locals = 60 * dp) (h1 : ox_Sem yX11_body cX11_body 6 (some .int) d1 f1) (e1 : d1 + 1 ≤ dp) (hrc : ∀ b, ox_S p l e R s m args below meth c g 6 c0 t0 (ox_QM g below args s c0 t0) b (rc b)) : ox_S p l e R s m args below meth c g 6 c0 t0 (ox_QM g below args s c0 t0) 198 (bX11_body_198 f1 rc) := by
  refine s_aload_n (pc := 198) C dX11_body_198 rfl ?_
  refine s_bipush (pc := 199) C dX11_body_199 (by decide) ?_
  refine s_aload_n (pc := 201) C dX11_body_201 rfl ?_
  refine s_iload_n (pc := 202) C dX11_body_202 rfl ?_
  refine s_iload (pc := 203) C dX11_body_203 ?_
  refine s_cv (pc := 205) (q := (RX11, TX11, 13)) C h1 rfl wM_X11_342 wI_X11_body wS_X11_body wN_X11 wC_X11_body (by decide +kernel) (ox_lv hR e1 (by decide)) dX11_body_205 ?_
  refine s_aload_n (pc := 208) C dX11_body_208 rfl ?_
  refine s_gs (pc := 209) (C1 := "SweetLine") (n1 := "SIZE_BODY") (d1 := "[I") C (by decide +kernel) wF_X11_336 dX11_body_209 ?_
  refine s_iload_n (pc := 212) C dX11_body_212 rfl ?_
  refine s_ia (pc := 213) C dX11_body_213 ?_
  refine s_aload_n (pc := 214) C dX11_body_214 rfl ?_
  refine s_iload_n (pc := 215) C dX11_body_215 rfl ?_
  refine s_iload (pc := 216) C dX11_body_216 ?_
  refine s_cv (pc := 218) (q := (RX11, TX11, 13)) C h1 rfl wM_X11_342 wI_X11_body wS_X11_body wN_X11 wC_X11_body (by decide +kernel) (ox_lv hR e1 (by decide)) dX11_body_218 ?_
  refine s_iadd (pc := 221) C dX11_body_221 ?_
  exact s_iret (pc := 222) C hr hlk dX11_body_222
set_option maxRecDepth 100000 in
theorem kX11_body_223 (C : ox_C p s m args c g 6 cX11_body RX11) (hr : meth.sig.returnType = (some .int)) (hlk : meth.locks = false) (hnm : meth.name = "body") (hR : R.frames = dp ∧ R.locals = 60 * dp) (h1 : ox_Sem yX11_body cX11_body 6 (some .int) d1 f1) (e1 : d1 + 1 ≤ dp) (hrc : ∀ b, ox_S p l e R s m args below meth c g 6 c0 t0 (ox_QM g below args s c0 t0) b (rc b)) : ox_S p l e R s m args below meth c g 6 c0 t0 (ox_QM g below args s c0 t0) 223 (bX11_body_223 f1 rc) := by
  refine s_aload_n (pc := 223) C dX11_body_223 rfl ?_
  refine s_bipush (pc := 224) C dX11_body_224 (by decide) ?_
  refine s_aload_n (pc := 226) C dX11_body_226 rfl ?_
  refine s_iload_n (pc := 227) C dX11_body_227 rfl ?_
  refine s_iload (pc := 228) C dX11_body_228 ?_
  refine s_cv (pc := 230) (q := (RX11, TX11, 13)) C h1 rfl wM_X11_342 wI_X11_body wS_X11_body wN_X11 wC_X11_body (by decide +kernel) (ox_lv hR e1 (by decide)) dX11_body_230 ?_
  refine s_aload_n (pc := 233) C dX11_body_233 rfl ?_
  refine s_geti (pc := 234) (j := 3) (q := (RX0, TX0, 7)) C rfl (by decide) rfl wF_X11_290 dX11_body_234 ?_
  refine s_iadd (pc := 237) C dX11_body_237 ?_
  exact s_iret (pc := 238) C hr hlk dX11_body_238
set_option maxRecDepth 100000 in
theorem kX11_body_239 (C : ox_C p s m args c g 6 cX11_body RX11) (hr : meth.sig.returnType = (some .int)) (hlk : meth.locks = false) (hnm : meth.name = "body") (hR : R.frames = dp ∧ R.locals = 60 * dp) (h1 : ox_Sem yX11_body cX11_body 6 (some .int) d1 f1) (e1 : d1 + 1 ≤ dp) (hrc : ∀ b, ox_S p l e R s m args below meth c g 6 c0 t0 (ox_QM g below args s c0 t0) b (rc b)) : ox_S p l e R s m args below meth c g 6 c0 t0 (ox_QM g below args s c0 t0) 239 (bX11_body_239 f1 rc) := by
  refine s_aload_n (pc := 239) C dX11_body_239 rfl ?_
  refine s_geti (pc := 240) (j := 0) (q := (RX0, TX0, 7)) C rfl (by decide) rfl wF_X11_285 dX11_body_240 ?_
  exact s_iret (pc := 243) C hr hlk dX11_body_243
end SX11_body
def bsX11_body (f1 : ox_F) (b : Nat) (rc : Nat → ox_K) : ox_K := if b = 0 then bX11_body_0 f1 rc else if b = 9 then bX11_body_9 f1 rc else if b = 38 then bX11_body_38 f1 rc else if b = 112 then bX11_body_112 f1 rc else if b = 128 then bX11_body_128 f1 rc else if b = 141 then bX11_body_141 f1 rc else if b = 166 then bX11_body_166 f1 rc else if b = 178 then bX11_body_178 f1 rc else if b = 183 then bX11_body_183 f1 rc else if b = 198 then bX11_body_198 f1 rc else if b = 223 then bX11_body_223 f1 rc else if b = 239 then bX11_body_239 f1 rc else ox_no
theorem mX11_body {dp d1 : Nat} {f1 f : ox_F} (h1 : ox_Sem yX11_body cX11_body 6 (some .int) d1 f1) (e1 : d1 + 1 ≤ dp) (hf : ∀ as h r, f as h = some r → ox_cs as ≤ 6 ∧ ox_le h r.2 ∧ ∃ n, ox_run (bsX11_body f1) n 0 (lv_args 0 as) [] h = some r) : ox_Sem yX11_body cX11_body 6 (some .int) dp f := by
  refine ox_meth (bs := bsX11_body f1) (by decide) hf ?_
  intro p l e R s m args below meth c g c0 t0 C hr hlk hnm hR rc hrc b
  unfold bsX11_body
  refine ox_br (kX11_body_0 C hr hlk hnm hR h1 e1 hrc) ?_
  refine ox_br (kX11_body_9 C hr hlk hnm hR h1 e1 hrc) ?_
  refine ox_br (kX11_body_38 C hr hlk hnm hR h1 e1 hrc) ?_
  refine ox_br (kX11_body_112 C hr hlk hnm hR h1 e1 hrc) ?_
  refine ox_br (kX11_body_128 C hr hlk hnm hR h1 e1 hrc) ?_
  refine ox_br (kX11_body_141 C hr hlk hnm hR h1 e1 hrc) ?_
  refine ox_br (kX11_body_166 C hr hlk hnm hR h1 e1 hrc) ?_
  refine ox_br (kX11_body_178 C hr hlk hnm hR h1 e1 hrc) ?_
  refine ox_br (kX11_body_183 C hr hlk hnm hR h1 e1 hrc) ?_
  refine ox_br (kX11_body_198 C hr hlk hnm hR h1 e1 hrc) ?_
  refine ox_br (kX11_body_223 C hr hlk hnm hR h1 e1 hrc) ?_
  refine ox_br (kX11_body_239 C hr hlk hnm hR h1 e1 hrc) ?_
  exact s_no
