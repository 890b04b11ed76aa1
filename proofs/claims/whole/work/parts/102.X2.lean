theorem dX2_advance_0 : decode cX2_advance 0 = .ok (.aload_n 0, 1) := by decide +kernel
theorem dX2_advance_1 : decode cX2_advance 1 = .ok (.invokevirtual 32, 3) := by decide +kernel
theorem dX2_advance_4 : decode cX2_advance 4 = .ok (.aload_n 0, 1) := by decide +kernel
theorem dX2_advance_5 : decode cX2_advance 5 = .ok (.aload_n 0, 1) := by decide +kernel
theorem dX2_advance_6 : decode cX2_advance 6 = .ok (.getfield 11, 3) := by decide +kernel
theorem dX2_advance_9 : decode cX2_advance 9 = .ok (.iconst 0, 1) := by decide +kernel
theorem dX2_advance_10 : decode cX2_advance 10 = .ok (.aaload, 1) := by decide +kernel
theorem dX2_advance_11 : decode cX2_advance 11 = .ok (.aload_n 1, 1) := by decide +kernel
theorem dX2_advance_12 : decode cX2_advance 12 = .ok (.invokevirtual 35, 3) := by decide +kernel
theorem dX2_advance_15 : decode cX2_advance 15 = .ok (.aload_n 0, 1) := by decide +kernel
theorem dX2_advance_16 : decode cX2_advance 16 = .ok (.getfield 11, 3) := by decide +kernel
theorem dX2_advance_19 : decode cX2_advance 19 = .ok (.iconst 1, 1) := by decide +kernel
theorem dX2_advance_20 : decode cX2_advance 20 = .ok (.aaload, 1) := by decide +kernel
theorem dX2_advance_21 : decode cX2_advance 21 = .ok (.invokevirtual 39, 3) := by decide +kernel
theorem dX2_advance_24 : decode cX2_advance 24 = .ok (.aload_n 0, 1) := by decide +kernel
theorem dX2_advance_25 : decode cX2_advance 25 = .ok (.getfield 11, 3) := by decide +kernel
theorem dX2_advance_28 : decode cX2_advance 28 = .ok (.iconst 2, 1) := by decide +kernel
theorem dX2_advance_29 : decode cX2_advance 29 = .ok (.aaload, 1) := by decide +kernel
theorem dX2_advance_30 : decode cX2_advance 30 = .ok (.aload_n 0, 1) := by decide +kernel
theorem dX2_advance_31 : decode cX2_advance 31 = .ok (.getfield 24, 3) := by decide +kernel
theorem dX2_advance_34 : decode cX2_advance 34 = .ok (.iconst 1, 1) := by decide +kernel
theorem dX2_advance_35 : decode cX2_advance 35 = .ok (.iaload, 1) := by decide +kernel
theorem dX2_advance_36 : decode cX2_advance 36 = .ok (.invokevirtual 42, 3) := by decide +kernel
theorem dX2_advance_39 : decode cX2_advance 39 = .ok (.iconst 3, 1) := by decide +kernel
theorem dX2_advance_40 : decode cX2_advance 40 = .ok (.istore_n 3, 1) := by decide +kernel
theorem dX2_advance_41 : decode cX2_advance 41 = .ok (.iload_n 3, 1) := by decide +kernel
theorem dX2_advance_42 : decode cX2_advance 42 = .ok (.aload_n 0, 1) := by decide +kernel
theorem dX2_advance_43 : decode cX2_advance 43 = .ok (.getfield 27, 3) := by decide +kernel
theorem dX2_advance_46 : decode cX2_advance 46 = .ok (.iconst 3, 1) := by decide +kernel
theorem dX2_advance_47 : decode cX2_advance 47 = .ok (.isub, 1) := by decide +kernel
theorem dX2_advance_48 : decode cX2_advance 48 = .ok (.if_icmp .gt 24, 3) := by decide +kernel
theorem dX2_advance_51 : decode cX2_advance 51 = .ok (.aload_n 0, 1) := by decide +kernel
theorem dX2_advance_52 : decode cX2_advance 52 = .ok (.getfield 11, 3) := by decide +kernel
theorem dX2_advance_55 : decode cX2_advance 55 = .ok (.iload_n 3, 1) := by decide +kernel
theorem dX2_advance_56 : decode cX2_advance 56 = .ok (.aaload, 1) := by decide +kernel
theorem dX2_advance_57 : decode cX2_advance 57 = .ok (.aload_n 0, 1) := by decide +kernel
theorem dX2_advance_58 : decode cX2_advance 58 = .ok (.getfield 24, 3) := by decide +kernel
theorem dX2_advance_61 : decode cX2_advance 61 = .ok (.iload_n 3, 1) := by decide +kernel
theorem dX2_advance_62 : decode cX2_advance 62 = .ok (.iaload, 1) := by decide +kernel
theorem dX2_advance_63 : decode cX2_advance 63 = .ok (.invokevirtual 46, 3) := by decide +kernel
theorem dX2_advance_66 : decode cX2_advance 66 = .ok (.iinc 3 1, 3) := by decide +kernel
theorem dX2_advance_69 : decode cX2_advance 69 = .ok (.goto (-28), 3) := by decide +kernel
theorem dX2_advance_72 : decode cX2_advance 72 = .ok (.aload_n 0, 1) := by decide +kernel
theorem dX2_advance_73 : decode cX2_advance 73 = .ok (.aload_n 0, 1) := by decide +kernel
theorem dX2_advance_74 : decode cX2_advance 74 = .ok (.getfield 11, 3) := by decide +kernel
theorem dX2_advance_77 : decode cX2_advance 77 = .ok (.aload_n 0, 1) := by decide +kernel
theorem dX2_advance_78 : decode cX2_advance 78 = .ok (.getfield 27, 3) := by decide +kernel
theorem dX2_advance_81 : decode cX2_advance 81 = .ok (.iconst 2, 1) := by decide +kernel
theorem dX2_advance_82 : decode cX2_advance 82 = .ok (.isub, 1) := by decide +kernel
theorem dX2_advance_83 : decode cX2_advance 83 = .ok (.aaload, 1) := by decide +kernel
theorem dX2_advance_84 : decode cX2_advance 84 = .ok (.aload_n 2, 1) := by decide +kernel
theorem dX2_advance_85 : decode cX2_advance 85 = .ok (.invokevirtual 49, 3) := by decide +kernel
theorem dX2_advance_88 : decode cX2_advance 88 = .ok (.aload_n 0, 1) := by decide +kernel
theorem dX2_advance_89 : decode cX2_advance 89 = .ok (.dup, 1) := by decide +kernel
theorem dX2_advance_90 : decode cX2_advance 90 = .ok (.getfield 53, 3) := by decide +kernel
theorem dX2_advance_93 : decode cX2_advance 93 = .ok (.iconst 1, 1) := by decide +kernel
theorem dX2_advance_94 : decode cX2_advance 94 = .ok (.iadd, 1) := by decide +kernel
theorem dX2_advance_95 : decode cX2_advance 95 = .ok (.putfield 53, 3) := by decide +kernel
theorem dX2_advance_98 : decode cX2_advance 98 = .ok (.return_, 1) := by decide +kernel
def bX2_advance_0 (f1 f2 f3 f4 f5 f6 : ox_F) (rc : Nat → ox_K) : ox_K := o_al 0 (o_cv f1 2 0 (o_al 0 (o_al 0 (o_getr 2 0 (o_ic (0) (o_aa 5 (o_al 1 (o_cv f2 2 2 (o_al 0 (o_getr 2 0 (o_ic (1) (o_aa 5 (o_cv f3 5 0 (o_al 0 (o_getr 2 0 (o_ic (2) (o_aa 5 (o_al 0 (o_getr 2 1 (o_ic (1) (o_ia (o_cv f4 5 1 (o_ic (3) (o_is 3 (rc 41)))))))))))))))))))))))))
def bX2_advance_41 (f1 f2 f3 f4 f5 f6 : ox_F) (rc : Nat → ox_K) : ox_K := o_keep [0, 2, 3] (o_il 3 (o_al 0 (o_geti 2 2 (o_ic (3) (o_isub (o_icgt (rc 72) (o_al 0 (o_getr 2 0 (o_il 3 (o_aa 5 (o_al 0 (o_getr 2 1 (o_il 3 (o_ia (o_cv f5 5 1 (o_inc 3 (1) (rc 41)))))))))))))))))
def bX2_advance_72 (f1 f2 f3 f4 f5 f6 : ox_F) (rc : Nat → ox_K) : ox_K := o_al 0 (o_al 0 (o_getr 2 0 (o_al 0 (o_geti 2 2 (o_ic (2) (o_isub (o_aa 5 (o_al 2 (o_cv f6 2 2 (o_al 0 (o_dup (o_geti 2 4 (o_ic (1) (o_iadd (o_puti 2 4 (o_ret))))))))))))))))
section SX2_advance
variable {p : Program} {l : Launch} {e : Env} {R : Room} {s : State} {m : MethodId} {args : Array Value} {below : List Frame} {meth : Method} {c : Code} {g : ox_G} {c0 t0 dp d1 d2 d3 d4 d5 d6 : Nat} {rc : Nat → ox_K} {f1 f2 f3 f4 f5 f6 : ox_F}
set_option maxRecDepth 100000 in
theorem kX2_advance_0 (C : ox_C p s m args c g 4 cX2_advance RX2) (hr : meth.sig.returnType = none) (hlk : meth.locks = false) (hnm : meth.name = "advance") (hR : R.frames = dp ∧ R.locals = 60 * dp) (h1 : ox_Sem yX2_moveOn cX2_moveOn 3 none d1 f1) (e1 : d1 + 1 ≤ dp) (h2 : ox_Sem yX2_pour cX2_pour 4 none d2 f2) (e2 : d2 + 1 ≤ dp) (h3 : ox_Sem yX5_shake cX5_shake 1 none d3 f3) (e3 : d3 + 1 ≤ dp) (h4 : ox_Sem yX5_fillOnce cX5_fillOnce 2 none d4 f4) (e4 : d4 + 1 ≤ dp) (h5 : ox_Sem yX5_cool cX5_cool 2 none d5 f5) (e5 : d5 + 1 ≤ dp) (h6 : ox_Sem yX2_turnOut cX2_turnOut 3 none d6 f6) (e6 : d6 + 1 ≤ dp) (hrc : ∀ b, ox_S p l e R s m args below meth c g 4 c0 t0 (ox_QM g below args s c0 t0) b (rc b)) : ox_S p l e R s m args below meth c g 4 c0 t0 (ox_QM g below args s c0 t0) 0 (bX2_advance_0 f1 f2 f3 f4 f5 f6 rc) := by
  refine s_aload_n (pc := 0) C dX2_advance_0 rfl ?_
  refine s_cv (pc := 1) (q := (RX2, TX2, 6)) C h1 rfl wM_X2_32 wI_X2_moveOn wS_X2_moveOn wN_X2 wC_X2_moveOn (by decide +kernel) (ox_lv hR e1 (by decide)) dX2_advance_1 ?_
  refine s_aload_n (pc := 4) C dX2_advance_4 rfl ?_
  refine s_aload_n (pc := 5) C dX2_advance_5 rfl ?_
  refine s_getr (pc := 6) (j := 0) (q := (RX2, TX2, 6)) C rfl (by decide) rfl wF_X2_11 dX2_advance_6 ?_
  refine s_iconst (pc := 9) C dX2_advance_9 (by decide) ?_
  refine s_aa (pc := 10) (q := (RX5, TX5, 8)) 4 C rfl dX2_advance_10 ?_
  refine s_aload_n (pc := 11) C dX2_advance_11 rfl ?_
  refine s_cv (pc := 12) (q := (RX2, TX2, 6)) C h2 rfl wM_X2_35 wI_X2_pour wS_X2_pour wN_X2 wC_X2_pour (by decide +kernel) (ox_lv hR e2 (by decide)) dX2_advance_12 ?_
  refine s_aload_n (pc := 15) C dX2_advance_15 rfl ?_
  refine s_getr (pc := 16) (j := 0) (q := (RX2, TX2, 6)) C rfl (by decide) rfl wF_X2_11 dX2_advance_16 ?_
  refine s_iconst (pc := 19) C dX2_advance_19 (by decide) ?_
  refine s_aa (pc := 20) (q := (RX5, TX5, 8)) 4 C rfl dX2_advance_20 ?_
  refine s_cv (pc := 21) (q := (RX5, TX5, 8)) C h3 rfl wM_X2_39 wI_X5_shake wS_X5_shake wN_X5 wC_X5_shake (by decide +kernel) (ox_lv hR e3 (by decide)) dX2_advance_21 ?_
  refine s_aload_n (pc := 24) C dX2_advance_24 rfl ?_
  refine s_getr (pc := 25) (j := 0) (q := (RX2, TX2, 6)) C rfl (by decide) rfl wF_X2_11 dX2_advance_25 ?_
  refine s_iconst (pc := 28) C dX2_advance_28 (by decide) ?_
  refine s_aa (pc := 29) (q := (RX5, TX5, 8)) 4 C rfl dX2_advance_29 ?_
  refine s_aload_n (pc := 30) C dX2_advance_30 rfl ?_
  refine s_getr (pc := 31) (j := 1) (q := (RX2, TX2, 6)) C rfl (by decide) rfl wF_X2_24 dX2_advance_31 ?_
  refine s_iconst (pc := 34) C dX2_advance_34 (by decide) ?_
  refine s_ia (pc := 35) C dX2_advance_35 ?_
  refine s_cv (pc := 36) (q := (RX5, TX5, 8)) C h4 rfl wM_X2_42 wI_X5_fillOnce wS_X5_fillOnce wN_X5 wC_X5_fillOnce (by decide +kernel) (ox_lv hR e4 (by decide)) dX2_advance_36 ?_
  refine s_iconst (pc := 39) C dX2_advance_39 (by decide) ?_
  refine s_istore_n (pc := 40) C dX2_advance_40 rfl (by decide) ?_
  exact hrc 41
set_option maxRecDepth 100000 in
theorem kX2_advance_41 (C : ox_C p s m args c g 4 cX2_advance RX2) (hr : meth.sig.returnType = none) (hlk : meth.locks = false) (hnm : meth.name = "advance") (hR : R.frames = dp ∧ R.locals = 60 * dp) (h1 : ox_Sem yX2_moveOn cX2_moveOn 3 none d1 f1) (e1 : d1 + 1 ≤ dp) (h2 : ox_Sem yX2_pour cX2_pour 4 none d2 f2) (e2 : d2 + 1 ≤ dp) (h3 : ox_Sem yX5_shake cX5_shake 1 none d3 f3) (e3 : d3 + 1 ≤ dp) (h4 : ox_Sem yX5_fillOnce cX5_fillOnce 2 none d4 f4) (e4 : d4 + 1 ≤ dp) (h5 : ox_Sem yX5_cool cX5_cool 2 none d5 f5) (e5 : d5 + 1 ≤ dp) (h6 : ox_Sem yX2_turnOut cX2_turnOut 3 none d6 f6) (e6 : d6 + 1 ≤ dp) (hrc : ∀ b, ox_S p l e R s m args below meth c g 4 c0 t0 (ox_QM g below args s c0 t0) b (rc b)) : ox_S p l e R s m args below meth c g 4 c0 t0 (ox_QM g below args s c0 t0) 41 (bX2_advance_41 f1 f2 f3 f4 f5 f6 rc) := by
  refine s_keep ?_
  refine s_iload_n (pc := 41) C dX2_advance_41 rfl ?_
  refine s_aload_n (pc := 42) C dX2_advance_42 rfl ?_
  refine s_geti (pc := 43) (j := 2) (q := (RX2, TX2, 6)) C rfl (by decide) rfl wF_X2_27 dX2_advance_43 ?_
  refine s_iconst (pc := 46) C dX2_advance_46 (by decide) ?_
  refine s_isub (pc := 47) C dX2_advance_47 ?_
  refine s_icmpgt (pc := 48) 72 C dX2_advance_48 (by decide) (hrc 72) ?_
  refine s_aload_n (pc := 51) C dX2_advance_51 rfl ?_
  refine s_getr (pc := 52) (j := 0) (q := (RX2, TX2, 6)) C rfl (by decide) rfl wF_X2_11 dX2_advance_52 ?_
  refine s_iload_n (pc := 55) C dX2_advance_55 rfl ?_
  refine s_aa (pc := 56) (q := (RX5, TX5, 8)) 4 C rfl dX2_advance_56 ?_
  refine s_aload_n (pc := 57) C dX2_advance_57 rfl ?_
  refine s_getr (pc := 58) (j := 1) (q := (RX2, TX2, 6)) C rfl (by decide) rfl wF_X2_24 dX2_advance_58 ?_
  refine s_iload_n (pc := 61) C dX2_advance_61 rfl ?_
  refine s_ia (pc := 62) C dX2_advance_62 ?_
  refine s_cv (pc := 63) (q := (RX5, TX5, 8)) C h5 rfl wM_X2_46 wI_X5_cool wS_X5_cool wN_X5 wC_X5_cool (by decide +kernel) (ox_lv hR e5 (by decide)) dX2_advance_63 ?_
  refine s_iinc (pc := 66) C dX2_advance_66 (by decide) (by decide) ?_
  exact s_goto (pc := 69) 41 C dX2_advance_69 (by decide) (hrc 41)
set_option maxRecDepth 100000 in
theorem kX2_advance_72 (C : ox_C p s m args c g 4 cX2_advance RX2) (hr : meth.sig.returnType = none) (hlk : meth.locks = false) (hnm : meth.name = "advance") (hR : R.frames = dp ∧ R.locals = 60 * dp) (h1 : ox_Sem yX2_moveOn cX2_moveOn 3 none d1 f1) (e1 : d1 + 1 ≤ dp) (h2 : ox_Sem yX2_pour cX2_pour 4 none d2 f2) (e2 : d2 + 1 ≤ dp) (h3 : ox_Sem yX5_shake cX5_shake 1 none d3 f3) (e3 : d3 + 1 ≤ dp) (h4 : ox_Sem yX5_fillOnce cX5_fillOnce 2 none d4 f4) (e4 : d4 + 1 ≤ dp) (h5 : ox_Sem yX5_cool cX5_cool 2 none d5 f5) (e5 : d5 + 1 ≤ dp) (h6 : ox_Sem yX2_turnOut cX2_turnOut 3 none d6 f6) (e6 : d6 + 1 ≤ dp) (hrc : ∀ b, ox_S p l e R s m args below meth c g 4 c0 t0 (ox_QM g below args s c0 t0) b (rc b)) : ox_S p l e R s m args below meth c g 4 c0 t0 (ox_QM g below args s c0 t0) 72 (bX2_advance_72 f1 f2 f3 f4 f5 f6 rc) := by
  refine s_aload_n (pc := 72) C dX2_advance_72 rfl ?_
  refine s_aload_n (pc := 73) C dX2_advance_73 rfl ?_
  refine s_getr (pc := 74) (j := 0) (q := (RX2, TX2, 6)) C rfl (by decide) rfl wF_X2_11 dX2_advance_74 ?_
  refine s_aload_n (pc := 77) C dX2_advance_77 rfl ?_
  refine s_geti (pc := 78) (j := 2) (q := (RX2, TX2, 6)) C rfl (by decide) rfl wF_X2_27 dX2_advance_78 ?_
  refine s_iconst (pc := 81) C dX2_advance_81 (by decide) ?_
  refine s_isub (pc := 82) C dX2_advance_82 ?_
  refine s_aa (pc := 83) (q := (RX5, TX5, 8)) 4 C rfl dX2_advance_83 ?_
  refine s_aload_n (pc := 84) C dX2_advance_84 rfl ?_
  refine s_cv (pc := 85) (q := (RX2, TX2, 6)) C h6 rfl wM_X2_49 wI_X2_turnOut wS_X2_turnOut wN_X2 wC_X2_turnOut (by decide +kernel) (ox_lv hR e6 (by decide)) dX2_advance_85 ?_
  refine s_aload_n (pc := 88) C dX2_advance_88 rfl ?_
  refine s_dup (pc := 89) C dX2_advance_89 ?_
  refine s_geti (pc := 90) (j := 4) (q := (RX2, TX2, 6)) C rfl (by decide) rfl wF_X2_53 dX2_advance_90 ?_
  refine s_iconst (pc := 93) C dX2_advance_93 (by decide) ?_
  refine s_iadd (pc := 94) C dX2_advance_94 ?_
  refine s_puti (pc := 95) (j := 4) (q := (RX2, TX2, 6)) C rfl (by decide) rfl (Or.inl rfl) wF_X2_53 dX2_advance_95 ?_
  exact s_ret (pc := 98) C hr hlk dX2_advance_98
end SX2_advance
def bsX2_advance (f1 f2 f3 f4 f5 f6 : ox_F) (b : Nat) (rc : Nat → ox_K) : ox_K := if b = 0 then bX2_advance_0 f1 f2 f3 f4 f5 f6 rc else if b = 41 then bX2_advance_41 f1 f2 f3 f4 f5 f6 rc else if b = 72 then bX2_advance_72 f1 f2 f3 f4 f5 f6 rc else ox_no
theorem mX2_advance {dp d1 d2 d3 d4 d5 d6 : Nat} {f1 f2 f3 f4 f5 f6 f : ox_F} (h1 : ox_Sem yX2_moveOn cX2_moveOn 3 none d1 f1) (e1 : d1 + 1 ≤ dp) (h2 : ox_Sem yX2_pour cX2_pour 4 none d2 f2) (e2 : d2 + 1 ≤ dp) (h3 : ox_Sem yX5_shake cX5_shake 1 none d3 f3) (e3 : d3 + 1 ≤ dp) (h4 : ox_Sem yX5_fillOnce cX5_fillOnce 2 none d4 f4) (e4 : d4 + 1 ≤ dp) (h5 : ox_Sem yX5_cool cX5_cool 2 none d5 f5) (e5 : d5 + 1 ≤ dp) (h6 : ox_Sem yX2_turnOut cX2_turnOut 3 none d6 f6) (e6 : d6 + 1 ≤ dp) (hf : ∀ as h r, f as h = some r → ox_cs as ≤ 4 ∧ ox_le h r.2 ∧ ∃ n, ox_run (bsX2_advance f1 f2 f3 f4 f5 f6) n 0 (lv_args 0 as) [] h = some r) : ox_Sem yX2_advance cX2_advance 4 none dp f := by
  refine ox_meth (bs := bsX2_advance f1 f2 f3 f4 f5 f6) (by decide) hf ?_
  intro p l e R s m args below meth c g c0 t0 C hr hlk hnm hR rc hrc b
  unfold bsX2_advance
  refine ox_br (kX2_advance_0 C hr hlk hnm hR h1 e1 h2 e2 h3 e3 h4 e4 h5 e5 h6 e6 hrc) ?_
  refine ox_br (kX2_advance_41 C hr hlk hnm hR h1 e1 h2 e2 h3 e3 h4 e4 h5 e5 h6 e6 hrc) ?_
  refine ox_br (kX2_advance_72 C hr hlk hnm hR h1 e1 h2 e2 h3 e3 h4 e4 h5 e5 h6 e6 hrc) ?_
  exact s_no
theorem dX2_fullMoulds_0 : decode cX2_fullMoulds 0 = .ok (.iconst 0, 1) := by decide +kernel
theorem dX2_fullMoulds_1 : decode cX2_fullMoulds 1 = .ok (.istore_n 1, 1) := by decide +kernel
theorem dX2_fullMoulds_2 : decode cX2_fullMoulds 2 = .ok (.iconst 0, 1) := by decide +kernel
theorem dX2_fullMoulds_3 : decode cX2_fullMoulds 3 = .ok (.istore_n 2, 1) := by decide +kernel
theorem dX2_fullMoulds_4 : decode cX2_fullMoulds 4 = .ok (.iload_n 2, 1) := by decide +kernel
theorem dX2_fullMoulds_5 : decode cX2_fullMoulds 5 = .ok (.aload_n 0, 1) := by decide +kernel
theorem dX2_fullMoulds_6 : decode cX2_fullMoulds 6 = .ok (.getfield 27, 3) := by decide +kernel
theorem dX2_fullMoulds_9 : decode cX2_fullMoulds 9 = .ok (.if_icmp .ge 24, 3) := by decide +kernel
theorem dX2_fullMoulds_12 : decode cX2_fullMoulds 12 = .ok (.aload_n 0, 1) := by decide +kernel
theorem dX2_fullMoulds_13 : decode cX2_fullMoulds 13 = .ok (.getfield 11, 3) := by decide +kernel
theorem dX2_fullMoulds_16 : decode cX2_fullMoulds 16 = .ok (.iload_n 2, 1) := by decide +kernel
theorem dX2_fullMoulds_17 : decode cX2_fullMoulds 17 = .ok (.aaload, 1) := by decide +kernel
theorem dX2_fullMoulds_18 : decode cX2_fullMoulds 18 = .ok (.invokevirtual 56, 3) := by decide +kernel
theorem dX2_fullMoulds_21 : decode cX2_fullMoulds 21 = .ok (.ifCond .ne 6, 3) := by decide +kernel
theorem dX2_fullMoulds_24 : decode cX2_fullMoulds 24 = .ok (.iinc 1 1, 3) := by decide +kernel
theorem dX2_fullMoulds_27 : decode cX2_fullMoulds 27 = .ok (.iinc 2 1, 3) := by decide +kernel
theorem dX2_fullMoulds_30 : decode cX2_fullMoulds 30 = .ok (.goto (-26), 3) := by decide +kernel
theorem dX2_fullMoulds_33 : decode cX2_fullMoulds 33 = .ok (.iload_n 1, 1) := by decide +kernel
theorem dX2_fullMoulds_34 : decode cX2_fullMoulds 34 = .ok (.ireturn, 1) := by decide +kernel
def bX2_fullMoulds_0 (f1 : ox_F) (rc : Nat → ox_K) : ox_K := o_ic (0) (o_is 1 (o_ic (0) (o_is 2 (rc 4))))
def bX2_fullMoulds_4 (f1 : ox_F) (rc : Nat → ox_K) : ox_K := o_keep [0, 1, 2] (o_il 2 (o_al 0 (o_geti 2 2 (o_icge (rc 33) (o_al 0 (o_getr 2 0 (o_il 2 (o_aa 5 (o_cv f1 5 0 (o_ifne (rc 27) (o_inc 1 (1) (rc 27))))))))))))
def bX2_fullMoulds_27 (f1 : ox_F) (rc : Nat → ox_K) : ox_K := o_inc 2 (1) (rc 4)
def bX2_fullMoulds_33 (f1 : ox_F) (rc : Nat → ox_K) : ox_K := o_il 1 (o_iret)
section SX2_fullMoulds
variable {p : Program} {l : Launch} {e : Env} {R : Room} {s : State} {m : MethodId} {args : Array Value} {below : List Frame} {meth : Method} {c : Code} {g : ox_G} {c0 t0 dp d1 : Nat} {rc : Nat → ox_K} {f1 : ox_F}
set_option maxRecDepth 100000 in
theorem kX2_fullMoulds_0 (C : ox_C p s m args c g 3 cX2_fullMoulds RX2) (hr : meth.sig.returnType = (some .int)) (hlk : meth.locks = false) (hnm : meth.name = "fullMoulds") (hR : R.frames = dp ∧ R.locals = 60 * dp) (h1 : ox_Sem yX5_isEmpty cX5_isEmpty 1 (some .boolean) d1 f1) (e1 : d1 + 1 ≤ dp) (hrc : ∀ b, ox_S p l e R s m args below meth c g 3 c0 t0 (ox_QM g below args s c0 t0) b (rc b)) : ox_S p l e R s m args below meth c g 3 c0 t0 (ox_QM g below args s c0 t0) 0 (bX2_fullMoulds_0 f1 rc) := by
  refine s_iconst (pc := 0) C dX2_fullMoulds_0 (by decide) ?_
  refine s_istore_n (pc := 1) C dX2_fullMoulds_1 rfl (by decide) ?_
  refine s_iconst (pc := 2) C dX2_fullMoulds_2 (by decide) ?_
  refine s_istore_n (pc := 3) C dX2_fullMoulds_3 rfl (by decide) ?_
  exact hrc 4
set_option maxRecDepth 100000 in
theorem kX2_fullMoulds_4 (C : ox_C p s m args c g 3 cX2_fullMoulds RX2) (hr : meth.sig.returnType = (some .int)) (hlk : meth.locks = false) (hnm : meth.name = "fullMoulds") (hR : R.frames = dp ∧ R.locals = 60 * dp) (h1 : ox_Sem yX5_isEmpty cX5_isEmpty 1 (some .boolean) d1 f1) (e1 : d1 + 1 ≤ dp) (hrc : ∀ b, ox_S p l e R s m args below meth c g 3 c0 t0 (ox_QM g below args s c0 t0) b (rc b)) : ox_S p l e R s m args below meth c g 3 c0 t0 (ox_QM g below args s c0 t0) 4 (bX2_fullMoulds_4 f1 rc) := by
  refine s_keep ?_
  refine s_iload_n (pc := 4) C dX2_fullMoulds_4 rfl ?_
  refine s_aload_n (pc := 5) C dX2_fullMoulds_5 rfl ?_
  refine s_geti (pc := 6) (j := 2) (q := (RX2, TX2, 6)) C rfl (by decide) rfl wF_X2_27 dX2_fullMoulds_6 ?_
  refine s_icmpge (pc := 9) 33 C dX2_fullMoulds_9 (by decide) (hrc 33) ?_
  refine s_aload_n (pc := 12) C dX2_fullMoulds_12 rfl ?_
  refine s_getr (pc := 13) (j := 0) (q := (RX2, TX2, 6)) C rfl (by decide) rfl wF_X2_11 dX2_fullMoulds_13 ?_
  refine s_iload_n (pc := 16) C dX2_fullMoulds_16 rfl ?_
  refine s_aa (pc := 17) (q := (RX5, TX5, 8)) 4 C rfl dX2_fullMoulds_17 ?_
  refine s_cv (pc := 18) (q := (RX5, TX5, 8)) C h1 rfl wM_X2_56 wI_X5_isEmpty wS_X5_isEmpty wN_X5 wC_X5_isEmpty (by decide +kernel) (ox_lv hR e1 (by decide)) dX2_fullMoulds_18 ?_
  refine s_ifne (pc := 21) 27 C dX2_fullMoulds_21 (by decide) (hrc 27) ?_
  refine s_iinc (pc := 24) C dX2_fullMoulds_24 (by decide) (by decide) ?_
  exact hrc 27
set_option maxRecDepth 100000 in
theorem kX2_fullMoulds_27 (C : ox_C p s m args c g 3 cX2_fullMoulds RX2) (hr : meth.sig.returnType = (some .int)) (hlk : meth.locks = false) (hnm : meth.name = "fullMoulds") (hR : R.frames = dp ∧ R.locals = 60 * dp) (h1 : ox_Sem yX5_isEmpty cX5_isEmpty 1 (some .boolean) d1 f1) (e1 : d1 + 1 ≤ dp) (hrc : ∀ b, ox_S p l e R s m args below meth c g 3 c0 t0 (ox_QM g below args s c0 t0) b (rc b)) : ox_S p l e R s m args below meth c g 3 c0 t0 (ox_QM g below args s c0 t0) 27 (bX2_fullMoulds_27 f1 rc) := by
  refine s_iinc (pc := 27) C dX2_fullMoulds_27 (by decide) (by decide) ?_
  exact s_goto (pc := 30) 4 C dX2_fullMoulds_30 (by decide) (hrc 4)
set_option maxRecDepth 100000 in
theorem kX2_fullMoulds_33 (C : ox_C p s m args c g 3 cX2_fullMoulds RX2) (hr : meth.sig.returnType = (some .int)) (hlk : meth.locks = false) (hnm : meth.name = "fullMoulds") (hR : R.frames = dp ∧ R.locals = 60 * dp) (h1 : ox_Sem yX5_isEmpty cX5_isEmpty 1 (some .boolean) d1 f1) (e1 : d1 + 1 ≤ dp) (hrc : ∀ b, ox_S p l e R s m args below meth c g 3 c0 t0 (ox_QM g below args s c0 t0) b (rc b)) : ox_S p l e R s m args below meth c g 3 c0 t0 (ox_QM g below args s c0 t0) 33 (bX2_fullMoulds_33 f1 rc) := by
  refine s_iload_n (pc := 33) C dX2_fullMoulds_33 rfl ?_
  exact s_iret (pc := 34) C hr hlk dX2_fullMoulds_34
end SX2_fullMoulds
def bsX2_fullMoulds (f1 : ox_F) (b : Nat) (rc : Nat → ox_K) : ox_K := if b = 0 then bX2_fullMoulds_0 f1 rc else if b = 4 then bX2_fullMoulds_4 f1 rc else if b = 27 then bX2_fullMoulds_27 f1 rc else if b = 33 then bX2_fullMoulds_33 f1 rc else ox_no
theorem mX2_fullMoulds {dp d1 : Nat} {f1 f : ox_F} (h1 : ox_Sem yX5_isEmpty cX5_isEmpty 1 (some .boolean) d1 f1) (e1 : d1 + 1 ≤ dp) (hf : ∀ as h r, f as h = some r → ox_cs as ≤ 3 ∧ ox_le h r.2 ∧ ∃ n, ox_run (bsX2_fullMoulds f1) n 0 (lv_args 0 as) [] h = some r) : ox_Sem yX2_fullMoulds cX2_fullMoulds 3 (some .int) dp f := by
  refine ox_meth (bs := bsX2_fullMoulds f1) (by decide) hf ?_
  intro p l e R s m args below meth c g c0 t0 C hr hlk hnm hR rc hrc b
  unfold bsX2_fullMoulds
  refine ox_br (kX2_fullMoulds_0 C hr hlk hnm hR h1 e1 hrc) ?_
  refine ox_br (kX2_fullMoulds_4 C hr hlk hnm hR h1 e1 hrc) ?_
  refine ox_br (kX2_fullMoulds_27 C hr hlk hnm hR h1 e1 hrc) ?_
  refine ox_br (kX2_fullMoulds_33 C hr hlk hnm hR h1 e1 hrc) ?_
  exact s_no
theorem dX2_gramsInMoulds_0 : decode cX2_gramsInMoulds 0 = .ok (.iconst 0, 1) := by decide +kernel
theorem dX2_gramsInMoulds_1 : decode cX2_gramsInMoulds 1 = .ok (.istore_n 1, 1) := by decide +kernel
theorem dX2_gramsInMoulds_2 : decode cX2_gramsInMoulds 2 = .ok (.iconst 0, 1) := by decide +kernel
theorem dX2_gramsInMoulds_3 : decode cX2_gramsInMoulds 3 = .ok (.istore_n 2, 1) := by decide +kernel
theorem dX2_gramsInMoulds_4 : decode cX2_gramsInMoulds 4 = .ok (.iload_n 2, 1) := by decide +kernel
theorem dX2_gramsInMoulds_5 : decode cX2_gramsInMoulds 5 = .ok (.aload_n 0, 1) := by decide +kernel
theorem dX2_gramsInMoulds_6 : decode cX2_gramsInMoulds 6 = .ok (.getfield 27, 3) := by decide +kernel
theorem dX2_gramsInMoulds_9 : decode cX2_gramsInMoulds 9 = .ok (.if_icmp .ge 21, 3) := by decide +kernel
theorem dX2_gramsInMoulds_12 : decode cX2_gramsInMoulds 12 = .ok (.iload_n 1, 1) := by decide +kernel
theorem dX2_gramsInMoulds_13 : decode cX2_gramsInMoulds 13 = .ok (.aload_n 0, 1) := by decide +kernel
theorem dX2_gramsInMoulds_14 : decode cX2_gramsInMoulds 14 = .ok (.getfield 11, 3) := by decide +kernel
theorem dX2_gramsInMoulds_17 : decode cX2_gramsInMoulds 17 = .ok (.iload_n 2, 1) := by decide +kernel
theorem dX2_gramsInMoulds_18 : decode cX2_gramsInMoulds 18 = .ok (.aaload, 1) := by decide +kernel
theorem dX2_gramsInMoulds_19 : decode cX2_gramsInMoulds 19 = .ok (.getfield 60, 3) := by decide +kernel
theorem dX2_gramsInMoulds_22 : decode cX2_gramsInMoulds 22 = .ok (.iadd, 1) := by decide +kernel
theorem dX2_gramsInMoulds_23 : decode cX2_gramsInMoulds 23 = .ok (.istore_n 1, 1) := by decide +kernel
theorem dX2_gramsInMoulds_24 : decode cX2_gramsInMoulds 24 = .ok (.iinc 2 1, 3) := by decide +kernel
theorem dX2_gramsInMoulds_27 : decode cX2_gramsInMoulds 27 = .ok (.goto (-23), 3) := by decide +kernel
theorem dX2_gramsInMoulds_30 : decode cX2_gramsInMoulds 30 = .ok (.iload_n 1, 1) := by decide +kernel
theorem dX2_gramsInMoulds_31 : decode cX2_gramsInMoulds 31 = .ok (.ireturn, 1) := by decide +kernel
def bX2_gramsInMoulds_0 (rc : Nat → ox_K) : ox_K := o_ic (0) (o_is 1 (o_ic (0) (o_is 2 (rc 4))))
def bX2_gramsInMoulds_4 (rc : Nat → ox_K) : ox_K := o_keep [0, 1, 2] (o_il 2 (o_al 0 (o_geti 2 2 (o_icge (rc 30) (o_il 1 (o_al 0 (o_getr 2 0 (o_il 2 (o_aa 5 (o_geti 5 0 (o_iadd (o_is 1 (o_inc 2 (1) (rc 4))))))))))))))
def bX2_gramsInMoulds_30 (rc : Nat → ox_K) : ox_K := o_il 1 (o_iret)
section SX2_gramsInMoulds
variable {p : Program} {l : Launch} {e : Env} {R : Room} {s : State} {m : MethodId} {args : Array Value} {below : List Frame} {meth : Method} {c : Code} {g : ox_G} {c0 t0 dp  : Nat} {rc : Nat → ox_K}
set_option maxRecDepth 100000 in
theorem kX2_gramsInMoulds_0 (C : ox_C p s m args c g 3 cX2_gramsInMoulds RX2) (hr : meth.sig.returnType = (some .int)) (hlk : meth.locks = false) (hnm : meth.name = "gramsInMoulds") (hR : R.frames = dp ∧ R.locals = 60 * dp) (hrc : ∀ b, ox_S p l e R s m args below meth c g 3 c0 t0 (ox_QM g below args s c0 t0) b (rc b)) : ox_S p l e R s m args below meth c g 3 c0 t0 (ox_QM g below args s c0 t0) 0 (bX2_gramsInMoulds_0 rc) := by
  refine s_iconst (pc := 0) C dX2_gramsInMoulds_0 (by decide) ?_
  refine s_istore_n (pc := 1) C dX2_gramsInMoulds_1 rfl (by decide) ?_
  refine s_iconst (pc := 2) C dX2_gramsInMoulds_2 (by decide) ?_
  refine s_istore_n (pc := 3) C dX2_gramsInMoulds_3 rfl (by decide) ?_
  exact hrc 4
set_option maxRecDepth 100000 in
theorem kX2_gramsInMoulds_4 (C : ox_C p s m args c g 3 cX2_gramsInMoulds RX2) (hr : meth.sig.returnType = (some .int)) (hlk : meth.locks = false) (hnm : meth.name = "gramsInMoulds") (hR : R.frames = dp ∧ R.locals = 60 * dp) (hrc : ∀ b, ox_S p l e R s m args below meth c g 3 c0 t0 (ox_QM g below args s c0 t0) b (rc b)) : ox_S p l e R s m args below meth c g 3 c0 t0 (ox_QM g below args s c0 t0) 4 (bX2_gramsInMoulds_4 rc) := by
  refine s_keep ?_
  refine s_iload_n (pc := 4) C dX2_gramsInMoulds_4 rfl ?_
  refine s_aload_n (pc := 5) C dX2_gramsInMoulds_5 rfl ?_
  refine s_geti (pc := 6) (j := 2) (q := (RX2, TX2, 6)) C rfl (by decide) rfl wF_X2_27 dX2_gramsInMoulds_6 ?_
  refine s_icmpge (pc := 9) 30 C dX2_gramsInMoulds_9 (by decide) (hrc 30) ?_
  refine s_iload_n (pc := 12) C dX2_gramsInMoulds_12 rfl ?_
  refine s_aload_n (pc := 13) C dX2_gramsInMoulds_13 rfl ?_
  refine s_getr (pc := 14) (j := 0) (q := (RX2, TX2, 6)) C rfl (by decide) rfl wF_X2_11 dX2_gramsInMoulds_14 ?_
  refine s_iload_n (pc := 17) C dX2_gramsInMoulds_17 rfl ?_
  refine s_aa (pc := 18) (q := (RX5, TX5, 8)) 4 C rfl dX2_gramsInMoulds_18 ?_
  refine s_geti (pc := 19) (j := 0) (q := (RX5, TX5, 8)) C rfl (by decide) rfl wF_X2_60 dX2_gramsInMoulds_19 ?_
  refine s_iadd (pc := 22) C dX2_gramsInMoulds_22 ?_
  refine s_istore_n (pc := 23) C dX2_gramsInMoulds_23 rfl (by decide) ?_
  refine s_iinc (pc := 24) C dX2_gramsInMoulds_24 (by decide) (by decide) ?_
  exact s_goto (pc := 27) 4 C dX2_gramsInMoulds_27 (by decide) (hrc 4)
set_option maxRecDepth 100000 in
theorem kX2_gramsInMoulds_30 (C : ox_C p s m args c g 3 cX2_gramsInMoulds RX2) (hr : meth.sig.returnType = (some .int)) (hlk : meth.locks = false) (hnm : meth.name = "gramsInMoulds") (hR : R.frames = dp ∧ R.locals = 60 * dp) (hrc : ∀ b, ox_S p l e R s m args below meth c g 3 c0 t0 (ox_QM g below args s c0 t0) b (rc b)) : ox_S p l e R s m args below meth c g 3 c0 t0 (ox_QM g below args s c0 t0) 30 (bX2_gramsInMoulds_30 rc) := by
  refine s_iload_n (pc := 30) C dX2_gramsInMoulds_30 rfl ?_
  exact s_iret (pc := 31) C hr hlk dX2_gramsInMoulds_31
end SX2_gramsInMoulds
def bsX2_gramsInMoulds (b : Nat) (rc : Nat → ox_K) : ox_K := if b = 0 then bX2_gramsInMoulds_0 rc else if b = 4 then bX2_gramsInMoulds_4 rc else if b = 30 then bX2_gramsInMoulds_30 rc else ox_no
theorem mX2_gramsInMoulds {dp  : Nat} {f : ox_F} (hf : ∀ as h r, f as h = some r → ox_cs as ≤ 3 ∧ ox_le h r.2 ∧ ∃ n, ox_run (bsX2_gramsInMoulds) n 0 (lv_args 0 as) [] h = some r) : ox_Sem yX2_gramsInMoulds cX2_gramsInMoulds 3 (some .int) dp f := by
  refine ox_meth (bs := bsX2_gramsInMoulds) (by decide) hf ?_
  intro p l e R s m args below meth c g c0 t0 C hr hlk hnm hR rc hrc b
  unfold bsX2_gramsInMoulds
  refine ox_br (kX2_gramsInMoulds_0 C hr hlk hnm hR hrc) ?_
  refine ox_br (kX2_gramsInMoulds_4 C hr hlk hnm hR hrc) ?_
  refine ox_br (kX2_gramsInMoulds_30 C hr hlk hnm hR hrc) ?_
  exact s_no
theorem dX2_moveOn_0 : decode cX2_moveOn 0 = .ok (.aload_n 0, 1) := by decide +kernel
theorem dX2_moveOn_1 : decode cX2_moveOn 1 = .ok (.getfield 11, 3) := by decide +kernel
theorem dX2_moveOn_4 : decode cX2_moveOn 4 = .ok (.aload_n 0, 1) := by decide +kernel
theorem dX2_moveOn_5 : decode cX2_moveOn 5 = .ok (.getfield 27, 3) := by decide +kernel
theorem dX2_moveOn_8 : decode cX2_moveOn 8 = .ok (.iconst 1, 1) := by decide +kernel
theorem dX2_moveOn_9 : decode cX2_moveOn 9 = .ok (.isub, 1) := by decide +kernel
theorem dX2_moveOn_10 : decode cX2_moveOn 10 = .ok (.aaload, 1) := by decide +kernel
theorem dX2_moveOn_11 : decode cX2_moveOn 11 = .ok (.astore_n 1, 1) := by decide +kernel
theorem dX2_moveOn_12 : decode cX2_moveOn 12 = .ok (.aload_n 0, 1) := by decide +kernel
theorem dX2_moveOn_13 : decode cX2_moveOn 13 = .ok (.getfield 27, 3) := by decide +kernel
theorem dX2_moveOn_16 : decode cX2_moveOn 16 = .ok (.iconst 1, 1) := by decide +kernel
theorem dX2_moveOn_17 : decode cX2_moveOn 17 = .ok (.isub, 1) := by decide +kernel
theorem dX2_moveOn_18 : decode cX2_moveOn 18 = .ok (.istore_n 2, 1) := by decide +kernel
theorem dX2_moveOn_19 : decode cX2_moveOn 19 = .ok (.iload_n 2, 1) := by decide +kernel
theorem dX2_moveOn_20 : decode cX2_moveOn 20 = .ok (.ifCond .le 23, 3) := by decide +kernel
theorem dX2_moveOn_23 : decode cX2_moveOn 23 = .ok (.aload_n 0, 1) := by decide +kernel
theorem dX2_moveOn_24 : decode cX2_moveOn 24 = .ok (.getfield 11, 3) := by decide +kernel
theorem dX2_moveOn_27 : decode cX2_moveOn 27 = .ok (.iload_n 2, 1) := by decide +kernel
theorem dX2_moveOn_28 : decode cX2_moveOn 28 = .ok (.aload_n 0, 1) := by decide +kernel
theorem dX2_moveOn_29 : decode cX2_moveOn 29 = .ok (.getfield 11, 3) := by decide +kernel
theorem dX2_moveOn_32 : decode cX2_moveOn 32 = .ok (.iload_n 2, 1) := by decide +kernel
theorem dX2_moveOn_33 : decode cX2_moveOn 33 = .ok (.iconst 1, 1) := by decide +kernel
theorem dX2_moveOn_34 : decode cX2_moveOn 34 = .ok (.isub, 1) := by decide +kernel
theorem dX2_moveOn_35 : decode cX2_moveOn 35 = .ok (.aaload, 1) := by decide +kernel
theorem dX2_moveOn_36 : decode cX2_moveOn 36 = .ok (.aastore, 1) := by decide +kernel
theorem dX2_moveOn_37 : decode cX2_moveOn 37 = .ok (.iinc 2 (-1), 3) := by decide +kernel
theorem dX2_moveOn_40 : decode cX2_moveOn 40 = .ok (.goto (-21), 3) := by decide +kernel
theorem dX2_moveOn_43 : decode cX2_moveOn 43 = .ok (.aload_n 0, 1) := by decide +kernel
theorem dX2_moveOn_44 : decode cX2_moveOn 44 = .ok (.getfield 11, 3) := by decide +kernel
theorem dX2_moveOn_47 : decode cX2_moveOn 47 = .ok (.iconst 0, 1) := by decide +kernel
theorem dX2_moveOn_48 : decode cX2_moveOn 48 = .ok (.aload_n 1, 1) := by decide +kernel
theorem dX2_moveOn_49 : decode cX2_moveOn 49 = .ok (.aastore, 1) := by decide +kernel
theorem dX2_moveOn_50 : decode cX2_moveOn 50 = .ok (.return_, 1) := by decide +kernel
def bX2_moveOn_0 (rc : Nat → ox_K) : ox_K := o_al 0 (o_getr 2 0 (o_al 0 (o_geti 2 2 (o_ic (1) (o_isub (o_aa 5 (o_as 1 (o_al 0 (o_geti 2 2 (o_ic (1) (o_isub (o_is 2 (rc 19)))))))))))))
def bX2_moveOn_19 (rc : Nat → ox_K) : ox_K := o_keep [0, 1, 2] (o_il 2 (o_ifle (rc 43) (o_al 0 (o_getr 2 0 (o_il 2 (o_al 0 (o_getr 2 0 (o_il 2 (o_ic (1) (o_isub (o_aa 5 (o_aast 5 (o_inc 2 (-1) (rc 19))))))))))))))
def bX2_moveOn_43 (rc : Nat → ox_K) : ox_K := o_al 0 (o_getr 2 0 (o_ic (0) (o_al 1 (o_aast 5 (o_ret)))))
section SX2_moveOn
variable {p : Program} {l : Launch} {e : Env} {R : Room} {s : State} {m : MethodId} {args : Array Value} {below : List Frame} {meth : Method} {c : Code} {g : ox_G} {c0 t0 dp  : Nat} {rc : Nat → ox_K}
set_option maxRecDepth 100000 in
theorem kX2_moveOn_0 (C : ox_C p s m args c g 3 cX2_moveOn RX2) (hr : meth.sig.returnType = none) (hlk : meth.locks = false) (hnm : meth.name = "moveOn") (hR : R.frames = dp ∧ R.locals = 60 * dp) (hrc : ∀ b, ox_S p l e R s m args below meth c g 3 c0 t0 (ox_QM g below args s c0 t0) b (rc b)) : ox_S p l e R s m args below meth c g 3 c0 t0 (ox_QM g below args s c0 t0) 0 (bX2_moveOn_0 rc) := by
  refine s_aload_n (pc := 0) C dX2_moveOn_0 rfl ?_
  refine s_getr (pc := 1) (j := 0) (q := (RX2, TX2, 6)) C rfl (by decide) rfl wF_X2_11 dX2_moveOn_1 ?_
  refine s_aload_n (pc := 4) C dX2_moveOn_4 rfl ?_
  refine s_geti (pc := 5) (j := 2) (q := (RX2, TX2, 6)) C rfl (by decide) rfl wF_X2_27 dX2_moveOn_5 ?_
  refine s_iconst (pc := 8) C dX2_moveOn_8 (by decide) ?_
  refine s_isub (pc := 9) C dX2_moveOn_9 ?_
  refine s_aa (pc := 10) (q := (RX5, TX5, 8)) 4 C rfl dX2_moveOn_10 ?_
  refine s_astore_n (pc := 11) C dX2_moveOn_11 rfl (by decide) ?_
  refine s_aload_n (pc := 12) C dX2_moveOn_12 rfl ?_
  refine s_geti (pc := 13) (j := 2) (q := (RX2, TX2, 6)) C rfl (by decide) rfl wF_X2_27 dX2_moveOn_13 ?_
  refine s_iconst (pc := 16) C dX2_moveOn_16 (by decide) ?_
  refine s_isub (pc := 17) C dX2_moveOn_17 ?_
  refine s_istore_n (pc := 18) C dX2_moveOn_18 rfl (by decide) ?_
  exact hrc 19
set_option maxRecDepth 100000 in
theorem kX2_moveOn_19 (C : ox_C p s m args c g 3 cX2_moveOn RX2) (hr : meth.sig.returnType = none) (hlk : meth.locks = false) (hnm : meth.name = "moveOn") (hR : R.frames = dp ∧ R.locals = 60 * dp) (hrc : ∀ b, ox_S p l e R s m args below meth c g 3 c0 t0 (ox_QM g below args s c0 t0) b (rc b)) : ox_S p l e R s m args below meth c g 3 c0 t0 (ox_QM g below args s c0 t0) 19 (bX2_moveOn_19 rc) := by
  refine s_keep ?_
  refine s_iload_n (pc := 19) C dX2_moveOn_19 rfl ?_
  refine s_ifle (pc := 20) 43 C dX2_moveOn_20 (by decide) (hrc 43) ?_
  refine s_aload_n (pc := 23) C dX2_moveOn_23 rfl ?_
  refine s_getr (pc := 24) (j := 0) (q := (RX2, TX2, 6)) C rfl (by decide) rfl wF_X2_11 dX2_moveOn_24 ?_
  refine s_iload_n (pc := 27) C dX2_moveOn_27 rfl ?_
  refine s_aload_n (pc := 28) C dX2_moveOn_28 rfl ?_
  refine s_getr (pc := 29) (j := 0) (q := (RX2, TX2, 6)) C rfl (by decide) rfl wF_X2_11 dX2_moveOn_29 ?_
  refine s_iload_n (pc := 32) C dX2_moveOn_32 rfl ?_
  refine s_iconst (pc := 33) C dX2_moveOn_33 (by decide) ?_
  refine s_isub (pc := 34) C dX2_moveOn_34 ?_
  refine s_aa (pc := 35) (q := (RX5, TX5, 8)) 4 C rfl dX2_moveOn_35 ?_
  refine s_aast (pc := 36) (q := (RX5, TX5, 8)) 4 rfl C rfl dX2_moveOn_36 ?_
  refine s_iinc (pc := 37) C dX2_moveOn_37 (by decide) (by decide) ?_
  exact s_goto (pc := 40) 19 C dX2_moveOn_40 (by decide) (hrc 19)
set_option maxRecDepth 100000 in
theorem kX2_moveOn_43 (C : ox_C p s m args c g 3 cX2_moveOn RX2) (hr : meth.sig.returnType = none) (hlk : meth.locks = false) (hnm : meth.name = "moveOn") (hR : R.frames = dp ∧ R.locals = 60 * dp) (hrc : ∀ b, ox_S p l e R s m args below meth c g 3 c0 t0 (ox_QM g below args s c0 t0) b (rc b)) : ox_S p l e R s m args below meth c g 3 c0 t0 (ox_QM g below args s c0 t0) 43 (bX2_moveOn_43 rc) := by
  refine s_aload_n (pc := 43) C dX2_moveOn_43 rfl ?_
  refine s_getr (pc := 44) (j := 0) (q := (RX2, TX2, 6)) C rfl (by decide) rfl wF_X2_11 dX2_moveOn_44 ?_
  refine s_iconst (pc := 47) C dX2_moveOn_47 (by decide) ?_
  refine s_aload_n (pc := 48) C dX2_moveOn_48 rfl ?_
  refine s_aast (pc := 49) (q := (RX5, TX5, 8)) 4 rfl C rfl dX2_moveOn_49 ?_
  exact s_ret (pc := 50) C hr hlk dX2_moveOn_50
end SX2_moveOn
def bsX2_moveOn (b : Nat) (rc : Nat → ox_K) : ox_K := if b = 0 then bX2_moveOn_0 rc else if b = 19 then bX2_moveOn_19 rc else if b = 43 then bX2_moveOn_43 rc else ox_no
theorem mX2_moveOn {dp  : Nat} {f : ox_F} (hf : ∀ as h r, f as h = some r → ox_cs as ≤ 3 ∧ ox_le h r.2 ∧ ∃ n, ox_run (bsX2_moveOn) n 0 (lv_args 0 as) [] h = some r) : ox_Sem yX2_moveOn cX2_moveOn 3 none dp f := by
  refine ox_meth (bs := bsX2_moveOn) (by decide) hf ?_
  intro p l e R s m args below meth c g c0 t0 C hr hlk hnm hR rc hrc b
  unfold bsX2_moveOn
  refine ox_br (kX2_moveOn_0 C hr hlk hnm hR hrc) ?_
  refine ox_br (kX2_moveOn_19 C hr hlk hnm hR hrc) ?_
  refine ox_br (kX2_moveOn_43 C hr hlk hnm hR hrc) ?_
  exact s_no
theorem dX2_pour_0 : decode cX2_pour 0 = .ok (.iconst 1, 1) := by decide +kernel
theorem dX2_pour_1 : decode cX2_pour 1 = .ok (.aload_n 0, 1) := by decide +kernel
theorem dX2_pour_2 : decode cX2_pour 2 = .ok (.getfield 24, 3) := by decide +kernel
theorem dX2_pour_5 : decode cX2_pour 5 = .ok (.iconst 0, 1) := by decide +kernel
theorem dX2_pour_6 : decode cX2_pour 6 = .ok (.iaload, 1) := by decide +kernel
theorem dX2_pour_7 : decode cX2_pour 7 = .ok (.aload_n 0, 1) := by decide +kernel
theorem dX2_pour_8 : decode cX2_pour 8 = .ok (.getfield 24, 3) := by decide +kernel
theorem dX2_pour_11 : decode cX2_pour 11 = .ok (.bipush 14, 2) := by decide +kernel
theorem dX2_pour_13 : decode cX2_pour 13 = .ok (.iaload, 1) := by decide +kernel
theorem dX2_pour_14 : decode cX2_pour 14 = .ok (.iadd, 1) := by decide +kernel
theorem dX2_pour_15 : decode cX2_pour 15 = .ok (.aload_n 0, 1) := by decide +kernel
theorem dX2_pour_16 : decode cX2_pour 16 = .ok (.getfield 24, 3) := by decide +kernel
theorem dX2_pour_19 : decode cX2_pour 19 = .ok (.bipush 13, 2) := by decide +kernel
theorem dX2_pour_21 : decode cX2_pour 21 = .ok (.iaload, 1) := by decide +kernel
theorem dX2_pour_22 : decode cX2_pour 22 = .ok (.iadd, 1) := by decide +kernel
theorem dX2_pour_23 : decode cX2_pour 23 = .ok (.invokestatic 63, 3) := by decide +kernel
theorem dX2_pour_26 : decode cX2_pour 26 = .ok (.istore_n 3, 1) := by decide +kernel
theorem dX2_pour_27 : decode cX2_pour 27 = .ok (.aload_n 1, 1) := by decide +kernel
theorem dX2_pour_28 : decode cX2_pour 28 = .ok (.invokevirtual 56, 3) := by decide +kernel
theorem dX2_pour_31 : decode cX2_pour 31 = .ok (.ifCond .eq 11, 3) := by decide +kernel
theorem dX2_pour_34 : decode cX2_pour 34 = .ok (.aload_n 2, 1) := by decide +kernel
theorem dX2_pour_35 : decode cX2_pour 35 = .ok (.getfield 69, 3) := by decide +kernel
theorem dX2_pour_38 : decode cX2_pour 38 = .ok (.iload_n 3, 1) := by decide +kernel
theorem dX2_pour_39 : decode cX2_pour 39 = .ok (.if_icmp .ge 4, 3) := by decide +kernel
theorem dX2_pour_42 : decode cX2_pour 42 = .ok (.return_, 1) := by decide +kernel
theorem dX2_pour_43 : decode cX2_pour 43 = .ok (.aload_n 1, 1) := by decide +kernel
theorem dX2_pour_44 : decode cX2_pour 44 = .ok (.aload_n 2, 1) := by decide +kernel
theorem dX2_pour_45 : decode cX2_pour 45 = .ok (.iload_n 3, 1) := by decide +kernel
theorem dX2_pour_46 : decode cX2_pour 46 = .ok (.invokevirtual 74, 3) := by decide +kernel
theorem dX2_pour_49 : decode cX2_pour 49 = .ok (.aload_n 0, 1) := by decide +kernel
theorem dX2_pour_50 : decode cX2_pour 50 = .ok (.dup, 1) := by decide +kernel
theorem dX2_pour_51 : decode cX2_pour 51 = .ok (.getfield 78, 3) := by decide +kernel
theorem dX2_pour_54 : decode cX2_pour 54 = .ok (.iconst 1, 1) := by decide +kernel
theorem dX2_pour_55 : decode cX2_pour 55 = .ok (.iadd, 1) := by decide +kernel
theorem dX2_pour_56 : decode cX2_pour 56 = .ok (.putfield 78, 3) := by decide +kernel
theorem dX2_pour_59 : decode cX2_pour 59 = .ok (.aload_n 0, 1) := by decide +kernel
theorem dX2_pour_60 : decode cX2_pour 60 = .ok (.getfield 78, 3) := by decide +kernel
theorem dX2_pour_63 : decode cX2_pour 63 = .ok (.iconst 4, 1) := by decide +kernel
theorem dX2_pour_64 : decode cX2_pour 64 = .ok (.irem, 1) := by decide +kernel
theorem dX2_pour_65 : decode cX2_pour 65 = .ok (.ifCond .ne 28, 3) := by decide +kernel
theorem dX2_pour_68 : decode cX2_pour 68 = .ok (.aload_n 0, 1) := by decide +kernel
theorem dX2_pour_69 : decode cX2_pour 69 = .ok (.getfield 24, 3) := by decide +kernel
theorem dX2_pour_72 : decode cX2_pour 72 = .ok (.bipush 14, 2) := by decide +kernel
theorem dX2_pour_74 : decode cX2_pour 74 = .ok (.getstatic 81, 3) := by decide +kernel
theorem dX2_pour_77 : decode cX2_pour 77 = .ok (.bipush 14, 2) := by decide +kernel
theorem dX2_pour_79 : decode cX2_pour 79 = .ok (.iaload, 1) := by decide +kernel
theorem dX2_pour_80 : decode cX2_pour 80 = .ok (.aload_n 0, 1) := by decide +kernel
theorem dX2_pour_81 : decode cX2_pour 81 = .ok (.getfield 24, 3) := by decide +kernel
theorem dX2_pour_84 : decode cX2_pour 84 = .ok (.bipush 14, 2) := by decide +kernel
theorem dX2_pour_86 : decode cX2_pour 86 = .ok (.iaload, 1) := by decide +kernel
theorem dX2_pour_87 : decode cX2_pour 87 = .ok (.iconst 1, 1) := by decide +kernel
theorem dX2_pour_88 : decode cX2_pour 88 = .ok (.iadd, 1) := by decide +kernel
theorem dX2_pour_89 : decode cX2_pour 89 = .ok (.invokestatic 84, 3) := by decide +kernel
theorem dX2_pour_92 : decode cX2_pour 92 = .ok (.iastore, 1) := by decide +kernel
theorem dX2_pour_93 : decode cX2_pour 93 = .ok (.return_, 1) := by decide +kernel
def bX2_pour_0 (f1 f2 : ox_F) (rc : Nat → ox_K) : ox_K := o_ic (1) (o_al 0 (o_getr 2 1 (o_ic (0) (o_ia (o_al 0 (o_getr 2 1 (o_ic (14) (o_ia (o_iadd (o_al 0 (o_getr 2 1 (o_ic (13) (o_ia (o_iadd (o_mmax (o_is 3 (o_al 1 (o_cv f1 5 0 (o_ifeq (rc 42) (o_al 2 (o_geti 9 0 (o_il 3 (o_icge (rc 43) (rc 42))))))))))))))))))))))))
def bX2_pour_42 (f1 f2 : ox_F) (rc : Nat → ox_K) : ox_K := o_ret
def bX2_pour_43 (f1 f2 : ox_F) (rc : Nat → ox_K) : ox_K := o_al 1 (o_al 2 (o_il 3 (o_cv f2 5 2 (o_al 0 (o_dup (o_geti 2 3 (o_ic (1) (o_iadd (o_puti 2 3 (o_al 0 (o_geti 2 3 (o_ic (4) (o_irem (o_ifne (rc 93) (o_al 0 (o_getr 2 1 (o_ic (14) (o_gs 4 (o_ic (14) (o_ia (o_al 0 (o_getr 2 1 (o_ic (14) (o_ia (o_ic (1) (o_iadd (o_mmin (o_iast (rc 93)))))))))))))))))))))))))))))
def bX2_pour_93 (f1 f2 : ox_F) (rc : Nat → ox_K) : ox_K := o_ret
section SX2_pour
variable {p : Program} {l : Launch} {e : Env} {R : Room} {s : State} {m : MethodId} {args : Array Value} {below : List Frame} {meth : Method} {c : Code} {g : ox_G} {c0 t0 dp d1 d2 : Nat} {rc : Nat → ox_K} {f1 f2 : ox_F}
set_option maxRecDepth 100000 in
theorem kX2_pour_0 (C : ox_C p s m args c g 4 cX2_pour RX2) (hr : meth.sig.returnType = none) (hlk : meth.locks = false) (hnm : meth.name = "pour") (hR : R.frames = dp ∧ R.locals = 60 * dp) (e0 : 1 ≤ dp) (h1 : ox_Sem yX5_isEmpty cX5_isEmpty 1 (some .boolean) d1 f1) (e1 : d1 + 1 ≤ dp) (h2 : ox_Sem yX5_takeFrom cX5_takeFrom 3 none d2 f2) (e2 : d2 + 1 ≤ dp) (hrc : ∀ b, ox_S p l e R s m args below meth c g 4 c0 t0 (ox_QM g below args s c0 t0) b (rc b)) : ox_S p l e R s m args below meth c g 4 c0 t0 (ox_QM g below args s c0 t0) 0 (bX2_pour_0 f1 f2 rc) := by
  refine s_iconst (pc := 0) C dX2_pour_0 (by decide) ?_
  refine s_aload_n (pc := 1) C dX2_pour_1 rfl ?_
  refine s_getr (pc := 2) (j := 1) (q := (RX2, TX2, 6)) C rfl (by decide) rfl wF_X2_24 dX2_pour_2 ?_
  refine s_iconst (pc := 5) C dX2_pour_5 (by decide) ?_
  refine s_ia (pc := 6) C dX2_pour_6 ?_
  refine s_aload_n (pc := 7) C dX2_pour_7 rfl ?_
  refine s_getr (pc := 8) (j := 1) (q := (RX2, TX2, 6)) C rfl (by decide) rfl wF_X2_24 dX2_pour_8 ?_
  refine s_bipush (pc := 11) C dX2_pour_11 (by decide) ?_
  refine s_ia (pc := 13) C dX2_pour_13 ?_
  refine s_iadd (pc := 14) C dX2_pour_14 ?_
  refine s_aload_n (pc := 15) C dX2_pour_15 rfl ?_
  refine s_getr (pc := 16) (j := 1) (q := (RX2, TX2, 6)) C rfl (by decide) rfl wF_X2_24 dX2_pour_16 ?_
  refine s_bipush (pc := 19) C dX2_pour_19 (by decide) ?_
  refine s_ia (pc := 21) C dX2_pour_21 ?_
  refine s_iadd (pc := 22) C dX2_pour_22 ?_
  refine s_mmax (pc := 23) C wM_X2_63 wT_mmax wN_J9 wC_mmax (ox_lv3 hR e0) dX2_pour_23 ?_
  refine s_istore_n (pc := 26) C dX2_pour_26 rfl (by decide) ?_
  refine s_aload_n (pc := 27) C dX2_pour_27 rfl ?_
  refine s_cv (pc := 28) (q := (RX5, TX5, 8)) C h1 rfl wM_X2_56 wI_X5_isEmpty wS_X5_isEmpty wN_X5 wC_X5_isEmpty (by decide +kernel) (ox_lv hR e1 (by decide)) dX2_pour_28 ?_
  refine s_ifeq (pc := 31) 42 C dX2_pour_31 (by decide) (hrc 42) ?_
  refine s_aload_n (pc := 34) C dX2_pour_34 rfl ?_
  refine s_geti (pc := 35) (j := 0) (q := (RX9, TX9, 5)) C rfl (by decide) rfl wF_X2_69 dX2_pour_35 ?_
  refine s_iload_n (pc := 38) C dX2_pour_38 rfl ?_
  refine s_icmpge (pc := 39) 43 C dX2_pour_39 (by decide) (hrc 43) ?_
  exact hrc 42
set_option maxRecDepth 100000 in
theorem kX2_pour_42 (C : ox_C p s m args c g 4 cX2_pour RX2) (hr : meth.sig.returnType = none) (hlk : meth.locks = false) (hnm : meth.name = "pour") (hR : R.frames = dp ∧ R.locals = 60 * dp) (e0 : 1 ≤ dp) (h1 : ox_Sem yX5_isEmpty cX5_isEmpty 1 (some .boolean) d1 f1) (e1 : d1 + 1 ≤ dp) (h2 : ox_Sem yX5_takeFrom cX5_takeFrom 3 none d2 f2) (e2 : d2 + 1 ≤ dp) (hrc : ∀ b, ox_S p l e R s m args below meth c g 4 c0 t0 (ox_QM g below args s c0 t0) b (rc b)) : ox_S p l e R s m args below meth c g 4 c0 t0 (ox_QM g below args s c0 t0) 42 (bX2_pour_42 f1 f2 rc) := by
  exact s_ret (pc := 42) C hr hlk dX2_pour_42
set_option maxRecDepth 100000 in
theorem kX2_pour_43 (C : ox_C p s m args c g 4 cX2_pour RX2) (hr : meth.sig.returnType = none) (hlk : meth.locks = false) (hnm : meth.name = "pour") (hR : R.frames = dp ∧ R.locals = 60 * dp) (e0 : 1 ≤ dp) (h1 : ox_Sem yX5_isEmpty cX5_isEmpty 1 (some .boolean) d1 f1) (e1 : d1 + 1 ≤ dp) (h2 : ox_Sem yX5_takeFrom cX5_takeFrom 3 none d2 f2) (e2 : d2 + 1 ≤ dp) (hrc : ∀ b, ox_S p l e R s m args below meth c g 4 c0 t0 (ox_QM g below args s c0 t0) b (rc b)) : ox_S p l e R s m args below meth c g 4 c0 t0 (ox_QM g below args s c0 t0) 43 (bX2_pour_43 f1 f2 rc) := by
  refine s_aload_n (pc := 43) C dX2_pour_43 rfl ?_
  refine s_aload_n (pc := 44) C dX2_pour_44 rfl ?_
  refine s_iload_n (pc := 45) C dX2_pour_45 rfl ?_
  refine s_cv (pc := 46) (q := (RX5, TX5, 8)) C h2 rfl wM_X2_74 wI_X5_takeFrom wS_X5_takeFrom wN_X5 wC_X5_takeFrom (by decide +kernel) (ox_lv hR e2 (by decide)) dX2_pour_46 ?_
  refine s_aload_n (pc := 49) C dX2_pour_49 rfl ?_
  refine s_dup (pc := 50) C dX2_pour_50 ?_
  refine s_geti (pc := 51) (j := 3) (q := (RX2, TX2, 6)) C rfl (by decide) rfl wF_X2_78 dX2_pour_51 ?_
  refine s_iconst (pc := 54) C dX2_pour_54 (by decide) ?_
  refine s_iadd (pc := 55) C dX2_pour_55 ?_
  refine s_puti (pc := 56) (j := 3) (q := (RX2, TX2, 6)) C rfl (by decide) rfl (Or.inl rfl) wF_X2_78 dX2_pour_56 ?_
  refine s_aload_n (pc := 59) C dX2_pour_59 rfl ?_
  refine s_geti (pc := 60) (j := 3) (q := (RX2, TX2, 6)) C rfl (by decide) rfl wF_X2_78 dX2_pour_60 ?_
  refine s_iconst (pc := 63) C dX2_pour_63 (by decide) ?_
  refine s_irem (pc := 64) C dX2_pour_64 ?_
  refine s_ifne (pc := 65) 93 C dX2_pour_65 (by decide) (hrc 93) ?_
  refine s_aload_n (pc := 68) C dX2_pour_68 rfl ?_
  refine s_getr (pc := 69) (j := 1) (q := (RX2, TX2, 6)) C rfl (by decide) rfl wF_X2_24 dX2_pour_69 ?_
  refine s_bipush (pc := 72) C dX2_pour_72 (by decide) ?_
  refine s_gs (pc := 74) (C1 := "SweetLine$Belt") (n1 := "GEAR_MOST") (d1 := "[I") C (by decide +kernel) wF_X2_81 dX2_pour_74 ?_
  refine s_bipush (pc := 77) C dX2_pour_77 (by decide) ?_
  refine s_ia (pc := 79) C dX2_pour_79 ?_
  refine s_aload_n (pc := 80) C dX2_pour_80 rfl ?_
  refine s_getr (pc := 81) (j := 1) (q := (RX2, TX2, 6)) C rfl (by decide) rfl wF_X2_24 dX2_pour_81 ?_
  refine s_bipush (pc := 84) C dX2_pour_84 (by decide) ?_
  refine s_ia (pc := 86) C dX2_pour_86 ?_
  refine s_iconst (pc := 87) C dX2_pour_87 (by decide) ?_
  refine s_iadd (pc := 88) C dX2_pour_88 ?_
  refine s_mmin (pc := 89) C wM_X2_84 wT_mmin wN_J9 wC_mmin (ox_lv3 hR e0) dX2_pour_89 ?_
  refine s_iast (pc := 92) C dX2_pour_92 ?_
  exact hrc 93
set_option maxRecDepth 100000 in
theorem kX2_pour_93 (C : ox_C p s m args c g 4 cX2_pour RX2) (hr : meth.sig.returnType = none) (hlk : meth.locks = false) (hnm : meth.name = "pour") (hR : R.frames = dp ∧ R.locals = 60 * dp) (e0 : 1 ≤ dp) (h1 : ox_Sem yX5_isEmpty cX5_isEmpty 1 (some .boolean) d1 f1) (e1 : d1 + 1 ≤ dp) (h2 : ox_Sem yX5_takeFrom cX5_takeFrom 3 none d2 f2) (e2 : d2 + 1 ≤ dp) (hrc : ∀ b, ox_S p l e R s m args below meth c g 4 c0 t0 (ox_QM g below args s c0 t0) b (rc b)) : ox_S p l e R s m args below meth c g 4 c0 t0 (ox_QM g below args s c0 t0) 93 (bX2_pour_93 f1 f2 rc) := by
  exact s_ret (pc := 93) C hr hlk dX2_pour_93
end SX2_pour
def bsX2_pour (f1 f2 : ox_F) (b : Nat) (rc : Nat → ox_K) : ox_K := if b = 0 then bX2_pour_0 f1 f2 rc else if b = 42 then bX2_pour_42 f1 f2 rc else if b = 43 then bX2_pour_43 f1 f2 rc else if b = 93 then bX2_pour_93 f1 f2 rc else ox_no
theorem mX2_pour {dp d1 d2 : Nat} {f1 f2 f : ox_F} (e0 : 1 ≤ dp) (h1 : ox_Sem yX5_isEmpty cX5_isEmpty 1 (some .boolean) d1 f1) (e1 : d1 + 1 ≤ dp) (h2 : ox_Sem yX5_takeFrom cX5_takeFrom 3 none d2 f2) (e2 : d2 + 1 ≤ dp) (hf : ∀ as h r, f as h = some r → ox_cs as ≤ 4 ∧ ox_le h r.2 ∧ ∃ n, ox_run (bsX2_pour f1 f2) n 0 (lv_args 0 as) [] h = some r) : ox_Sem yX2_pour cX2_pour 4 none dp f := by
  refine ox_meth (bs := bsX2_pour f1 f2) (by decide) hf ?_
  intro p l e R s m args below meth c g c0 t0 C hr hlk hnm hR rc hrc b
  unfold bsX2_pour
  refine ox_br (kX2_pour_0 C hr hlk hnm hR e0 h1 e1 h2 e2 hrc) ?_
  refine ox_br (kX2_pour_42 C hr hlk hnm hR e0 h1 e1 h2 e2 hrc) ?_
  refine ox_br (kX2_pour_43 C hr hlk hnm hR e0 h1 e1 h2 e2 hrc) ?_
  refine ox_br (kX2_pour_93 C hr hlk hnm hR e0 h1 e1 h2 e2 hrc) ?_
  exact s_no
theorem dX2_turnOut_0 : decode cX2_turnOut 0 = .ok (.aload_n 1, 1) := by decide +kernel
theorem dX2_turnOut_1 : decode cX2_turnOut 1 = .ok (.invokevirtual 56, 3) := by decide +kernel
theorem dX2_turnOut_4 : decode cX2_turnOut 4 = .ok (.ifCond .eq 4, 3) := by decide +kernel
theorem dX2_turnOut_7 : decode cX2_turnOut 7 = .ok (.return_, 1) := by decide +kernel
theorem dX2_turnOut_8 : decode cX2_turnOut 8 = .ok (.aload_n 1, 1) := by decide +kernel
theorem dX2_turnOut_9 : decode cX2_turnOut 9 = .ok (.getfield 87, 3) := by decide +kernel
theorem dX2_turnOut_12 : decode cX2_turnOut 12 = .ok (.ifCond .eq 35, 3) := by decide +kernel
theorem dX2_turnOut_15 : decode cX2_turnOut 15 = .ok (.aload_n 1, 1) := by decide +kernel
theorem dX2_turnOut_16 : decode cX2_turnOut 16 = .ok (.getfield 91, 3) := by decide +kernel
theorem dX2_turnOut_19 : decode cX2_turnOut 19 = .ok (.bipush 18, 2) := by decide +kernel
theorem dX2_turnOut_21 : decode cX2_turnOut 21 = .ok (.if_icmp .gt 26, 3) := by decide +kernel
theorem dX2_turnOut_24 : decode cX2_turnOut 24 = .ok (.aload_n 2, 1) := by decide +kernel
theorem dX2_turnOut_25 : decode cX2_turnOut 25 = .ok (.aload_n 1, 1) := by decide +kernel
theorem dX2_turnOut_26 : decode cX2_turnOut 26 = .ok (.aload_n 0, 1) := by decide +kernel
theorem dX2_turnOut_27 : decode cX2_turnOut 27 = .ok (.getfield 53, 3) := by decide +kernel
theorem dX2_turnOut_30 : decode cX2_turnOut 30 = .ok (.aload_n 0, 1) := by decide +kernel
theorem dX2_turnOut_31 : decode cX2_turnOut 31 = .ok (.getfield 24, 3) := by decide +kernel
theorem dX2_turnOut_34 : decode cX2_turnOut 34 = .ok (.iconst 0, 1) := by decide +kernel
theorem dX2_turnOut_35 : decode cX2_turnOut 35 = .ok (.iaload, 1) := by decide +kernel
theorem dX2_turnOut_36 : decode cX2_turnOut 36 = .ok (.invokevirtual 94, 3) := by decide +kernel
theorem dX2_turnOut_39 : decode cX2_turnOut 39 = .ok (.aload_n 1, 1) := by decide +kernel
theorem dX2_turnOut_40 : decode cX2_turnOut 40 = .ok (.iconst 0, 1) := by decide +kernel
theorem dX2_turnOut_41 : decode cX2_turnOut 41 = .ok (.putfield 60, 3) := by decide +kernel
theorem dX2_turnOut_44 : decode cX2_turnOut 44 = .ok (.goto 13, 3) := by decide +kernel
theorem dX2_turnOut_47 : decode cX2_turnOut 47 = .ok (.aload_n 0, 1) := by decide +kernel
theorem dX2_turnOut_48 : decode cX2_turnOut 48 = .ok (.dup, 1) := by decide +kernel
theorem dX2_turnOut_49 : decode cX2_turnOut 49 = .ok (.getfield 100, 3) := by decide +kernel
theorem dX2_turnOut_52 : decode cX2_turnOut 52 = .ok (.iconst 1, 1) := by decide +kernel
theorem dX2_turnOut_53 : decode cX2_turnOut 53 = .ok (.iadd, 1) := by decide +kernel
theorem dX2_turnOut_54 : decode cX2_turnOut 54 = .ok (.putfield 100, 3) := by decide +kernel
theorem dX2_turnOut_57 : decode cX2_turnOut 57 = .ok (.return_, 1) := by decide +kernel
def bX2_turnOut_0 (f1 f2 : ox_F) (rc : Nat → ox_K) : ox_K := o_al 1 (o_cv f1 5 0 (o_ifeq (rc 8) (o_ret)))
def bX2_turnOut_8 (f1 f2 : ox_F) (rc : Nat → ox_K) : ox_K := o_al 1 (o_geti 5 6 (o_ifeq (rc 47) (o_al 1 (o_geti 5 4 (o_ic (18) (o_icgt (rc 47) (o_al 2 (o_al 1 (o_al 0 (o_geti 2 4 (o_al 0 (o_getr 2 1 (o_ic (0) (o_ia (o_cv f2 1 3 (o_al 1 (o_ic (0) (o_puti 5 0 (rc 57)))))))))))))))))))
def bX2_turnOut_47 (f1 f2 : ox_F) (rc : Nat → ox_K) : ox_K := o_al 0 (o_dup (o_geti 2 5 (o_ic (1) (o_iadd (o_puti 2 5 (rc 57))))))
def bX2_turnOut_57 (f1 f2 : ox_F) (rc : Nat → ox_K) : ox_K := o_ret
section SX2_turnOut
variable {p : Program} {l : Launch} {e : Env} {R : Room} {s : State} {m : MethodId} {args : Array Value} {below : List Frame} {meth : Method} {c : Code} {g : ox_G} {c0 t0 dp d1 d2 : Nat} {rc : Nat → ox_K} {f1 f2 : ox_F}
set_option maxRecDepth 100000 in
theorem kX2_turnOut_0 (C : ox_C p s m args c g 3 cX2_turnOut RX2) (hr : meth.sig.returnType = none) (hlk : meth.locks = false) (hnm : meth.name = "turnOut") (hR : R.frames = dp ∧ R.locals = 60 * dp) (h1 : ox_Sem yX5_isEmpty cX5_isEmpty 1 (some .boolean) d1 f1) (e1 : d1 + 1 ≤ dp) (h2 : ox_Sem yX1_take cX1_take 4 none d2 f2) (e2 : d2 + 1 ≤ dp) (hrc : ∀ b, ox_S p l e R s m args below meth c g 3 c0 t0 (ox_QM g below args s c0 t0) b (rc b)) : ox_S p l e R s m args below meth c g 3 c0 t0 (ox_QM g below args s c0 t0) 0 (bX2_turnOut_0 f1 f2 rc) := by
  refine s_aload_n (pc := 0) C dX2_turnOut_0 rfl ?_
  refine s_cv (pc := 1) (q := (RX5, TX5, 8)) C h1 rfl wM_X2_56 wI_X5_isEmpty wS_X5_isEmpty wN_X5 wC_X5_isEmpty (by decide +kernel) (ox_lv hR e1 (by decide)) dX2_turnOut_1 ?_
  refine s_ifeq (pc := 4) 8 C dX2_turnOut_4 (by decide) (hrc 8) ?_
  exact s_ret (pc := 7) C hr hlk dX2_turnOut_7
set_option maxRecDepth 100000 in
theorem kX2_turnOut_8 (C : ox_C p s m args c g 3 cX2_turnOut RX2) (hr : meth.sig.returnType = none) (hlk : meth.locks = false) (hnm : meth.name = "turnOut") (hR : R.frames = dp ∧ R.locals = 60 * dp) (h1 : ox_Sem yX5_isEmpty cX5_isEmpty 1 (some .boolean) d1 f1) (e1 : d1 + 1 ≤ dp) (h2 : ox_Sem yX1_take cX1_take 4 none d2 f2) (e2 : d2 + 1 ≤ dp) (hrc : ∀ b, ox_S p l e R s m args below meth c g 3 c0 t0 (ox_QM g below args s c0 t0) b (rc b)) : ox_S p l e R s m args below meth c g 3 c0 t0 (ox_QM g below args s c0 t0) 8 (bX2_turnOut_8 f1 f2 rc) := by
  refine s_aload_n (pc := 8) C dX2_turnOut_8 rfl ?_
  refine s_geti (pc := 9) (j := 6) (q := (RX5, TX5, 8)) C rfl (by decide) rfl wF_X2_87 dX2_turnOut_9 ?_
  refine s_ifeq (pc := 12) 47 C dX2_turnOut_12 (by decide) (hrc 47) ?_
  refine s_aload_n (pc := 15) C dX2_turnOut_15 rfl ?_
  refine s_geti (pc := 16) (j := 4) (q := (RX5, TX5, 8)) C rfl (by decide) rfl wF_X2_91 dX2_turnOut_16 ?_
  refine s_bipush (pc := 19) C dX2_turnOut_19 (by decide) ?_
  refine s_icmpgt (pc := 21) 47 C dX2_turnOut_21 (by decide) (hrc 47) ?_
  refine s_aload_n (pc := 24) C dX2_turnOut_24 rfl ?_
  refine s_aload_n (pc := 25) C dX2_turnOut_25 rfl ?_
  refine s_aload_n (pc := 26) C dX2_turnOut_26 rfl ?_
  refine s_geti (pc := 27) (j := 4) (q := (RX2, TX2, 6)) C rfl (by decide) rfl wF_X2_53 dX2_turnOut_27 ?_
  refine s_aload_n (pc := 30) C dX2_turnOut_30 rfl ?_
  refine s_getr (pc := 31) (j := 1) (q := (RX2, TX2, 6)) C rfl (by decide) rfl wF_X2_24 dX2_turnOut_31 ?_
  refine s_iconst (pc := 34) C dX2_turnOut_34 (by decide) ?_
  refine s_ia (pc := 35) C dX2_turnOut_35 ?_
  refine s_cv (pc := 36) (q := (RX1, TX1, 7)) C h2 rfl wM_X2_94 wI_X1_take wS_X1_take wN_X1 wC_X1_take (by decide +kernel) (ox_lv hR e2 (by decide)) dX2_turnOut_36 ?_
  refine s_aload_n (pc := 39) C dX2_turnOut_39 rfl ?_
  refine s_iconst (pc := 40) C dX2_turnOut_40 (by decide) ?_
  refine s_puti (pc := 41) (j := 0) (q := (RX5, TX5, 8)) C rfl (by decide) rfl (Or.inl rfl) wF_X2_60 dX2_turnOut_41 ?_
  exact s_goto (pc := 44) 57 C dX2_turnOut_44 (by decide) (hrc 57)
set_option maxRecDepth 100000 in
theorem kX2_turnOut_47 (C : ox_C p s m args c g 3 cX2_turnOut RX2) (hr : meth.sig.returnType = none) (hlk : meth.locks = false) (hnm : meth.name = "turnOut") (hR : R.frames = dp ∧ R.locals = 60 * dp) (h1 : ox_Sem yX5_isEmpty cX5_isEmpty 1 (some .boolean) d1 f1) (e1 : d1 + 1 ≤ dp) (h2 : ox_Sem yX1_take cX1_take 4 none d2 f2) (e2 : d2 + 1 ≤ dp) (hrc : ∀ b, ox_S p l e R s m args below meth c g 3 c0 t0 (ox_QM g below args s c0 t0) b (rc b)) : ox_S p l e R s m args below meth c g 3 c0 t0 (ox_QM g below args s c0 t0) 47 (bX2_turnOut_47 f1 f2 rc) := by
  refine s_aload_n (pc := 47) C dX2_turnOut_47 rfl ?_
  refine s_dup (pc := 48) C dX2_turnOut_48 ?_
  refine s_geti (pc := 49) (j := 5) (q := (RX2, TX2, 6)) C rfl (by decide) rfl wF_X2_100 dX2_turnOut_49 ?_
  refine s_iconst (pc := 52) C dX2_turnOut_52 (by decide) ?_
  refine s_iadd (pc := 53) C dX2_turnOut_53 ?_
  refine s_puti (pc := 54) (j := 5) (q := (RX2, TX2, 6)) C rfl (by decide) rfl (Or.inl rfl) wF_X2_100 dX2_turnOut_54 ?_
  exact hrc 57
set_option maxRecDepth 100000 in
theorem kX2_turnOut_57 (C : ox_C p s m args c g 3 cX2_turnOut RX2) (hr : meth.sig.returnType = none) (hlk : meth.locks = false) (hnm : meth.name = "turnOut") (hR : R.frames = dp ∧ R.locals = 60 * dp) (h1 : ox_Sem yX5_isEmpty cX5_isEmpty 1 (some .boolean) d1 f1) (e1 : d1 + 1 ≤ dp) (h2 : ox_Sem yX1_take cX1_take 4 none d2 f2) (e2 : d2 + 1 ≤ dp) (hrc : ∀ b, ox_S p l e R s m args below meth c g 3 c0 t0 (ox_QM g below args s c0 t0) b (rc b)) : ox_S p l e R s m args below meth c g 3 c0 t0 (ox_QM g below args s c0 t0) 57 (bX2_turnOut_57 f1 f2 rc) := by
  exact s_ret (pc := 57) C hr hlk dX2_turnOut_57
end SX2_turnOut
def bsX2_turnOut (f1 f2 : ox_F) (b : Nat) (rc : Nat → ox_K) : ox_K := if b = 0 then bX2_turnOut_0 f1 f2 rc else if b = 8 then bX2_turnOut_8 f1 f2 rc else if b = 47 then bX2_turnOut_47 f1 f2 rc else if b = 57 then bX2_turnOut_57 f1 f2 rc else ox_no
theorem mX2_turnOut {dp d1 d2 : Nat} {f1 f2 f : ox_F} (h1 : ox_Sem yX5_isEmpty cX5_isEmpty 1 (some .boolean) d1 f1) (e1 : d1 + 1 ≤ dp) (h2 : ox_Sem yX1_take cX1_take 4 none d2 f2) (e2 : d2 + 1 ≤ dp) (hf : ∀ as h r, f as h = some r → ox_cs as ≤ 3 ∧ ox_le h r.2 ∧ ∃ n, ox_run (bsX2_turnOut f1 f2) n 0 (lv_args 0 as) [] h = some r) : ox_Sem yX2_turnOut cX2_turnOut 3 none dp f := by
  refine ox_meth (bs := bsX2_turnOut f1 f2) (by decide) hf ?_
  intro p l e R s m args below meth c g c0 t0 C hr hlk hnm hR rc hrc b
  unfold bsX2_turnOut
  refine ox_br (kX2_turnOut_0 C hr hlk hnm hR h1 e1 h2 e2 hrc) ?_
  refine ox_br (kX2_turnOut_8 C hr hlk hnm hR h1 e1 h2 e2 hrc) ?_
  refine ox_br (kX2_turnOut_47 C hr hlk hnm hR h1 e1 h2 e2 hrc) ?_
  refine ox_br (kX2_turnOut_57 C hr hlk hnm hR h1 e1 h2 e2 hrc) ?_
  exact s_no
