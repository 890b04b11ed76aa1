theorem dX4_init_0 : decode cX4_init 0 = .ok (.aload_n 0, 1) := by decide +kernel
theorem dX4_init_1 : decode cX4_init 1 = .ok (.invokespecial 1, 3) := by decide +kernel
theorem dX4_init_4 : decode cX4_init 4 = .ok (.return_, 1) := by decide +kernel
def bX4_init_0 (rc : Nat → ox_K) : ox_K := o_al 0 (o_obj (o_ret))
section SX4_init
variable {p : Program} {l : Launch} {e : Env} {R : Room} {s : State} {m : MethodId} {args : Array Value} {below : List Frame} {meth : Method} {c : Code} {g : ox_G} {c0 t0 dp  : Nat} {rc : Nat → ox_K}
set_option maxRecDepth 100000 in
theorem kX4_init_0 (C : ox_C p s m args c g 1 cX4_init RX4) (hr : meth.sig.returnType = none) (hlk : meth.locks = false) (hnm : meth.name = "<init>") (hR : R.frames = dp ∧ R.locals = 60 * dp) (e0 : 1 ≤ dp) (hrc : ∀ b, ox_S p l e R s m args below meth c g 1 c0 t0 (ox_QM g below args s c0 t0) b (rc b)) : ox_S p l e R s m args below meth c g 1 c0 t0 (ox_QM g below args s c0 t0) 0 (bX4_init_0 rc) := by
  refine s_aload_n (pc := 0) C dX4_init_0 rfl ?_
  refine s_obj (pc := 1) C wM_X4_1 wO1 wO2 (ox_lv1 hR e0) dX4_init_1 ?_
  exact s_ret (pc := 4) C hr hlk dX4_init_4
end SX4_init
def bsX4_init (b : Nat) (rc : Nat → ox_K) : ox_K := if b = 0 then bX4_init_0 rc else ox_no
theorem mX4_init {dp  : Nat} {f : ox_F} (e0 : 1 ≤ dp) (hf : ∀ as h r, f as h = some r → ox_cs as ≤ 1 ∧ ox_le h r.2 ∧ ∃ n, ox_run (bsX4_init) n 0 (lv_args 0 as) [] h = some r) : ox_Sem yX4_init cX4_init 1 none dp f := by
  refine ox_meth (bs := bsX4_init) (by decide) hf ?_
  intro p l e R s m args below meth c g c0 t0 C hr hlk hnm hR rc hrc b
  unfold bsX4_init
  refine ox_br (kX4_init_0 C hr hlk hnm hR e0 hrc) ?_
  exact s_no
theorem dX4_begin_0 : decode cX4_begin 0 = .ok (.aload_n 0, 1) := by decide +kernel
theorem dX4_begin_1 : decode cX4_begin 1 = .ok (.iload_n 1, 1) := by decide +kernel
theorem dX4_begin_2 : decode cX4_begin 2 = .ok (.putfield 7, 3) := by decide +kernel
theorem dX4_begin_5 : decode cX4_begin 5 = .ok (.aload_n 0, 1) := by decide +kernel
theorem dX4_begin_6 : decode cX4_begin 6 = .ok (.iload_n 2, 1) := by decide +kernel
theorem dX4_begin_7 : decode cX4_begin 7 = .ok (.putfield 13, 3) := by decide +kernel
theorem dX4_begin_10 : decode cX4_begin 10 = .ok (.return_, 1) := by decide +kernel
def bX4_begin_0 (rc : Nat → ox_K) : ox_K := o_al 0 (o_il 1 (o_puti 4 0 (o_al 0 (o_il 2 (o_puti 4 1 (o_ret))))))
section SX4_begin
variable {p : Program} {l : Launch} {e : Env} {R : Room} {s : State} {m : MethodId} {args : Array Value} {below : List Frame} {meth : Method} {c : Code} {g : ox_G} {c0 t0 dp  : Nat} {rc : Nat → ox_K}
set_option maxRecDepth 100000 in
theorem kX4_begin_0 (C : ox_C p s m args c g 3 cX4_begin RX4) (hr : meth.sig.returnType = none) (hlk : meth.locks = false) (hnm : meth.name = "begin") (hR : R.frames = dp ∧ R.locals = 60 * dp) (hrc : ∀ b, ox_S p l e R s m args below meth c g 3 c0 t0 (ox_QM g below args s c0 t0) b (rc b)) : ox_S p l e R s m args below meth c g 3 c0 t0 (ox_QM g below args s c0 t0) 0 (bX4_begin_0 rc) := by
  refine s_aload_n (pc := 0) C dX4_begin_0 rfl ?_
  refine s_iload_n (pc := 1) C dX4_begin_1 rfl ?_
  refine s_puti (pc := 2) (j := 0) (q := (RX4, TX4, 2)) C rfl (by decide) rfl (Or.inl rfl) wF_X4_7 dX4_begin_2 ?_
  refine s_aload_n (pc := 5) C dX4_begin_5 rfl ?_
  refine s_iload_n (pc := 6) C dX4_begin_6 rfl ?_
  refine s_puti (pc := 7) (j := 1) (q := (RX4, TX4, 2)) C rfl (by decide) rfl (Or.inl rfl) wF_X4_13 dX4_begin_7 ?_
  exact s_ret (pc := 10) C hr hlk dX4_begin_10
end SX4_begin
def bsX4_begin (b : Nat) (rc : Nat → ox_K) : ox_K := if b = 0 then bX4_begin_0 rc else ox_no
theorem mX4_begin {dp  : Nat} {f : ox_F} (hf : ∀ as h r, f as h = some r → ox_cs as ≤ 3 ∧ ox_le h r.2 ∧ ∃ n, ox_run (bsX4_begin) n 0 (lv_args 0 as) [] h = some r) : ox_Sem yX4_begin cX4_begin 3 none dp f := by
  refine ox_meth (bs := bsX4_begin) (by decide) hf ?_
  intro p l e R s m args below meth c g c0 t0 C hr hlk hnm hR rc hrc b
  unfold bsX4_begin
  refine ox_br (kX4_begin_0 C hr hlk hnm hR hrc) ?_
  exact s_no
theorem dX4_goThrough_0 : decode cX4_goThrough 0 = .ok (.iconst 0, 1) := by decide +kernel
theorem dX4_goThrough_1 : decode cX4_goThrough 1 = .ok (.istore_n 2, 1) := by decide +kernel
theorem dX4_goThrough_2 : decode cX4_goThrough 2 = .ok (.iload_n 2, 1) := by decide +kernel
theorem dX4_goThrough_3 : decode cX4_goThrough 3 = .ok (.aload_n 1, 1) := by decide +kernel
theorem dX4_goThrough_4 : decode cX4_goThrough 4 = .ok (.getfield 16, 3) := by decide +kernel
theorem dX4_goThrough_7 : decode cX4_goThrough 7 = .ok (.if_icmp .ge 103, 3) := by decide +kernel
theorem dX4_goThrough_10 : decode cX4_goThrough 10 = .ok (.iload_n 2, 1) := by decide +kernel
theorem dX4_goThrough_11 : decode cX4_goThrough 11 = .ok (.bipush 6, 2) := by decide +kernel
theorem dX4_goThrough_13 : decode cX4_goThrough 13 = .ok (.if_icmp .ge 97, 3) := by decide +kernel
theorem dX4_goThrough_16 : decode cX4_goThrough 16 = .ok (.aload_n 1, 1) := by decide +kernel
theorem dX4_goThrough_17 : decode cX4_goThrough 17 = .ok (.getfield 21, 3) := by decide +kernel
theorem dX4_goThrough_20 : decode cX4_goThrough 20 = .ok (.iload_n 2, 1) := by decide +kernel
theorem dX4_goThrough_21 : decode cX4_goThrough 21 = .ok (.iaload, 1) := by decide +kernel
theorem dX4_goThrough_22 : decode cX4_goThrough 22 = .ok (.ifCond .ne 24, 3) := by decide +kernel
theorem dX4_goThrough_25 : decode cX4_goThrough 25 = .ok (.aload_n 0, 1) := by decide +kernel
theorem dX4_goThrough_26 : decode cX4_goThrough 26 = .ok (.sipush 999, 3) := by decide +kernel
theorem dX4_goThrough_29 : decode cX4_goThrough 29 = .ok (.aload_n 0, 1) := by decide +kernel
theorem dX4_goThrough_30 : decode cX4_goThrough 30 = .ok (.getfield 13, 3) := by decide +kernel
theorem dX4_goThrough_33 : decode cX4_goThrough 33 = .ok (.aload_n 1, 1) := by decide +kernel
theorem dX4_goThrough_34 : decode cX4_goThrough 34 = .ok (.getfield 25, 3) := by decide +kernel
theorem dX4_goThrough_37 : decode cX4_goThrough 37 = .ok (.iload_n 2, 1) := by decide +kernel
theorem dX4_goThrough_38 : decode cX4_goThrough 38 = .ok (.iaload, 1) := by decide +kernel
theorem dX4_goThrough_39 : decode cX4_goThrough 39 = .ok (.iadd, 1) := by decide +kernel
theorem dX4_goThrough_40 : decode cX4_goThrough 40 = .ok (.invokestatic 28, 3) := by decide +kernel
theorem dX4_goThrough_43 : decode cX4_goThrough 43 = .ok (.putfield 13, 3) := by decide +kernel
theorem dX4_goThrough_46 : decode cX4_goThrough 46 = .ok (.iconst 0, 1) := by decide +kernel
theorem dX4_goThrough_47 : decode cX4_goThrough 47 = .ok (.istore_n 3, 1) := by decide +kernel
theorem dX4_goThrough_48 : decode cX4_goThrough 48 = .ok (.iload_n 3, 1) := by decide +kernel
theorem dX4_goThrough_49 : decode cX4_goThrough 49 = .ok (.aload_n 1, 1) := by decide +kernel
theorem dX4_goThrough_50 : decode cX4_goThrough 50 = .ok (.getfield 21, 3) := by decide +kernel
theorem dX4_goThrough_53 : decode cX4_goThrough 53 = .ok (.iload_n 2, 1) := by decide +kernel
theorem dX4_goThrough_54 : decode cX4_goThrough 54 = .ok (.iaload, 1) := by decide +kernel
theorem dX4_goThrough_55 : decode cX4_goThrough 55 = .ok (.if_icmp .ge 49, 3) := by decide +kernel
theorem dX4_goThrough_58 : decode cX4_goThrough 58 = .ok (.aload_n 0, 1) := by decide +kernel
theorem dX4_goThrough_59 : decode cX4_goThrough 59 = .ok (.dup, 1) := by decide +kernel
theorem dX4_goThrough_60 : decode cX4_goThrough 60 = .ok (.getfield 7, 3) := by decide +kernel
theorem dX4_goThrough_63 : decode cX4_goThrough 63 = .ok (.aload_n 1, 1) := by decide +kernel
theorem dX4_goThrough_64 : decode cX4_goThrough 64 = .ok (.getfield 25, 3) := by decide +kernel
theorem dX4_goThrough_67 : decode cX4_goThrough 67 = .ok (.iload_n 2, 1) := by decide +kernel
theorem dX4_goThrough_68 : decode cX4_goThrough 68 = .ok (.iaload, 1) := by decide +kernel
theorem dX4_goThrough_69 : decode cX4_goThrough 69 = .ok (.aload_n 0, 1) := by decide +kernel
theorem dX4_goThrough_70 : decode cX4_goThrough 70 = .ok (.getfield 7, 3) := by decide +kernel
theorem dX4_goThrough_73 : decode cX4_goThrough 73 = .ok (.invokestatic 34, 3) := by decide +kernel
theorem dX4_goThrough_76 : decode cX4_goThrough 76 = .ok (.iadd, 1) := by decide +kernel
theorem dX4_goThrough_77 : decode cX4_goThrough 77 = .ok (.putfield 7, 3) := by decide +kernel
theorem dX4_goThrough_80 : decode cX4_goThrough 80 = .ok (.aload_n 0, 1) := by decide +kernel
theorem dX4_goThrough_81 : decode cX4_goThrough 81 = .ok (.iconst 0, 1) := by decide +kernel
theorem dX4_goThrough_82 : decode cX4_goThrough 82 = .ok (.sipush 999, 3) := by decide +kernel
theorem dX4_goThrough_85 : decode cX4_goThrough 85 = .ok (.aload_n 0, 1) := by decide +kernel
theorem dX4_goThrough_86 : decode cX4_goThrough 86 = .ok (.invokevirtual 39, 3) := by decide +kernel
theorem dX4_goThrough_89 : decode cX4_goThrough 89 = .ok (.invokestatic 28, 3) := by decide +kernel
theorem dX4_goThrough_92 : decode cX4_goThrough 92 = .ok (.invokestatic 43, 3) := by decide +kernel
theorem dX4_goThrough_95 : decode cX4_goThrough 95 = .ok (.putfield 13, 3) := by decide +kernel
theorem dX4_goThrough_98 : decode cX4_goThrough 98 = .ok (.iinc 3 1, 3) := by decide +kernel
theorem dX4_goThrough_101 : decode cX4_goThrough 101 = .ok (.goto (-53), 3) := by decide +kernel
theorem dX4_goThrough_104 : decode cX4_goThrough 104 = .ok (.iinc 2 1, 3) := by decide +kernel
theorem dX4_goThrough_107 : decode cX4_goThrough 107 = .ok (.goto (-105), 3) := by decide +kernel
theorem dX4_goThrough_110 : decode cX4_goThrough 110 = .ok (.return_, 1) := by decide +kernel
def bX4_goThrough_0 (f1 f2 : ox_F) (rc : Nat → ox_K) : ox_K := o_ic (0) (o_is 2 (rc 2))
def bX4_goThrough_2 (f1 f2 : ox_F) (rc : Nat → ox_K) : ox_K := o_keep [0, 1, 2] (o_il 2 (o_al 1 (o_geti 6 2 (o_icge (rc 110) (o_il 2 (o_ic (6) (o_icge (rc 110) (o_al 1 (o_getr 6 4 (o_il 2 (o_ia (o_ifne (rc 46) (o_al 0 (o_ic (999) (o_al 0 (o_geti 4 1 (o_al 1 (o_getr 6 3 (o_il 2 (o_ia (o_iadd (o_mmin (o_puti 4 1 (rc 46))))))))))))))))))))))))
def bX4_goThrough_46 (f1 f2 : ox_F) (rc : Nat → ox_K) : ox_K := o_ic (0) (o_is 3 (rc 48))
def bX4_goThrough_48 (f1 f2 : ox_F) (rc : Nat → ox_K) : ox_K := o_keep [0, 1, 2, 3] (o_il 3 (o_al 1 (o_getr 6 4 (o_il 2 (o_ia (o_icge (rc 104) (o_al 0 (o_dup (o_geti 4 0 (o_al 1 (o_getr 6 3 (o_il 2 (o_ia (o_al 0 (o_geti 4 0 (o_ct f1 2 (o_iadd (o_puti 4 0 (o_al 0 (o_ic (0) (o_ic (999) (o_al 0 (o_cv f2 4 0 (o_mmin (o_mmax (o_puti 4 1 (o_inc 3 (1) (rc 48))))))))))))))))))))))))))))
def bX4_goThrough_104 (f1 f2 : ox_F) (rc : Nat → ox_K) : ox_K := o_inc 2 (1) (rc 2)
def bX4_goThrough_110 (f1 f2 : ox_F) (rc : Nat → ox_K) : ox_K := o_ret
section SX4_goThrough
variable {p : Program} {l : Launch} {e : Env} {R : Room} {s : State} {m : MethodId} {args : Array Value} {below : List Frame} {meth : Method} {c : Code} {g : ox_G} {c0 t0 dp d1 d2 : Nat} {rc : Nat → ox_K} {f1 f2 : ox_F}
set_option maxRecDepth 100000 in
theorem kX4_goThrough_0 (C : ox_C p s m args c g 4 cX4_goThrough RX4) (hr : meth.sig.returnType = none) (hlk : meth.locks = false) (hnm : meth.name = "goThrough") (hR : R.frames = dp ∧ R.locals = 60 * dp) (e0 : 1 ≤ dp) (h1 : ox_Sem yJ6_compare_7cf53 cJ6_compare_7cf53 2 (some .int) d1 f1) (e1 : d1 + 1 ≤ dp) (h2 : ox_Sem yX4_seedsOneMinuteOn cX4_seedsOneMinuteOn 1 (some .int) d2 f2) (e2 : d2 + 1 ≤ dp) (hrc : ∀ b, ox_S p l e R s m args below meth c g 4 c0 t0 (ox_QM g below args s c0 t0) b (rc b)) : ox_S p l e R s m args below meth c g 4 c0 t0 (ox_QM g below args s c0 t0) 0 (bX4_goThrough_0 f1 f2 rc) := by
  refine s_iconst (pc := 0) C dX4_goThrough_0 (by decide) ?_
  refine s_istore_n (pc := 1) C dX4_goThrough_1 rfl (by decide) ?_
  exact hrc 2
set_option maxRecDepth 100000 in
theorem kX4_goThrough_2 (C : ox_C p s m args c g 4 cX4_goThrough RX4) (hr : meth.sig.returnType = none) (hlk : meth.locks = false) (hnm : meth.name = "goThrough") (hR : R.frames = dp ∧ R.locals = 60 * dp) (e0 : 1 ≤ dp) (h1 : ox_Sem yJ6_compare_7cf53 cJ6_compare_7cf53 2 (some .int) d1 f1) (e1 : d1 + 1 ≤ dp) (h2 : ox_Sem yX4_seedsOneMinuteOn cX4_seedsOneMinuteOn 1 (some .int) d2 f2) (e2 : d2 + 1 ≤ dp) (hrc : ∀ b, ox_S p l e R s m args below meth c g 4 c0 t0 (ox_QM g below args s c0 t0) b (rc b)) : ox_S p l e R s m args below meth c g 4 c0 t0 (ox_QM g below args s c0 t0) 2 (bX4_goThrough_2 f1 f2 rc) := by
  refine s_keep ?_
  refine s_iload_n (pc := 2) C dX4_goThrough_2 rfl ?_
  refine s_aload_n (pc := 3) C dX4_goThrough_3 rfl ?_
  refine s_geti (pc := 4) (j := 2) (q := (RX6, TX6, 5)) C rfl (by decide) rfl wF_X4_16 dX4_goThrough_4 ?_
  refine s_icmpge (pc := 7) 110 C dX4_goThrough_7 (by decide) (hrc 110) ?_
  refine s_iload_n (pc := 10) C dX4_goThrough_10 rfl ?_
  refine s_bipush (pc := 11) C dX4_goThrough_11 (by decide) ?_
  refine s_icmpge (pc := 13) 110 C dX4_goThrough_13 (by decide) (hrc 110) ?_
  refine s_aload_n (pc := 16) C dX4_goThrough_16 rfl ?_
  refine s_getr (pc := 17) (j := 4) (q := (RX6, TX6, 5)) C rfl (by decide) rfl wF_X4_21 dX4_goThrough_17 ?_
  refine s_iload_n (pc := 20) C dX4_goThrough_20 rfl ?_
  refine s_ia (pc := 21) C dX4_goThrough_21 ?_
  refine s_ifne (pc := 22) 46 C dX4_goThrough_22 (by decide) (hrc 46) ?_
  refine s_aload_n (pc := 25) C dX4_goThrough_25 rfl ?_
  refine s_sipush (pc := 26) C dX4_goThrough_26 (by decide) ?_
  refine s_aload_n (pc := 29) C dX4_goThrough_29 rfl ?_
  refine s_geti (pc := 30) (j := 1) (q := (RX4, TX4, 2)) C rfl (by decide) rfl wF_X4_13 dX4_goThrough_30 ?_
  refine s_aload_n (pc := 33) C dX4_goThrough_33 rfl ?_
  refine s_getr (pc := 34) (j := 3) (q := (RX6, TX6, 5)) C rfl (by decide) rfl wF_X4_25 dX4_goThrough_34 ?_
  refine s_iload_n (pc := 37) C dX4_goThrough_37 rfl ?_
  refine s_ia (pc := 38) C dX4_goThrough_38 ?_
  refine s_iadd (pc := 39) C dX4_goThrough_39 ?_
  refine s_mmin (pc := 40) C wM_X4_28 wT_mmin wN_J9 wC_mmin (ox_lv3 hR e0) dX4_goThrough_40 ?_
  refine s_puti (pc := 43) (j := 1) (q := (RX4, TX4, 2)) C rfl (by decide) rfl (Or.inl rfl) wF_X4_13 dX4_goThrough_43 ?_
  exact hrc 46
set_option maxRecDepth 100000 in
theorem kX4_goThrough_46 (C : ox_C p s m args c g 4 cX4_goThrough RX4) (hr : meth.sig.returnType = none) (hlk : meth.locks = false) (hnm : meth.name = "goThrough") (hR : R.frames = dp ∧ R.locals = 60 * dp) (e0 : 1 ≤ dp) (h1 : ox_Sem yJ6_compare_7cf53 cJ6_compare_7cf53 2 (some .int) d1 f1) (e1 : d1 + 1 ≤ dp) (h2 : ox_Sem yX4_seedsOneMinuteOn cX4_seedsOneMinuteOn 1 (some .int) d2 f2) (e2 : d2 + 1 ≤ dp) (hrc : ∀ b, ox_S p l e R s m args below meth c g 4 c0 t0 (ox_QM g below args s c0 t0) b (rc b)) : ox_S p l e R s m args below meth c g 4 c0 t0 (ox_QM g below args s c0 t0) 46 (bX4_goThrough_46 f1 f2 rc) := by
  refine s_iconst (pc := 46) C dX4_goThrough_46 (by decide) ?_
  refine s_istore_n (pc := 47) C dX4_goThrough_47 rfl (by decide) ?_
  exact hrc 48
set_option maxRecDepth 100000 in
theorem kX4_goThrough_48 (C : ox_C p s m args c g 4 cX4_goThrough RX4) (hr : meth.sig.returnType = none) (hlk : meth.locks = false) (hnm : meth.name = "goThrough") (hR : R.frames = dp ∧ R.locals = 60 * dp) (e0 : 1 ≤ dp) (h1 : ox_Sem yJ6_compare_7cf53 cJ6_compare_7cf53 2 (some .int) d1 f1) (e1 : d1 + 1 ≤ dp) (h2 : ox_Sem yX4_seedsOneMinuteOn cX4_seedsOneMinuteOn 1 (some .int) d2 f2) (e2 : d2 + 1 ≤ dp) (hrc : ∀ b, ox_S p l e R s m args below meth c g 4 c0 t0 (ox_QM g below args s c0 t0) b (rc b)) : ox_S p l e R s m args below meth c g 4 c0 t0 (ox_QM g below args s c0 t0) 48 (bX4_goThrough_48 f1 f2 rc) := by
  refine s_keep ?_
  refine s_iload_n (pc := 48) C dX4_goThrough_48 rfl ?_
  refine s_aload_n (pc := 49) C dX4_goThrough_49 rfl ?_
  refine s_getr (pc := 50) (j := 4) (q := (RX6, TX6, 5)) C rfl (by decide) rfl wF_X4_21 dX4_goThrough_50 ?_
  refine s_iload_n (pc := 53) C dX4_goThrough_53 rfl ?_
  refine s_ia (pc := 54) C dX4_goThrough_54 ?_
  refine s_icmpge (pc := 55) 104 C dX4_goThrough_55 (by decide) (hrc 104) ?_
  refine s_aload_n (pc := 58) C dX4_goThrough_58 rfl ?_
  refine s_dup (pc := 59) C dX4_goThrough_59 ?_
  refine s_geti (pc := 60) (j := 0) (q := (RX4, TX4, 2)) C rfl (by decide) rfl wF_X4_7 dX4_goThrough_60 ?_
  refine s_aload_n (pc := 63) C dX4_goThrough_63 rfl ?_
  refine s_getr (pc := 64) (j := 3) (q := (RX6, TX6, 5)) C rfl (by decide) rfl wF_X4_25 dX4_goThrough_64 ?_
  refine s_iload_n (pc := 67) C dX4_goThrough_67 rfl ?_
  refine s_ia (pc := 68) C dX4_goThrough_68 ?_
  refine s_aload_n (pc := 69) C dX4_goThrough_69 rfl ?_
  refine s_geti (pc := 70) (j := 0) (q := (RX4, TX4, 2)) C rfl (by decide) rfl wF_X4_7 dX4_goThrough_70 ?_
  refine s_ct (pc := 73) C h1 wM_X4_34 wT_J6_compare_7cf53 wN_J6 wC_J6_compare_7cf53 (by decide +kernel) (ox_lv hR e1 (by decide)) dX4_goThrough_73 ?_
  refine s_iadd (pc := 76) C dX4_goThrough_76 ?_
  refine s_puti (pc := 77) (j := 0) (q := (RX4, TX4, 2)) C rfl (by decide) rfl (Or.inl rfl) wF_X4_7 dX4_goThrough_77 ?_
  refine s_aload_n (pc := 80) C dX4_goThrough_80 rfl ?_
  refine s_iconst (pc := 81) C dX4_goThrough_81 (by decide) ?_
  refine s_sipush (pc := 82) C dX4_goThrough_82 (by decide) ?_
  refine s_aload_n (pc := 85) C dX4_goThrough_85 rfl ?_
  refine s_cv (pc := 86) (q := (RX4, TX4, 2)) C h2 rfl wM_X4_39 wI_X4_seedsOneMinuteOn wS_X4_seedsOneMinuteOn wN_X4 wC_X4_seedsOneMinuteOn (by decide +kernel) (ox_lv hR e2 (by decide)) dX4_goThrough_86 ?_
  refine s_mmin (pc := 89) C wM_X4_28 wT_mmin wN_J9 wC_mmin (ox_lv3 hR e0) dX4_goThrough_89 ?_
  refine s_mmax (pc := 92) C wM_X4_43 wT_mmax wN_J9 wC_mmax (ox_lv3 hR e0) dX4_goThrough_92 ?_
  refine s_puti (pc := 95) (j := 1) (q := (RX4, TX4, 2)) C rfl (by decide) rfl (Or.inl rfl) wF_X4_13 dX4_goThrough_95 ?_
  refine s_iinc (pc := 98) C dX4_goThrough_98 (by decide) (by decide) ?_
  exact s_goto (pc := 101) 48 C dX4_goThrough_101 (by decide) (hrc 48)
set_option maxRecDepth 100000 in
theorem kX4_goThrough_104 (C : ox_C p s m args c g 4 cX4_goThrough RX4) (hr : meth.sig.returnType = none) (hlk : meth.locks = false) (hnm : meth.name = "goThrough") (hR : R.frames = dp ∧ R.locals = 60 * dp) (e0 : 1 ≤ dp) (h1 : ox_Sem yJ6_compare_7cf53 cJ6_compare_7cf53 2 (some .int) d1 f1) (e1 : d1 + 1 ≤ dp) (h2 : ox_Sem yX4_seedsOneMinuteOn cX4_seedsOneMinuteOn 1 (some .int) d2 f2) (e2 : d2 + 1 ≤ dp) (hrc : ∀ b, ox_S p l e R s m args below meth c g 4 c0 t0 (ox_QM g below args s c0 t0) b (rc b)) : ox_S p l e R s m args below meth c g 4 c0 t0 (ox_QM g below args s c0 t0) 104 (bX4_goThrough_104 f1 f2 rc) := by
  refine s_iinc (pc := 104) C dX4_goThrough_104 (by decide) (by decide) ?_
  exact s_goto (pc := 107) 2 C dX4_goThrough_107 (by decide) (hrc 2)
set_option maxRecDepth 100000 in
theorem kX4_goThrough_110 (C : ox_C p s m args c g 4 cX4_goThrough RX4) (hr : meth.sig.returnType = none) (hlk : meth.locks = false) (hnm : meth.name = "goThrough") (hR : R.frames = dp ∧ R.locals = 60 * dp) (e0 : 1 ≤ dp) (h1 : ox_Sem yJ6_compare_7cf53 cJ6_compare_7cf53 2 (some .int) d1 f1) (e1 : d1 + 1 ≤ dp) (h2 : ox_Sem yX4_seedsOneMinuteOn cX4_seedsOneMinuteOn 1 (some .int) d2 f2) (e2 : d2 + 1 ≤ dp) (hrc : ∀ b, ox_S p l e R s m args below meth c g 4 c0 t0 (ox_QM g below args s c0 t0) b (rc b)) : ox_S p l e R s m args below meth c g 4 c0 t0 (ox_QM g below args s c0 t0) 110 (bX4_goThrough_110 f1 f2 rc) := by
  exact s_ret (pc := 110) C hr hlk dX4_goThrough_110
end SX4_goThrough
def bsX4_goThrough (f1 f2 : ox_F) (b : Nat) (rc : Nat → ox_K) : ox_K := if b = 0 then bX4_goThrough_0 f1 f2 rc else if b = 2 then bX4_goThrough_2 f1 f2 rc else if b = 46 then bX4_goThrough_46 f1 f2 rc else if b = 48 then bX4_goThrough_48 f1 f2 rc else if b = 104 then bX4_goThrough_104 f1 f2 rc else if b = 110 then bX4_goThrough_110 f1 f2 rc else ox_no
theorem mX4_goThrough {dp d1 d2 : Nat} {f1 f2 f : ox_F} (e0 : 1 ≤ dp) (h1 : ox_Sem yJ6_compare_7cf53 cJ6_compare_7cf53 2 (some .int) d1 f1) (e1 : d1 + 1 ≤ dp) (h2 : ox_Sem yX4_seedsOneMinuteOn cX4_seedsOneMinuteOn 1 (some .int) d2 f2) (e2 : d2 + 1 ≤ dp) (hf : ∀ as h r, f as h = some r → ox_cs as ≤ 4 ∧ ox_le h r.2 ∧ ∃ n, ox_run (bsX4_goThrough f1 f2) n 0 (lv_args 0 as) [] h = some r) : ox_Sem yX4_goThrough cX4_goThrough 4 none dp f := by
  refine ox_meth (bs := bsX4_goThrough f1 f2) (by decide) hf ?_
  intro p l e R s m args below meth c g c0 t0 C hr hlk hnm hR rc hrc b
  unfold bsX4_goThrough
  refine ox_br (kX4_goThrough_0 C hr hlk hnm hR e0 h1 e1 h2 e2 hrc) ?_
  refine ox_br (kX4_goThrough_2 C hr hlk hnm hR e0 h1 e1 h2 e2 hrc) ?_
  refine ox_br (kX4_goThrough_46 C hr hlk hnm hR e0 h1 e1 h2 e2 hrc) ?_
  refine ox_br (kX4_goThrough_48 C hr hlk hnm hR e0 h1 e1 h2 e2 hrc) ?_
  refine ox_br (kX4_goThrough_104 C hr hlk hnm hR e0 h1 e1 h2 e2 hrc) ?_
  refine ox_br (kX4_goThrough_110 C hr hlk hnm hR e0 h1 e1 h2 e2 hrc) ?_
  exact s_no
theorem dX4_state_0 : decode cX4_state 0 = .ok (.aload_n 0, 1) := by decide +kernel
theorem dX4_state_1 : decode cX4_state 1 = .ok (.getfield 13, 3) := by decide +kernel
theorem dX4_state_4 : decode cX4_state 4 = .ok (.bipush 10, 2) := by decide +kernel
theorem dX4_state_6 : decode cX4_state 6 = .ok (.if_icmp .ge 5, 3) := by decide +kernel
theorem dX4_state_9 : decode cX4_state 9 = .ok (.iconst 0, 1) := by decide +kernel
theorem dX4_state_10 : decode cX4_state 10 = .ok (.ireturn, 1) := by decide +kernel
theorem dX4_state_11 : decode cX4_state 11 = .ok (.aload_n 0, 1) := by decide +kernel
theorem dX4_state_12 : decode cX4_state 12 = .ok (.getfield 13, 3) := by decide +kernel
theorem dX4_state_15 : decode cX4_state 15 = .ok (.bipush 60, 2) := by decide +kernel
theorem dX4_state_17 : decode cX4_state 17 = .ok (.if_icmp .gt 21, 3) := by decide +kernel
theorem dX4_state_20 : decode cX4_state 20 = .ok (.aload_n 0, 1) := by decide +kernel
theorem dX4_state_21 : decode cX4_state 21 = .ok (.getfield 7, 3) := by decide +kernel
theorem dX4_state_24 : decode cX4_state 24 = .ok (.bipush 28, 2) := by decide +kernel
theorem dX4_state_26 : decode cX4_state 26 = .ok (.bipush 33, 2) := by decide +kernel
theorem dX4_state_28 : decode cX4_state 28 = .ok (.invokestatic 46, 3) := by decide +kernel
theorem dX4_state_31 : decode cX4_state 31 = .ok (.ifCond .eq 7, 3) := by decide +kernel
theorem dX4_state_34 : decode cX4_state 34 = .ok (.iconst 1, 1) := by decide +kernel
theorem dX4_state_35 : decode cX4_state 35 = .ok (.goto 4, 3) := by decide +kernel
theorem dX4_state_38 : decode cX4_state 38 = .ok (.iconst 2, 1) := by decide +kernel
theorem dX4_state_39 : decode cX4_state 39 = .ok (.ireturn, 1) := by decide +kernel
def bX4_state_0 (f1 : ox_F) (rc : Nat → ox_K) : ox_K := o_al 0 (o_geti 4 1 (o_ic (10) (o_icge (rc 11) (o_ic (0) (o_iret)))))
def bX4_state_11 (f1 : ox_F) (rc : Nat → ox_K) : ox_K := o_al 0 (o_geti 4 1 (o_ic (60) (o_icgt (rc 38) (o_al 0 (o_geti 4 0 (o_ic (28) (o_ic (33) (o_ct f1 3 (o_ifeq (rc 38) (o_ic (1) (rc 39)))))))))))
def bX4_state_38 (f1 : ox_F) (rc : Nat → ox_K) : ox_K := o_ic (2) (rc 39)
def bX4_state_39 (f1 : ox_F) (rc : Nat → ox_K) : ox_K := o_iret
section SX4_state
variable {p : Program} {l : Launch} {e : Env} {R : Room} {s : State} {m : MethodId} {args : Array Value} {below : List Frame} {meth : Method} {c : Code} {g : ox_G} {c0 t0 dp d1 : Nat} {rc : Nat → ox_K} {f1 : ox_F}
set_option maxRecDepth 100000 in
theorem kX4_state_0 (C : ox_C p s m args c g 1 cX4_state RX4) (hr : meth.sig.returnType = (some .int)) (hlk : meth.locks = false) (hnm : meth.name = "state") (hR : R.frames = dp ∧ R.locals = 60 * dp) (h1 : ox_Sem yX11_within cX11_within 3 (some .boolean) d1 f1) (e1 : d1 + 1 ≤ dp) (hrc : ∀ b, ox_S p l e R s m args below meth c g 1 c0 t0 (ox_QM g below args s c0 t0) b (rc b)) : ox_S p l e R s m args below meth c g 1 c0 t0 (ox_QM g below args s c0 t0) 0 (bX4_state_0 f1 rc) := by
  refine s_aload_n (pc := 0) C dX4_state_0 rfl ?_
  refine s_geti (pc := 1) (j := 1) (q := (RX4, TX4, 2)) C rfl (by decide) rfl wF_X4_13 dX4_state_1 ?_
  refine s_bipush (pc := 4) C dX4_state_4 (by decide) ?_
  refine s_icmpge (pc := 6) 11 C dX4_state_6 (by decide) (hrc 11) ?_
  refine s_iconst (pc := 9) C dX4_state_9 (by decide) ?_
  exact s_iret (pc := 10) C hr hlk dX4_state_10
set_option maxRecDepth 100000 in
theorem kX4_state_11 (C : ox_C p s m args c g 1 cX4_state RX4) (hr : meth.sig.returnType = (some .int)) (hlk : meth.locks = false) (hnm : meth.name = "state") (hR : R.frames = dp ∧ R.locals = 60 * dp) (h1 : ox_Sem yX11_within cX11_within 3 (some .boolean) d1 f1) (e1 : d1 + 1 ≤ dp) (hrc : ∀ b, ox_S p l e R s m args below meth c g 1 c0 t0 (ox_QM g below args s c0 t0) b (rc b)) : ox_S p l e R s m args below meth c g 1 c0 t0 (ox_QM g below args s c0 t0) 11 (bX4_state_11 f1 rc) := by
  refine s_aload_n (pc := 11) C dX4_state_11 rfl ?_
  refine s_geti (pc := 12) (j := 1) (q := (RX4, TX4, 2)) C rfl (by decide) rfl wF_X4_13 dX4_state_12 ?_
  refine s_bipush (pc := 15) C dX4_state_15 (by decide) ?_
  refine s_icmpgt (pc := 17) 38 C dX4_state_17 (by decide) (hrc 38) ?_
  refine s_aload_n (pc := 20) C dX4_state_20 rfl ?_
  refine s_geti (pc := 21) (j := 0) (q := (RX4, TX4, 2)) C rfl (by decide) rfl wF_X4_7 dX4_state_21 ?_
  refine s_bipush (pc := 24) C dX4_state_24 (by decide) ?_
  refine s_bipush (pc := 26) C dX4_state_26 (by decide) ?_
  refine s_ctN (pc := 28) C h1 (by decide +kernel) wT_X11_within wN_X11 wC_X11_within (by decide +kernel) (ox_lv hR e1 (by decide)) dX4_state_28 ?_
  refine s_ifeq (pc := 31) 38 C dX4_state_31 (by decide) (hrc 38) ?_
  refine s_iconst (pc := 34) C dX4_state_34 (by decide) ?_
  exact s_goto (pc := 35) 39 C dX4_state_35 (by decide) (hrc 39)
set_option maxRecDepth 100000 in
theorem kX4_state_38 (C : ox_C p s m args c g 1 cX4_state RX4) (hr : meth.sig.returnType = (some .int)) (hlk : meth.locks = false) (hnm : meth.name = "state") (hR : R.frames = dp ∧ R.locals = 60 * dp) (h1 : ox_Sem yX11_within cX11_within 3 (some .boolean) d1 f1) (e1 : d1 + 1 ≤ dp) (hrc : ∀ b, ox_S p l e R s m args below meth c g 1 c0 t0 (ox_QM g below args s c0 t0) b (rc b)) : ox_S p l e R s m args below meth c g 1 c0 t0 (ox_QM g below args s c0 t0) 38 (bX4_state_38 f1 rc) := by
  refine s_iconst (pc := 38) C dX4_state_38 (by decide) ?_
  exact hrc 39
set_option maxRecDepth 100000 in
theorem kX4_state_39 (C : ox_C p s m args c g 1 cX4_state RX4) (hr : meth.sig.returnType = (some .int)) (hlk : meth.locks = false) (hnm : meth.name = "state") (hR : R.frames = dp ∧ R.locals = 60 * dp) (h1 : ox_Sem yX11_within cX11_within 3 (some .boolean) d1 f1) (e1 : d1 + 1 ≤ dp) (hrc : ∀ b, ox_S p l e R s m args below meth c g 1 c0 t0 (ox_QM g below args s c0 t0) b (rc b)) : ox_S p l e R s m args below meth c g 1 c0 t0 (ox_QM g below args s c0 t0) 39 (bX4_state_39 f1 rc) := by
  exact s_iret (pc := 39) C hr hlk dX4_state_39
end SX4_state
def bsX4_state (f1 : ox_F) (b : Nat) (rc : Nat → ox_K) : ox_K := if b = 0 then bX4_state_0 f1 rc else if b = 11 then bX4_state_11 f1 rc else if b = 38 then bX4_state_38 f1 rc else if b = 39 then bX4_state_39 f1 rc else ox_no
theorem mX4_state {dp d1 : Nat} {f1 f : ox_F} (h1 : ox_Sem yX11_within cX11_within 3 (some .boolean) d1 f1) (e1 : d1 + 1 ≤ dp) (hf : ∀ as h r, f as h = some r → ox_cs as ≤ 1 ∧ ox_le h r.2 ∧ ∃ n, ox_run (bsX4_state f1) n 0 (lv_args 0 as) [] h = some r) : ox_Sem yX4_state cX4_state 1 (some .int) dp f := by
  refine ox_meth (bs := bsX4_state f1) (by decide) hf ?_
  intro p l e R s m args below meth c g c0 t0 C hr hlk hnm hR rc hrc b
  unfold bsX4_state
  refine ox_br (kX4_state_0 C hr hlk hnm hR h1 e1 hrc) ?_
  refine ox_br (kX4_state_11 C hr hlk hnm hR h1 e1 hrc) ?_
  refine ox_br (kX4_state_38 C hr hlk hnm hR h1 e1 hrc) ?_
  refine ox_br (kX4_state_39 C hr hlk hnm hR h1 e1 hrc) ?_
  exact s_no
theorem dX4_thickness_0 : decode cX4_thickness 0 = .ok (.bipush 100, 2) := by decide +kernel
theorem dX4_thickness_2 : decode cX4_thickness 2 = .ok (.iconst 3, 1) := by decide +kernel
theorem dX4_thickness_3 : decode cX4_thickness 3 = .ok (.aload_n 0, 1) := by decide +kernel
theorem dX4_thickness_4 : decode cX4_thickness 4 = .ok (.getfield 13, 3) := by decide +kernel
theorem dX4_thickness_7 : decode cX4_thickness 7 = .ok (.imul, 1) := by decide +kernel
theorem dX4_thickness_8 : decode cX4_thickness 8 = .ok (.iadd, 1) := by decide +kernel
theorem dX4_thickness_9 : decode cX4_thickness 9 = .ok (.bipush 10, 2) := by decide +kernel
theorem dX4_thickness_11 : decode cX4_thickness 11 = .ok (.iconst 0, 1) := by decide +kernel
theorem dX4_thickness_12 : decode cX4_thickness 12 = .ok (.bipush 34, 2) := by decide +kernel
theorem dX4_thickness_14 : decode cX4_thickness 14 = .ok (.aload_n 0, 1) := by decide +kernel
theorem dX4_thickness_15 : decode cX4_thickness 15 = .ok (.getfield 7, 3) := by decide +kernel
theorem dX4_thickness_18 : decode cX4_thickness 18 = .ok (.isub, 1) := by decide +kernel
theorem dX4_thickness_19 : decode cX4_thickness 19 = .ok (.invokestatic 43, 3) := by decide +kernel
theorem dX4_thickness_22 : decode cX4_thickness 22 = .ok (.imul, 1) := by decide +kernel
theorem dX4_thickness_23 : decode cX4_thickness 23 = .ok (.iadd, 1) := by decide +kernel
theorem dX4_thickness_24 : decode cX4_thickness 24 = .ok (.ireturn, 1) := by decide +kernel
def bX4_thickness_0 (rc : Nat → ox_K) : ox_K := o_ic (100) (o_ic (3) (o_al 0 (o_geti 4 1 (o_imul (o_iadd (o_ic (10) (o_ic (0) (o_ic (34) (o_al 0 (o_geti 4 0 (o_isub (o_mmax (o_imul (o_iadd (o_iret)))))))))))))))
section SX4_thickness
variable {p : Program} {l : Launch} {e : Env} {R : Room} {s : State} {m : MethodId} {args : Array Value} {below : List Frame} {meth : Method} {c : Code} {g : ox_G} {c0 t0 dp  : Nat} {rc : Nat → ox_K}
set_option maxRecDepth 100000 in
theorem kX4_thickness_0 (C : ox_C p s m args c g 1 cX4_thickness RX4) (hr : meth.sig.returnType = (some .int)) (hlk : meth.locks = false) (hnm : meth.name = "thickness") (hR : R.frames = dp ∧ R.locals = 60 * dp) (e0 : 1 ≤ dp) (hrc : ∀ b, ox_S p l e R s m args below meth c g 1 c0 t0 (ox_QM g below args s c0 t0) b (rc b)) : ox_S p l e R s m args below meth c g 1 c0 t0 (ox_QM g below args s c0 t0) 0 (bX4_thickness_0 rc) := by
  refine s_bipush (pc := 0) C dX4_thickness_0 (by decide) ?_
  refine s_iconst (pc := 2) C dX4_thickness_2 (by decide) ?_
  refine s_aload_n (pc := 3) C dX4_thickness_3 rfl ?_
  refine s_geti (pc := 4) (j := 1) (q := (RX4, TX4, 2)) C rfl (by decide) rfl wF_X4_13 dX4_thickness_4 ?_
  refine s_imul (pc := 7) C dX4_thickness_7 ?_
  refine s_iadd (pc := 8) C dX4_thickness_8 ?_
  refine s_bipush (pc := 9) C dX4_thickness_9 (by decide) ?_
  refine s_iconst (pc := 11) C dX4_thickness_11 (by decide) ?_
  refine s_bipush (pc := 12) C dX4_thickness_12 (by decide) ?_
  refine s_aload_n (pc := 14) C dX4_thickness_14 rfl ?_
  refine s_geti (pc := 15) (j := 0) (q := (RX4, TX4, 2)) C rfl (by decide) rfl wF_X4_7 dX4_thickness_15 ?_
  refine s_isub (pc := 18) C dX4_thickness_18 ?_
  refine s_mmax (pc := 19) C wM_X4_43 wT_mmax wN_J9 wC_mmax (ox_lv3 hR e0) dX4_thickness_19 ?_
  refine s_imul (pc := 22) C dX4_thickness_22 ?_
  refine s_iadd (pc := 23) C dX4_thickness_23 ?_
  exact s_iret (pc := 24) C hr hlk dX4_thickness_24
end SX4_thickness
def bsX4_thickness (b : Nat) (rc : Nat → ox_K) : ox_K := if b = 0 then bX4_thickness_0 rc else ox_no
theorem mX4_thickness {dp  : Nat} {f : ox_F} (e0 : 1 ≤ dp) (hf : ∀ as h r, f as h = some r → ox_cs as ≤ 1 ∧ ox_le h r.2 ∧ ∃ n, ox_run (bsX4_thickness) n 0 (lv_args 0 as) [] h = some r) : ox_Sem yX4_thickness cX4_thickness 1 (some .int) dp f := by
  refine ox_meth (bs := bsX4_thickness) (by decide) hf ?_
  intro p l e R s m args below meth c g c0 t0 C hr hlk hnm hR rc hrc b
  unfold bsX4_thickness
  refine ox_br (kX4_thickness_0 C hr hlk hnm hR e0 hrc) ?_
  exact s_no
theorem dX4_seedsOneMinuteOn_0 : decode cX4_seedsOneMinuteOn 0 = .ok (.aload_n 0, 1) := by decide +kernel
theorem dX4_seedsOneMinuteOn_1 : decode cX4_seedsOneMinuteOn 1 = .ok (.getfield 7, 3) := by decide +kernel
theorem dX4_seedsOneMinuteOn_4 : decode cX4_seedsOneMinuteOn 4 = .ok (.bipush 27, 2) := by decide +kernel
theorem dX4_seedsOneMinuteOn_6 : decode cX4_seedsOneMinuteOn 6 = .ok (.if_icmp .ge 21, 3) := by decide +kernel
theorem dX4_seedsOneMinuteOn_9 : decode cX4_seedsOneMinuteOn 9 = .ok (.aload_n 0, 1) := by decide +kernel
theorem dX4_seedsOneMinuteOn_10 : decode cX4_seedsOneMinuteOn 10 = .ok (.getfield 13, 3) := by decide +kernel
theorem dX4_seedsOneMinuteOn_13 : decode cX4_seedsOneMinuteOn 13 = .ok (.aload_n 0, 1) := by decide +kernel
theorem dX4_seedsOneMinuteOn_14 : decode cX4_seedsOneMinuteOn 14 = .ok (.getfield 13, 3) := by decide +kernel
theorem dX4_seedsOneMinuteOn_17 : decode cX4_seedsOneMinuteOn 17 = .ok (.bipush 20, 2) := by decide +kernel
theorem dX4_seedsOneMinuteOn_19 : decode cX4_seedsOneMinuteOn 19 = .ok (.imul, 1) := by decide +kernel
theorem dX4_seedsOneMinuteOn_20 : decode cX4_seedsOneMinuteOn 20 = .ok (.bipush 100, 2) := by decide +kernel
theorem dX4_seedsOneMinuteOn_22 : decode cX4_seedsOneMinuteOn 22 = .ok (.idiv, 1) := by decide +kernel
theorem dX4_seedsOneMinuteOn_23 : decode cX4_seedsOneMinuteOn 23 = .ok (.iadd, 1) := by decide +kernel
theorem dX4_seedsOneMinuteOn_24 : decode cX4_seedsOneMinuteOn 24 = .ok (.iconst 1, 1) := by decide +kernel
theorem dX4_seedsOneMinuteOn_25 : decode cX4_seedsOneMinuteOn 25 = .ok (.iadd, 1) := by decide +kernel
theorem dX4_seedsOneMinuteOn_26 : decode cX4_seedsOneMinuteOn 26 = .ok (.ireturn, 1) := by decide +kernel
theorem dX4_seedsOneMinuteOn_27 : decode cX4_seedsOneMinuteOn 27 = .ok (.aload_n 0, 1) := by decide +kernel
theorem dX4_seedsOneMinuteOn_28 : decode cX4_seedsOneMinuteOn 28 = .ok (.getfield 7, 3) := by decide +kernel
theorem dX4_seedsOneMinuteOn_31 : decode cX4_seedsOneMinuteOn 31 = .ok (.bipush 31, 2) := by decide +kernel
theorem dX4_seedsOneMinuteOn_33 : decode cX4_seedsOneMinuteOn 33 = .ok (.if_icmp .gt 18, 3) := by decide +kernel
theorem dX4_seedsOneMinuteOn_36 : decode cX4_seedsOneMinuteOn 36 = .ok (.aload_n 0, 1) := by decide +kernel
theorem dX4_seedsOneMinuteOn_37 : decode cX4_seedsOneMinuteOn 37 = .ok (.getfield 13, 3) := by decide +kernel
theorem dX4_seedsOneMinuteOn_40 : decode cX4_seedsOneMinuteOn 40 = .ok (.aload_n 0, 1) := by decide +kernel
theorem dX4_seedsOneMinuteOn_41 : decode cX4_seedsOneMinuteOn 41 = .ok (.getfield 13, 3) := by decide +kernel
theorem dX4_seedsOneMinuteOn_44 : decode cX4_seedsOneMinuteOn 44 = .ok (.iconst 5, 1) := by decide +kernel
theorem dX4_seedsOneMinuteOn_45 : decode cX4_seedsOneMinuteOn 45 = .ok (.imul, 1) := by decide +kernel
theorem dX4_seedsOneMinuteOn_46 : decode cX4_seedsOneMinuteOn 46 = .ok (.bipush 100, 2) := by decide +kernel
theorem dX4_seedsOneMinuteOn_48 : decode cX4_seedsOneMinuteOn 48 = .ok (.idiv, 1) := by decide +kernel
theorem dX4_seedsOneMinuteOn_49 : decode cX4_seedsOneMinuteOn 49 = .ok (.iadd, 1) := by decide +kernel
theorem dX4_seedsOneMinuteOn_50 : decode cX4_seedsOneMinuteOn 50 = .ok (.ireturn, 1) := by decide +kernel
theorem dX4_seedsOneMinuteOn_51 : decode cX4_seedsOneMinuteOn 51 = .ok (.aload_n 0, 1) := by decide +kernel
theorem dX4_seedsOneMinuteOn_52 : decode cX4_seedsOneMinuteOn 52 = .ok (.getfield 7, 3) := by decide +kernel
theorem dX4_seedsOneMinuteOn_55 : decode cX4_seedsOneMinuteOn 55 = .ok (.bipush 34, 2) := by decide +kernel
theorem dX4_seedsOneMinuteOn_57 : decode cX4_seedsOneMinuteOn 57 = .ok (.if_icmp .gt 10, 3) := by decide +kernel
theorem dX4_seedsOneMinuteOn_60 : decode cX4_seedsOneMinuteOn 60 = .ok (.aload_n 0, 1) := by decide +kernel
theorem dX4_seedsOneMinuteOn_61 : decode cX4_seedsOneMinuteOn 61 = .ok (.getfield 13, 3) := by decide +kernel
theorem dX4_seedsOneMinuteOn_64 : decode cX4_seedsOneMinuteOn 64 = .ok (.goto 20, 3) := by decide +kernel
theorem dX4_seedsOneMinuteOn_67 : decode cX4_seedsOneMinuteOn 67 = .ok (.aload_n 0, 1) := by decide +kernel
theorem dX4_seedsOneMinuteOn_68 : decode cX4_seedsOneMinuteOn 68 = .ok (.getfield 13, 3) := by decide +kernel
theorem dX4_seedsOneMinuteOn_71 : decode cX4_seedsOneMinuteOn 71 = .ok (.aload_n 0, 1) := by decide +kernel
theorem dX4_seedsOneMinuteOn_72 : decode cX4_seedsOneMinuteOn 72 = .ok (.getfield 13, 3) := by decide +kernel
theorem dX4_seedsOneMinuteOn_75 : decode cX4_seedsOneMinuteOn 75 = .ok (.bipush 30, 2) := by decide +kernel
theorem dX4_seedsOneMinuteOn_77 : decode cX4_seedsOneMinuteOn 77 = .ok (.imul, 1) := by decide +kernel
theorem dX4_seedsOneMinuteOn_78 : decode cX4_seedsOneMinuteOn 78 = .ok (.bipush 100, 2) := by decide +kernel
theorem dX4_seedsOneMinuteOn_80 : decode cX4_seedsOneMinuteOn 80 = .ok (.idiv, 1) := by decide +kernel
theorem dX4_seedsOneMinuteOn_81 : decode cX4_seedsOneMinuteOn 81 = .ok (.isub, 1) := by decide +kernel
theorem dX4_seedsOneMinuteOn_82 : decode cX4_seedsOneMinuteOn 82 = .ok (.iconst 1, 1) := by decide +kernel
theorem dX4_seedsOneMinuteOn_83 : decode cX4_seedsOneMinuteOn 83 = .ok (.isub, 1) := by decide +kernel
theorem dX4_seedsOneMinuteOn_84 : decode cX4_seedsOneMinuteOn 84 = .ok (.ireturn, 1) := by decide +kernel
def bX4_seedsOneMinuteOn_0 (rc : Nat → ox_K) : ox_K := o_al 0 (o_geti 4 0 (o_ic (27) (o_icge (rc 27) (o_al 0 (o_geti 4 1 (o_al 0 (o_geti 4 1 (o_ic (20) (o_imul (o_ic (100) (o_idiv (o_iadd (o_ic (1) (o_iadd (o_iret)))))))))))))))
def bX4_seedsOneMinuteOn_27 (rc : Nat → ox_K) : ox_K := o_al 0 (o_geti 4 0 (o_ic (31) (o_icgt (rc 51) (o_al 0 (o_geti 4 1 (o_al 0 (o_geti 4 1 (o_ic (5) (o_imul (o_ic (100) (o_idiv (o_iadd (o_iret)))))))))))))
def bX4_seedsOneMinuteOn_51 (rc : Nat → ox_K) : ox_K := o_al 0 (o_geti 4 0 (o_ic (34) (o_icgt (rc 67) (o_al 0 (o_geti 4 1 (rc 84))))))
def bX4_seedsOneMinuteOn_67 (rc : Nat → ox_K) : ox_K := o_al 0 (o_geti 4 1 (o_al 0 (o_geti 4 1 (o_ic (30) (o_imul (o_ic (100) (o_idiv (o_isub (o_ic (1) (o_isub (rc 84)))))))))))
def bX4_seedsOneMinuteOn_84 (rc : Nat → ox_K) : ox_K := o_iret
section SX4_seedsOneMinuteOn
variable {p : Program} {l : Launch} {e : Env} {R : Room} {s : State} {m : MethodId} {args : Array Value} {below : List Frame} {meth : Method} {c : Code} {g : ox_G} {c0 t0 dp  : Nat} {rc : Nat → ox_K}
set_option maxRecDepth 100000 in
theorem kX4_seedsOneMinuteOn_0 (C : ox_C p s m args c g 1 cX4_seedsOneMinuteOn RX4) (hr : meth.sig.returnType = (some .int)) (hlk : meth.locks = false) (hnm : meth.name = "seedsOneMinuteOn") (hR : R.frames = dp ∧ R.locals = 60 * dp) (hrc : ∀ b, ox_S p l e R s m args below meth c g 1 c0 t0 (ox_QM g below args s c0 t0) b (rc b)) : ox_S p l e R s m args below meth c g 1 c0 t0 (ox_QM g below args s c0 t0) 0 (bX4_seedsOneMinuteOn_0 rc) := by
  refine s_aload_n (pc := 0) C dX4_seedsOneMinuteOn_0 rfl ?_
  refine s_geti (pc := 1) (j := 0) (q := (RX4, TX4, 2)) C rfl (by decide) rfl wF_X4_7 dX4_seedsOneMinuteOn_1 ?_
  refine s_bipush (pc := 4) C dX4_seedsOneMinuteOn_4 (by decide) ?_
  refine s_icmpge (pc := 6) 27 C dX4_seedsOneMinuteOn_6 (by decide) (hrc 27) ?_
  refine s_aload_n (pc := 9) C dX4_seedsOneMinuteOn_9 rfl ?_
  refine s_geti (pc := 10) (j := 1) (q := (RX4, TX4, 2)) C rfl (by decide) rfl wF_X4_13 dX4_seedsOneMinuteOn_10 ?_
  refine s_aload_n (pc := 13) C dX4_seedsOneMinuteOn_13 rfl ?_
  refine s_geti (pc := 14) (j := 1) (q := (RX4, TX4, 2)) C rfl (by decide) rfl wF_X4_13 dX4_seedsOneMinuteOn_14 ?_
  refine s_bipush (pc := 17) C dX4_seedsOneMinuteOn_17 (by decide) ?_
  refine s_imul (pc := 19) C dX4_seedsOneMinuteOn_19 ?_
  refine s_bipush (pc := 20) C dX4_seedsOneMinuteOn_20 (by decide) ?_
  refine s_idiv (pc := 22) C dX4_seedsOneMinuteOn_22 ?_
  refine s_iadd (pc := 23) C dX4_seedsOneMinuteOn_23 ?_
  refine s_iconst (pc := 24) C dX4_seedsOneMinuteOn_24 (by decide) ?_
  refine s_iadd (pc := 25) C dX4_seedsOneMinuteOn_25 ?_
  exact s_iret (pc := 26) C hr hlk dX4_seedsOneMinuteOn_26
set_option maxRecDepth 100000 in
theorem kX4_seedsOneMinuteOn_27 (C : ox_C p s m args c g 1 cX4_seedsOneMinuteOn RX4) (hr : meth.sig.returnType = (some .int)) (hlk : meth.locks = false) (hnm : meth.name = "seedsOneMinuteOn") (hR : R.frames = dp ∧ R.locals = 60 * dp) (hrc : ∀ b, ox_S p l e R s m args below meth c g 1 c0 t0 (ox_QM g below args s c0 t0) b (rc b)) : ox_S p l e R s m args below meth c g 1 c0 t0 (ox_QM g below args s c0 t0) 27 (bX4_seedsOneMinuteOn_27 rc) := by
  refine s_aload_n (pc := 27) C dX4_seedsOneMinuteOn_27 rfl ?_
  refine s_geti (pc := 28) (j := 0) (q := (RX4, TX4, 2)) C rfl (by decide) rfl wF_X4_7 dX4_seedsOneMinuteOn_28 ?_
  refine s_bipush (pc := 31) C dX4_seedsOneMinuteOn_31 (by decide) ?_
  refine s_icmpgt (pc := 33) 51 C dX4_seedsOneMinuteOn_33 (by decide) (hrc 51) ?_
  refine s_aload_n (pc := 36) C dX4_seedsOneMinuteOn_36 rfl ?_
  refine s_geti (pc := 37) (j := 1) (q := (RX4, TX4, 2)) C rfl (by decide) rfl wF_X4_13 dX4_seedsOneMinuteOn_37 ?_
  refine s_aload_n (pc := 40) C dX4_seedsOneMinuteOn_40 rfl ?_
  refine s_geti (pc := 41) (j := 1) (q := (RX4, TX4, 2)) C rfl (by decide) rfl wF_X4_13 dX4_seedsOneMinuteOn_41 ?_
  refine s_iconst (pc := 44) C dX4_seedsOneMinuteOn_44 (by decide) ?_
  refine s_imul (pc := 45) C dX4_seedsOneMinuteOn_45 ?_
  refine s_bipush (pc := 46) C dX4_seedsOneMinuteOn_46 (by decide) ?_
  refine s_idiv (pc := 48) C dX4_seedsOneMinuteOn_48 ?_
  refine s_iadd (pc := 49) C dX4_seedsOneMinuteOn_49 ?_
  exact s_iret (pc := 50) C hr hlk dX4_seedsOneMinuteOn_50
set_option maxRecDepth 100000 in
theorem kX4_seedsOneMinuteOn_51 (C : ox_C p s m args c g 1 cX4_seedsOneMinuteOn RX4) (hr : meth.sig.returnType = (some .int)) (hlk : meth.locks = false) (hnm : meth.name = "seedsOneMinuteOn") (hR : R.frames = dp ∧ R.locals = 60 * dp) (hrc : ∀ b, ox_S p l e R s m args below meth c g 1 c0 t0 (ox_QM g below args s c0 t0) b (rc b)) : ox_S p l e R s m args below meth c g 1 c0 t0 (ox_QM g below args s c0 t0) 51 (bX4_seedsOneMinuteOn_51 rc) := by
  refine s_aload_n (pc := 51) C dX4_seedsOneMinuteOn_51 rfl ?_
  refine s_geti (pc := 52) (j := 0) (q := (RX4, TX4, 2)) C rfl (by decide) rfl wF_X4_7 dX4_seedsOneMinuteOn_52 ?_
  refine s_bipush (pc := 55) C dX4_seedsOneMinuteOn_55 (by decide) ?_
  refine s_icmpgt (pc := 57) 67 C dX4_seedsOneMinuteOn_57 (by decide) (hrc 67) ?_
  refine s_aload_n (pc := 60) C dX4_seedsOneMinuteOn_60 rfl ?_
  refine s_geti (pc := 61) (j := 1) (q := (RX4, TX4, 2)) C rfl (by decide) rfl wF_X4_13 dX4_seedsOneMinuteOn_61 ?_
  exact s_goto (pc := 64) 84 C dX4_seedsOneMinuteOn_64 (by decide) (hrc 84)
set_option maxRecDepth 100000 in
theorem kX4_seedsOneMinuteOn_67 (C : ox_C p s m args c g 1 cX4_seedsOneMinuteOn RX4) (hr : meth.sig.returnType = (some .int)) (hlk : meth.locks = false) (hnm : meth.name = "seedsOneMinuteOn") (hR : R.frames = dp ∧ R.locals = 60 * dp) (hrc : ∀ b, ox_S p l e R s m args below meth c g 1 c0 t0 (ox_QM g below args s c0 t0) b (rc b)) : ox_S p l e R s m args below meth c g 1 c0 t0 (ox_QM g below args s c0 t0) 67 (bX4_seedsOneMinuteOn_67 rc) := by
  refine s_aload_n (pc := 67) C dX4_seedsOneMinuteOn_67 rfl ?_
  refine s_geti (pc := 68) (j := 1) (q := (RX4, TX4, 2)) C rfl (by decide) rfl wF_X4_13 dX4_seedsOneMinuteOn_68 ?_
  refine s_aload_n (pc := 71) C dX4_seedsOneMinuteOn_71 rfl ?_
  refine s_geti (pc := 72) (j := 1) (q := (RX4, TX4, 2)) C rfl (by decide) rfl wF_X4_13 dX4_seedsOneMinuteOn_72 ?_
  refine s_bipush (pc := 75) C dX4_seedsOneMinuteOn_75 (by decide) ?_
  refine s_imul (pc := 77) C dX4_seedsOneMinuteOn_77 ?_
  refine s_bipush (pc := 78) C dX4_seedsOneMinuteOn_78 (by decide) ?_
  refine s_idiv (pc := 80) C dX4_seedsOneMinuteOn_80 ?_
  refine s_isub (pc := 81) C dX4_seedsOneMinuteOn_81 ?_
  refine s_iconst (pc := 82) C dX4_seedsOneMinuteOn_82 (by decide) ?_
  refine s_isub (pc := 83) C dX4_seedsOneMinuteOn_83 ?_
  exact hrc 84
set_option maxRecDepth 100000 in
theorem kX4_seedsOneMinuteOn_84 (C : ox_C p s m args c g 1 cX4_seedsOneMinuteOn RX4) (hr : meth.sig.returnType = (some .int)) (hlk : meth.locks = false) (hnm : meth.name = "seedsOneMinuteOn") (hR : R.frames = dp ∧ R.locals = 60 * dp) (hrc : ∀ b, ox_S p l e R s m args below meth c g 1 c0 t0 (ox_QM g below args s c0 t0) b (rc b)) : ox_S p l e R s m args below meth c g 1 c0 t0 (ox_QM g below args s c0 t0) 84 (bX4_seedsOneMinuteOn_84 rc) := by
  exact s_iret (pc := 84) C hr hlk dX4_seedsOneMinuteOn_84
end SX4_seedsOneMinuteOn
def bsX4_seedsOneMinuteOn (b : Nat) (rc : Nat → ox_K) : ox_K := if b = 0 then bX4_seedsOneMinuteOn_0 rc else if b = 27 then bX4_seedsOneMinuteOn_27 rc else if b = 51 then bX4_seedsOneMinuteOn_51 rc else if b = 67 then bX4_seedsOneMinuteOn_67 rc else if b = 84 then bX4_seedsOneMinuteOn_84 rc else ox_no
theorem mX4_seedsOneMinuteOn {dp  : Nat} {f : ox_F} (hf : ∀ as h r, f as h = some r → ox_cs as ≤ 1 ∧ ox_le h r.2 ∧ ∃ n, ox_run (bsX4_seedsOneMinuteOn) n 0 (lv_args 0 as) [] h = some r) : ox_Sem yX4_seedsOneMinuteOn cX4_seedsOneMinuteOn 1 (some .int) dp f := by
  refine ox_meth (bs := bsX4_seedsOneMinuteOn) (by decide) hf ?_
  intro p l e R s m args below meth c g c0 t0 C hr hlk hnm hR rc hrc b
  unfold bsX4_seedsOneMinuteOn
  refine ox_br (kX4_seedsOneMinuteOn_0 C hr hlk hnm hR hrc) ?_
  refine ox_br (kX4_seedsOneMinuteOn_27 C hr hlk hnm hR hrc) ?_
  refine ox_br (kX4_seedsOneMinuteOn_51 C hr hlk hnm hR hrc) ?_
  refine ox_br (kX4_seedsOneMinuteOn_67 C hr hlk hnm hR hrc) ?_
  refine ox_br (kX4_seedsOneMinuteOn_84 C hr hlk hnm hR hrc) ?_
  exact s_no
