theorem dX7_init_0 : decode cX7_init 0 = .ok (.aload_n 0, 1) := by decide +kernel
theorem dX7_init_1 : decode cX7_init 1 = .ok (.invokespecial 1, 3) := by decide +kernel
theorem dX7_init_4 : decode cX7_init 4 = .ok (.aload_n 0, 1) := by decide +kernel
theorem dX7_init_5 : decode cX7_init 5 = .ok (.bipush 7, 2) := by decide +kernel
theorem dX7_init_7 : decode cX7_init 7 = .ok (.newarray .int, 2) := by decide +kernel
theorem dX7_init_9 : decode cX7_init 9 = .ok (.putfield 9, 3) := by decide +kernel
theorem dX7_init_12 : decode cX7_init 12 = .ok (.aload_n 0, 1) := by decide +kernel
theorem dX7_init_13 : decode cX7_init 13 = .ok (.bipush 7, 2) := by decide +kernel
theorem dX7_init_15 : decode cX7_init 15 = .ok (.newarray .int, 2) := by decide +kernel
theorem dX7_init_17 : decode cX7_init 17 = .ok (.putfield 13, 3) := by decide +kernel
theorem dX7_init_20 : decode cX7_init 20 = .ok (.aload_n 0, 1) := by decide +kernel
theorem dX7_init_21 : decode cX7_init 21 = .ok (.bipush 7, 2) := by decide +kernel
theorem dX7_init_23 : decode cX7_init 23 = .ok (.newarray .int, 2) := by decide +kernel
theorem dX7_init_25 : decode cX7_init 25 = .ok (.putfield 16, 3) := by decide +kernel
theorem dX7_init_28 : decode cX7_init 28 = .ok (.aload_n 0, 1) := by decide +kernel
theorem dX7_init_29 : decode cX7_init 29 = .ok (.bipush 7, 2) := by decide +kernel
theorem dX7_init_31 : decode cX7_init 31 = .ok (.newarray .int, 2) := by decide +kernel
theorem dX7_init_33 : decode cX7_init 33 = .ok (.putfield 19, 3) := by decide +kernel
theorem dX7_init_36 : decode cX7_init 36 = .ok (.aload_n 0, 1) := by decide +kernel
theorem dX7_init_37 : decode cX7_init 37 = .ok (.bipush 7, 2) := by decide +kernel
theorem dX7_init_39 : decode cX7_init 39 = .ok (.newarray .int, 2) := by decide +kernel
theorem dX7_init_41 : decode cX7_init 41 = .ok (.putfield 22, 3) := by decide +kernel
theorem dX7_init_44 : decode cX7_init 44 = .ok (.return_, 1) := by decide +kernel
def bX7_init_0 (rc : Nat → ox_K) : ox_K := o_al 0 (o_obj (o_al 0 (o_ic (7) (o_newa 1 (o_putr 7 0 (o_al 0 (o_ic (7) (o_newa 1 (o_putr 7 1 (o_al 0 (o_ic (7) (o_newa 1 (o_putr 7 2 (o_al 0 (o_ic (7) (o_newa 1 (o_putr 7 3 (o_al 0 (o_ic (7) (o_newa 1 (o_putr 7 5 (o_ret))))))))))))))))))))))
section SX7_init
variable {p : Program} {l : Launch} {e : Env} {R : Room} {s : State} {m : MethodId} {args : Array Value} {below : List Frame} {meth : Method} {c : Code} {g : ox_G} {c0 t0 dp  : Nat} {rc : Nat → ox_K}
set_option maxRecDepth 100000 in
theorem kX7_init_0 (C : ox_C p s m args c g 1 cX7_init RX7) (hr : meth.sig.returnType = none) (hlk : meth.locks = false) (hnm : meth.name = "<init>") (hR : R.frames = dp ∧ R.locals = 60 * dp) (e0 : 1 ≤ dp) (hrc : ∀ b, ox_S p l e R s m args below meth c g 1 c0 t0 (ox_QM g below args s c0 t0) b (rc b)) : ox_S p l e R s m args below meth c g 1 c0 t0 (ox_QM g below args s c0 t0) 0 (bX7_init_0 rc) := by
  refine s_aload_n (pc := 0) C dX7_init_0 rfl ?_
  refine s_obj (pc := 1) C wM_X7_1 wO1 wO2 (ox_lv1 hR e0) dX7_init_1 ?_
  refine s_aload_n (pc := 4) C dX7_init_4 rfl ?_
  refine s_bipush (pc := 5) C dX7_init_5 (by decide) ?_
  refine s_newa (pc := 7) (ty := .int) C rfl (Or.inl ⟨rfl, rfl⟩) wA_int dX7_init_7 ?_
  refine s_putr (pc := 9) (j := 0) (q := (RX7, TX7, 7)) C rfl (by decide) rfl (Or.inr ⟨rfl, hnm, rfl⟩) wF_X7_9 dX7_init_9 ?_
  refine s_aload_n (pc := 12) C dX7_init_12 rfl ?_
  refine s_bipush (pc := 13) C dX7_init_13 (by decide) ?_
  refine s_newa (pc := 15) (ty := .int) C rfl (Or.inl ⟨rfl, rfl⟩) wA_int dX7_init_15 ?_
  refine s_putr (pc := 17) (j := 1) (q := (RX7, TX7, 7)) C rfl (by decide) rfl (Or.inr ⟨rfl, hnm, rfl⟩) wF_X7_13 dX7_init_17 ?_
  refine s_aload_n (pc := 20) C dX7_init_20 rfl ?_
  refine s_bipush (pc := 21) C dX7_init_21 (by decide) ?_
  refine s_newa (pc := 23) (ty := .int) C rfl (Or.inl ⟨rfl, rfl⟩) wA_int dX7_init_23 ?_
  refine s_putr (pc := 25) (j := 2) (q := (RX7, TX7, 7)) C rfl (by decide) rfl (Or.inr ⟨rfl, hnm, rfl⟩) wF_X7_16 dX7_init_25 ?_
  refine s_aload_n (pc := 28) C dX7_init_28 rfl ?_
  refine s_bipush (pc := 29) C dX7_init_29 (by decide) ?_
  refine s_newa (pc := 31) (ty := .int) C rfl (Or.inl ⟨rfl, rfl⟩) wA_int dX7_init_31 ?_
  refine s_putr (pc := 33) (j := 3) (q := (RX7, TX7, 7)) C rfl (by decide) rfl (Or.inr ⟨rfl, hnm, rfl⟩) wF_X7_19 dX7_init_33 ?_
  refine s_aload_n (pc := 36) C dX7_init_36 rfl ?_
  refine s_bipush (pc := 37) C dX7_init_37 (by decide) ?_
  refine s_newa (pc := 39) (ty := .int) C rfl (Or.inl ⟨rfl, rfl⟩) wA_int dX7_init_39 ?_
  refine s_putr (pc := 41) (j := 5) (q := (RX7, TX7, 7)) C rfl (by decide) rfl (Or.inr ⟨rfl, hnm, rfl⟩) wF_X7_22 dX7_init_41 ?_
  exact s_ret (pc := 44) C hr hlk dX7_init_44
end SX7_init
def bsX7_init (b : Nat) (rc : Nat → ox_K) : ox_K := if b = 0 then bX7_init_0 rc else ox_no
theorem mX7_init {dp  : Nat} {f : ox_F} (e0 : 1 ≤ dp) (hf : ∀ as h r, f as h = some r → ox_cs as ≤ 1 ∧ ox_le h r.2 ∧ ∃ n, ox_run (bsX7_init) n 0 (lv_args 0 as) [] h = some r) : ox_Sem yX7_init cX7_init 1 none dp f := by
  refine ox_meth (bs := bsX7_init) (by decide) hf ?_
  intro p l e R s m args below meth c g c0 t0 C hr hlk hnm hR rc hrc b
  unfold bsX7_init
  refine ox_br (kX7_init_0 C hr hlk hnm hR e0 hrc) ?_
  exact s_no
theorem dX7_findBest_0 : decode cX7_findBest 0 = .ok (.aload_n 0, 1) := by decide +kernel
theorem dX7_findBest_1 : decode cX7_findBest 1 = .ok (.iload_n 1, 1) := by decide +kernel
theorem dX7_findBest_2 : decode cX7_findBest 2 = .ok (.putfield 25, 3) := by decide +kernel
theorem dX7_findBest_5 : decode cX7_findBest 5 = .ok (.aload_n 0, 1) := by decide +kernel
theorem dX7_findBest_6 : decode cX7_findBest 6 = .ok (.ldc 29, 2) := by decide +kernel
theorem dX7_findBest_8 : decode cX7_findBest 8 = .ok (.putfield 30, 3) := by decide +kernel
theorem dX7_findBest_11 : decode cX7_findBest 11 = .ok (.aload_n 0, 1) := by decide +kernel
theorem dX7_findBest_12 : decode cX7_findBest 12 = .ok (.iconst 0, 1) := by decide +kernel
theorem dX7_findBest_13 : decode cX7_findBest 13 = .ok (.iconst 0, 1) := by decide +kernel
theorem dX7_findBest_14 : decode cX7_findBest 14 = .ok (.iconst 0, 1) := by decide +kernel
theorem dX7_findBest_15 : decode cX7_findBest 15 = .ok (.iconst 0, 1) := by decide +kernel
theorem dX7_findBest_16 : decode cX7_findBest 16 = .ok (.invokestatic 33, 3) := by decide +kernel
theorem dX7_findBest_19 : decode cX7_findBest 19 = .ok (.return_, 1) := by decide +kernel
def bX7_findBest_0 (f1 : ox_F) (rc : Nat → ox_K) : ox_K := o_al 0 (o_il 1 (o_puti 7 6 (o_al 0 (o_ic (1000000) (o_puti 7 4 (o_al 0 (o_ic (0) (o_ic (0) (o_ic (0) (o_ic (0) (o_ct f1 5 (o_ret))))))))))))
section SX7_findBest
variable {p : Program} {l : Launch} {e : Env} {R : Room} {s : State} {m : MethodId} {args : Array Value} {below : List Frame} {meth : Method} {c : Code} {g : ox_G} {c0 t0 dp d1 : Nat} {rc : Nat → ox_K} {f1 : ox_F}
set_option maxRecDepth 100000 in
theorem kX7_findBest_0 (C : ox_C p s m args c g 2 cX7_findBest RX7) (hr : meth.sig.returnType = none) (hlk : meth.locks = false) (hnm : meth.name = "findBest") (hR : R.frames = dp ∧ R.locals = 60 * dp) (h1 : ox_Sem yX7_extend cX7_extend 9 none d1 f1) (e1 : d1 + 1 ≤ dp) (hrc : ∀ b, ox_S p l e R s m args below meth c g 2 c0 t0 (ox_QM g below args s c0 t0) b (rc b)) : ox_S p l e R s m args below meth c g 2 c0 t0 (ox_QM g below args s c0 t0) 0 (bX7_findBest_0 f1 rc) := by
  refine s_aload_n (pc := 0) C dX7_findBest_0 rfl ?_
  refine s_iload_n (pc := 1) C dX7_findBest_1 rfl ?_
  refine s_puti (pc := 2) (j := 6) (q := (RX7, TX7, 7)) C rfl (by decide) rfl (Or.inl rfl) wF_X7_25 dX7_findBest_2 ?_
  refine s_aload_n (pc := 5) C dX7_findBest_5 rfl ?_
  refine s_ldc (pc := 6) C wK_X7_29 dX7_findBest_6 ?_
  refine s_puti (pc := 8) (j := 4) (q := (RX7, TX7, 7)) C rfl (by decide) rfl (Or.inl rfl) wF_X7_30 dX7_findBest_8 ?_
  refine s_aload_n (pc := 11) C dX7_findBest_11 rfl ?_
  refine s_iconst (pc := 12) C dX7_findBest_12 (by decide) ?_
  refine s_iconst (pc := 13) C dX7_findBest_13 (by decide) ?_
  refine s_iconst (pc := 14) C dX7_findBest_14 (by decide) ?_
  refine s_iconst (pc := 15) C dX7_findBest_15 (by decide) ?_
  refine s_ct (pc := 16) C h1 wM_X7_33 wT_X7_extend wN_X7 wC_X7_extend (by decide +kernel) (ox_lv hR e1 (by decide)) dX7_findBest_16 ?_
  exact s_ret (pc := 19) C hr hlk dX7_findBest_19
end SX7_findBest
def bsX7_findBest (f1 : ox_F) (b : Nat) (rc : Nat → ox_K) : ox_K := if b = 0 then bX7_findBest_0 f1 rc else ox_no
theorem mX7_findBest {dp d1 : Nat} {f1 f : ox_F} (h1 : ox_Sem yX7_extend cX7_extend 9 none d1 f1) (e1 : d1 + 1 ≤ dp) (hf : ∀ as h r, f as h = some r → ox_cs as ≤ 2 ∧ ox_le h r.2 ∧ ∃ n, ox_run (bsX7_findBest f1) n 0 (lv_args 0 as) [] h = some r) : ox_Sem yX7_findBest cX7_findBest 2 none dp f := by
  refine ox_meth (bs := bsX7_findBest f1) (by decide) hf ?_
  intro p l e R s m args below meth c g c0 t0 C hr hlk hnm hR rc hrc b
  unfold bsX7_findBest
  refine ox_br (kX7_findBest_0 C hr hlk hnm hR h1 e1 hrc) ?_
  exact s_no
theorem dX7_extend_0 : decode cX7_extend 0 = .ok (.iload_n 1, 1) := by decide +kernel
theorem dX7_extend_1 : decode cX7_extend 1 = .ok (.aload_n 0, 1) := by decide +kernel
theorem dX7_extend_2 : decode cX7_extend 2 = .ok (.getfield 25, 3) := by decide +kernel
theorem dX7_extend_5 : decode cX7_extend 5 = .ok (.if_icmp .ge 9, 3) := by decide +kernel
theorem dX7_extend_8 : decode cX7_extend 8 = .ok (.iload_n 1, 1) := by decide +kernel
theorem dX7_extend_9 : decode cX7_extend 9 = .ok (.bipush 7, 2) := by decide +kernel
theorem dX7_extend_11 : decode cX7_extend 11 = .ok (.if_icmp .lt 10, 3) := by decide +kernel
theorem dX7_extend_14 : decode cX7_extend 14 = .ok (.aload_n 0, 1) := by decide +kernel
theorem dX7_extend_15 : decode cX7_extend 15 = .ok (.iload 4, 2) := by decide +kernel
theorem dX7_extend_17 : decode cX7_extend 17 = .ok (.invokevirtual 37, 3) := by decide +kernel
theorem dX7_extend_20 : decode cX7_extend 20 = .ok (.return_, 1) := by decide +kernel
theorem dX7_extend_21 : decode cX7_extend 21 = .ok (.iconst 0, 1) := by decide +kernel
theorem dX7_extend_22 : decode cX7_extend 22 = .ok (.istore 5, 2) := by decide +kernel
theorem dX7_extend_24 : decode cX7_extend 24 = .ok (.iload 5, 2) := by decide +kernel
theorem dX7_extend_26 : decode cX7_extend 26 = .ok (.aload_n 0, 1) := by decide +kernel
theorem dX7_extend_27 : decode cX7_extend 27 = .ok (.getfield 25, 3) := by decide +kernel
theorem dX7_extend_30 : decode cX7_extend 30 = .ok (.if_icmp .ge 144, 3) := by decide +kernel
theorem dX7_extend_33 : decode cX7_extend 33 = .ok (.iload_n 2, 1) := by decide +kernel
theorem dX7_extend_34 : decode cX7_extend 34 = .ok (.iconst 1, 1) := by decide +kernel
theorem dX7_extend_35 : decode cX7_extend 35 = .ok (.iload 5, 2) := by decide +kernel
theorem dX7_extend_37 : decode cX7_extend 37 = .ok (.ishl, 1) := by decide +kernel
theorem dX7_extend_38 : decode cX7_extend 38 = .ok (.iand, 1) := by decide +kernel
theorem dX7_extend_39 : decode cX7_extend 39 = .ok (.ifCond .eq 6, 3) := by decide +kernel
theorem dX7_extend_42 : decode cX7_extend 42 = .ok (.goto 126, 3) := by decide +kernel
theorem dX7_extend_45 : decode cX7_extend 45 = .ok (.iload_n 1, 1) := by decide +kernel
theorem dX7_extend_46 : decode cX7_extend 46 = .ok (.ifCond .le 33, 3) := by decide +kernel
theorem dX7_extend_49 : decode cX7_extend 49 = .ok (.aload_n 0, 1) := by decide +kernel
theorem dX7_extend_50 : decode cX7_extend 50 = .ok (.getfield 9, 3) := by decide +kernel
theorem dX7_extend_53 : decode cX7_extend 53 = .ok (.aload_n 0, 1) := by decide +kernel
theorem dX7_extend_54 : decode cX7_extend 54 = .ok (.getfield 22, 3) := by decide +kernel
theorem dX7_extend_57 : decode cX7_extend 57 = .ok (.iload_n 1, 1) := by decide +kernel
theorem dX7_extend_58 : decode cX7_extend 58 = .ok (.iconst 1, 1) := by decide +kernel
theorem dX7_extend_59 : decode cX7_extend 59 = .ok (.isub, 1) := by decide +kernel
theorem dX7_extend_60 : decode cX7_extend 60 = .ok (.iaload, 1) := by decide +kernel
theorem dX7_extend_61 : decode cX7_extend 61 = .ok (.iaload, 1) := by decide +kernel
theorem dX7_extend_62 : decode cX7_extend 62 = .ok (.aload_n 0, 1) := by decide +kernel
theorem dX7_extend_63 : decode cX7_extend 63 = .ok (.getfield 9, 3) := by decide +kernel
theorem dX7_extend_66 : decode cX7_extend 66 = .ok (.iload 5, 2) := by decide +kernel
theorem dX7_extend_68 : decode cX7_extend 68 = .ok (.iaload, 1) := by decide +kernel
theorem dX7_extend_69 : decode cX7_extend 69 = .ok (.iconst (-1), 1) := by decide +kernel
theorem dX7_extend_70 : decode cX7_extend 70 = .ok (.ixor, 1) := by decide +kernel
theorem dX7_extend_71 : decode cX7_extend 71 = .ok (.iand, 1) := by decide +kernel
theorem dX7_extend_72 : decode cX7_extend 72 = .ok (.ifCond .eq 7, 3) := by decide +kernel
theorem dX7_extend_75 : decode cX7_extend 75 = .ok (.iconst 1, 1) := by decide +kernel
theorem dX7_extend_76 : decode cX7_extend 76 = .ok (.goto 4, 3) := by decide +kernel
theorem dX7_extend_79 : decode cX7_extend 79 = .ok (.iconst 0, 1) := by decide +kernel
theorem dX7_extend_80 : decode cX7_extend 80 = .ok (.istore 6, 2) := by decide +kernel
theorem dX7_extend_82 : decode cX7_extend 82 = .ok (.iload_n 3, 1) := by decide +kernel
theorem dX7_extend_83 : decode cX7_extend 83 = .ok (.aload_n 0, 1) := by decide +kernel
theorem dX7_extend_84 : decode cX7_extend 84 = .ok (.getfield 13, 3) := by decide +kernel
theorem dX7_extend_87 : decode cX7_extend 87 = .ok (.iload 5, 2) := by decide +kernel
theorem dX7_extend_89 : decode cX7_extend 89 = .ok (.iaload, 1) := by decide +kernel
theorem dX7_extend_90 : decode cX7_extend 90 = .ok (.iadd, 1) := by decide +kernel
theorem dX7_extend_91 : decode cX7_extend 91 = .ok (.iload 6, 2) := by decide +kernel
theorem dX7_extend_93 : decode cX7_extend 93 = .ok (.ifCond .eq 7, 3) := by decide +kernel
theorem dX7_extend_96 : decode cX7_extend 96 = .ok (.iconst 3, 1) := by decide +kernel
theorem dX7_extend_97 : decode cX7_extend 97 = .ok (.goto 4, 3) := by decide +kernel
theorem dX7_extend_100 : decode cX7_extend 100 = .ok (.iconst 0, 1) := by decide +kernel
theorem dX7_extend_101 : decode cX7_extend 101 = .ok (.iadd, 1) := by decide +kernel
theorem dX7_extend_102 : decode cX7_extend 102 = .ok (.istore 7, 2) := by decide +kernel
theorem dX7_extend_104 : decode cX7_extend 104 = .ok (.iload 4, 2) := by decide +kernel
theorem dX7_extend_106 : decode cX7_extend 106 = .ok (.iconst 0, 1) := by decide +kernel
theorem dX7_extend_107 : decode cX7_extend 107 = .ok (.iload 7, 2) := by decide +kernel
theorem dX7_extend_109 : decode cX7_extend 109 = .ok (.aload_n 0, 1) := by decide +kernel
theorem dX7_extend_110 : decode cX7_extend 110 = .ok (.getfield 16, 3) := by decide +kernel
theorem dX7_extend_113 : decode cX7_extend 113 = .ok (.iload 5, 2) := by decide +kernel
theorem dX7_extend_115 : decode cX7_extend 115 = .ok (.iaload, 1) := by decide +kernel
theorem dX7_extend_116 : decode cX7_extend 116 = .ok (.isub, 1) := by decide +kernel
theorem dX7_extend_117 : decode cX7_extend 117 = .ok (.invokestatic 41, 3) := by decide +kernel
theorem dX7_extend_120 : decode cX7_extend 120 = .ok (.iadd, 1) := by decide +kernel
theorem dX7_extend_121 : decode cX7_extend 121 = .ok (.iload 6, 2) := by decide +kernel
theorem dX7_extend_123 : decode cX7_extend 123 = .ok (.ifCond .eq 7, 3) := by decide +kernel
theorem dX7_extend_126 : decode cX7_extend 126 = .ok (.iconst 5, 1) := by decide +kernel
theorem dX7_extend_127 : decode cX7_extend 127 = .ok (.goto 4, 3) := by decide +kernel
theorem dX7_extend_130 : decode cX7_extend 130 = .ok (.iconst 0, 1) := by decide +kernel
theorem dX7_extend_131 : decode cX7_extend 131 = .ok (.iadd, 1) := by decide +kernel
theorem dX7_extend_132 : decode cX7_extend 132 = .ok (.istore 8, 2) := by decide +kernel
theorem dX7_extend_134 : decode cX7_extend 134 = .ok (.iload 8, 2) := by decide +kernel
theorem dX7_extend_136 : decode cX7_extend 136 = .ok (.aload_n 0, 1) := by decide +kernel
theorem dX7_extend_137 : decode cX7_extend 137 = .ok (.getfield 30, 3) := by decide +kernel
theorem dX7_extend_140 : decode cX7_extend 140 = .ok (.if_icmp .ge 28, 3) := by decide +kernel
theorem dX7_extend_143 : decode cX7_extend 143 = .ok (.aload_n 0, 1) := by decide +kernel
theorem dX7_extend_144 : decode cX7_extend 144 = .ok (.getfield 22, 3) := by decide +kernel
theorem dX7_extend_147 : decode cX7_extend 147 = .ok (.iload_n 1, 1) := by decide +kernel
theorem dX7_extend_148 : decode cX7_extend 148 = .ok (.iload 5, 2) := by decide +kernel
theorem dX7_extend_150 : decode cX7_extend 150 = .ok (.iastore, 1) := by decide +kernel
theorem dX7_extend_151 : decode cX7_extend 151 = .ok (.aload_n 0, 1) := by decide +kernel
theorem dX7_extend_152 : decode cX7_extend 152 = .ok (.iload_n 1, 1) := by decide +kernel
theorem dX7_extend_153 : decode cX7_extend 153 = .ok (.iconst 1, 1) := by decide +kernel
theorem dX7_extend_154 : decode cX7_extend 154 = .ok (.iadd, 1) := by decide +kernel
theorem dX7_extend_155 : decode cX7_extend 155 = .ok (.iload_n 2, 1) := by decide +kernel
theorem dX7_extend_156 : decode cX7_extend 156 = .ok (.iconst 1, 1) := by decide +kernel
theorem dX7_extend_157 : decode cX7_extend 157 = .ok (.iload 5, 2) := by decide +kernel
theorem dX7_extend_159 : decode cX7_extend 159 = .ok (.ishl, 1) := by decide +kernel
theorem dX7_extend_160 : decode cX7_extend 160 = .ok (.ior, 1) := by decide +kernel
theorem dX7_extend_161 : decode cX7_extend 161 = .ok (.iload 7, 2) := by decide +kernel
theorem dX7_extend_163 : decode cX7_extend 163 = .ok (.iload 8, 2) := by decide +kernel
theorem dX7_extend_165 : decode cX7_extend 165 = .ok (.invokestatic 33, 3) := by decide +kernel
theorem dX7_extend_168 : decode cX7_extend 168 = .ok (.iinc 5 1, 3) := by decide +kernel
theorem dX7_extend_171 : decode cX7_extend 171 = .ok (.goto (-147), 3) := by decide +kernel
theorem dX7_extend_174 : decode cX7_extend 174 = .ok (.return_, 1) := by decide +kernel
def bX7_extend_0 (f1 f2 : ox_F) (rc : Nat → ox_K) : ox_K := o_il 1 (o_al 0 (o_geti 7 6 (o_icge (rc 14) (o_il 1 (o_ic (7) (o_iclt (rc 21) (rc 14)))))))
def bX7_extend_14 (f1 f2 : ox_F) (rc : Nat → ox_K) : ox_K := o_al 0 (o_il 4 (o_cv f1 7 1 (o_ret)))
def bX7_extend_21 (f1 f2 : ox_F) (rc : Nat → ox_K) : ox_K := o_ic (0) (o_is 5 (rc 24))
def bX7_extend_24 (f1 f2 : ox_F) (rc : Nat → ox_K) : ox_K := o_keep [0, 1, 2, 3, 4, 5] (o_il 5 (o_al 0 (o_geti 7 6 (o_icge (rc 174) (o_il 2 (o_ic (1) (o_il 5 (o_ishl (o_iand (o_ifeq (rc 45) (rc 168)))))))))))
def bX7_extend_45 (f1 f2 : ox_F) (rc : Nat → ox_K) : ox_K := o_il 1 (o_ifle (rc 79) (o_al 0 (o_getr 7 0 (o_al 0 (o_getr 7 5 (o_il 1 (o_ic (1) (o_isub (o_ia (o_ia (o_al 0 (o_getr 7 0 (o_il 5 (o_ia (o_ic (-1) (o_ixor (o_iand (o_ifeq (rc 79) (o_ic (1) (rc 80))))))))))))))))))))
def bX7_extend_79 (f1 f2 : ox_F) (rc : Nat → ox_K) : ox_K := o_ic (0) (rc 80)
def bX7_extend_80 (f1 f2 : ox_F) (rc : Nat → ox_K) : ox_K := o_is 6 (o_il 3 (o_al 0 (o_getr 7 1 (o_il 5 (o_ia (o_iadd (o_il 6 (o_ifeq (rc 100) (o_ic (3) (rc 101))))))))))
def bX7_extend_100 (f1 f2 : ox_F) (rc : Nat → ox_K) : ox_K := o_ic (0) (rc 101)
def bX7_extend_101 (f1 f2 : ox_F) (rc : Nat → ox_K) : ox_K := o_iadd (o_is 7 (o_il 4 (o_ic (0) (o_il 7 (o_al 0 (o_getr 7 2 (o_il 5 (o_ia (o_isub (o_mmax (o_iadd (o_il 6 (o_ifeq (rc 130) (o_ic (5) (rc 131)))))))))))))))
def bX7_extend_130 (f1 f2 : ox_F) (rc : Nat → ox_K) : ox_K := o_ic (0) (rc 131)
def bX7_extend_131 (f1 f2 : ox_F) (rc : Nat → ox_K) : ox_K := o_iadd (o_is 8 (o_il 8 (o_al 0 (o_geti 7 4 (o_icge (rc 168) (o_al 0 (o_getr 7 5 (o_il 1 (o_il 5 (o_iast (o_al 0 (o_il 1 (o_ic (1) (o_iadd (o_il 2 (o_ic (1) (o_il 5 (o_ishl (o_ior (o_il 7 (o_il 8 (o_ct f2 5 (rc 168)))))))))))))))))))))))
def bX7_extend_168 (f1 f2 : ox_F) (rc : Nat → ox_K) : ox_K := o_inc 5 (1) (rc 24)
def bX7_extend_174 (f1 f2 : ox_F) (rc : Nat → ox_K) : ox_K := o_ret
section SX7_extend
variable {p : Program} {l : Launch} {e : Env} {R : Room} {s : State} {m : MethodId} {args : Array Value} {below : List Frame} {meth : Method} {c : Code} {g : ox_G} {c0 t0 dp d1 d2 : Nat} {rc : Nat → ox_K} {f1 f2 : ox_F}
set_option maxRecDepth 100000 in
theorem kX7_extend_0 (C : ox_C p s m args c g 9 cX7_extend RX7) (hr : meth.sig.returnType = none) (hlk : meth.locks = false) (hnm : meth.name = "extend") (hR : R.frames = dp ∧ R.locals = 60 * dp) (e0 : 1 ≤ dp) (h1 : ox_Sem yX7_keepRow cX7_keepRow 3 none d1 f1) (e1 : d1 + 1 ≤ dp) (h2 : ox_Sem yX7_extend cX7_extend 9 none d2 f2) (e2 : d2 + 1 ≤ dp) (hrc : ∀ b, ox_S p l e R s m args below meth c g 9 c0 t0 (ox_QM g below args s c0 t0) b (rc b)) : ox_S p l e R s m args below meth c g 9 c0 t0 (ox_QM g below args s c0 t0) 0 (bX7_extend_0 f1 f2 rc) := by
  refine s_iload_n (pc := 0) C dX7_extend_0 rfl ?_
  refine s_aload_n (pc := 1) C dX7_extend_1 rfl ?_
  refine s_geti (pc := 2) (j := 6) (q := (RX7, TX7, 7)) C rfl (by decide) rfl wF_X7_25 dX7_extend_2 ?_
  refine s_icmpge (pc := 5) 14 C dX7_extend_5 (by decide) (hrc 14) ?_
  refine s_iload_n (pc := 8) C dX7_extend_8 rfl ?_
  refine s_bipush (pc := 9) C dX7_extend_9 (by decide) ?_
  refine s_icmplt (pc := 11) 21 C dX7_extend_11 (by decide) (hrc 21) ?_
  exact hrc 14
set_option maxRecDepth 100000 in
theorem kX7_extend_14 (C : ox_C p s m args c g 9 cX7_extend RX7) (hr : meth.sig.returnType = none) (hlk : meth.locks = false) (hnm : meth.name = "extend") (hR : R.frames = dp ∧ R.locals = 60 * dp) (e0 : 1 ≤ dp) (h1 : ox_Sem yX7_keepRow cX7_keepRow 3 none d1 f1) (e1 : d1 + 1 ≤ dp) (h2 : ox_Sem yX7_extend cX7_extend 9 none d2 f2) (e2 : d2 + 1 ≤ dp) (hrc : ∀ b, ox_S p l e R s m args below meth c g 9 c0 t0 (ox_QM g below args s c0 t0) b (rc b)) : ox_S p l e R s m args below meth c g 9 c0 t0 (ox_QM g below args s c0 t0) 14 (bX7_extend_14 f1 f2 rc) := by
  refine s_aload_n (pc := 14) C dX7_extend_14 rfl ?_
  refine s_iload (pc := 15) C dX7_extend_15 ?_
  refine s_cv (pc := 17) (q := (RX7, TX7, 7)) C h1 rfl wM_X7_37 wI_X7_keepRow wS_X7_keepRow wN_X7 wC_X7_keepRow (by decide +kernel) (ox_lv hR e1 (by decide)) dX7_extend_17 ?_
  exact s_ret (pc := 20) C hr hlk dX7_extend_20
set_option maxRecDepth 100000 in
theorem kX7_extend_21 (C : ox_C p s m args c g 9 cX7_extend RX7) (hr : meth.sig.returnType = none) (hlk : meth.locks = false) (hnm : meth.name = "extend") (hR : R.frames = dp ∧ R.locals = 60 * dp) (e0 : 1 ≤ dp) (h1 : ox_Sem yX7_keepRow cX7_keepRow 3 none d1 f1) (e1 : d1 + 1 ≤ dp) (h2 : ox_Sem yX7_extend cX7_extend 9 none d2 f2) (e2 : d2 + 1 ≤ dp) (hrc : ∀ b, ox_S p l e R s m args below meth c g 9 c0 t0 (ox_QM g below args s c0 t0) b (rc b)) : ox_S p l e R s m args below meth c g 9 c0 t0 (ox_QM g below args s c0 t0) 21 (bX7_extend_21 f1 f2 rc) := by
  refine s_iconst (pc := 21) C dX7_extend_21 (by decide) ?_
  refine s_istore (pc := 22) C dX7_extend_22 (by decide) ?_
  exact hrc 24
set_option maxRecDepth 100000 in
theorem kX7_extend_24 (C : ox_C p s m args c g 9 cX7_extend RX7) (hr : meth.sig.returnType = none) (hlk : meth.locks = false) (hnm : meth.name = "extend") (hR : R.frames = dp ∧ R.locals = 60 * dp) (e0 : 1 ≤ dp) (h1 : ox_Sem yX7_keepRow cX7_keepRow 3 none d1 f1) (e1 : d1 + 1 ≤ dp) (h2 : ox_Sem yX7_extend cX7_extend 9 none d2 f2) (e2 : d2 + 1 ≤ dp) (hrc : ∀ b, ox_S p l e R s m args below meth c g 9 c0 t0 (ox_QM g below args s c0 t0) b (rc b)) : ox_S p l e R s m args below meth c g 9 c0 t0 (ox_QM g below args s c0 t0) 24 (bX7_extend_24 f1 f2 rc) := by
  refine s_keep ?_
  refine s_iload (pc := 24) C dX7_extend_24 ?_
  refine s_aload_n (pc := 26) C dX7_extend_26 rfl ?_
  refine s_geti (pc := 27) (j := 6) (q := (RX7, TX7, 7)) C rfl (by decide) rfl wF_X7_25 dX7_extend_27 ?_
  refine s_icmpge (pc := 30) 174 C dX7_extend_30 (by decide) (hrc 174) ?_
  refine s_iload_n (pc := 33) C dX7_extend_33 rfl ?_
  refine s_iconst (pc := 34) C dX7_extend_34 (by decide) ?_
  refine s_iload (pc := 35) C dX7_extend_35 ?_
  refine s_ishl (pc := 37) C dX7_extend_37 ?_
  refine s_iand (pc := 38) C dX7_extend_38 ?_
  refine s_ifeq (pc := 39) 45 C dX7_extend_39 (by decide) (hrc 45) ?_
  exact s_goto (pc := 42) 168 C dX7_extend_42 (by decide) (hrc 168)
set_option maxRecDepth 100000 in
theorem kX7_extend_45 (C : ox_C p s m args c g 9 cX7_extend RX7) (hr : meth.sig.returnType = none) (hlk : meth.locks = false) (hnm : meth.name = "extend") (hR : R.frames = dp ∧ R.locals = 60 * dp) (e0 : 1 ≤ dp) (h1 : ox_Sem yX7_keepRow cX7_keepRow 3 none d1 f1) (e1 : d1 + 1 ≤ dp) (h2 : ox_Sem yX7_extend cX7_extend 9 none d2 f2) (e2 : d2 + 1 ≤ dp) (hrc : ∀ b, ox_S p l e R s m args below meth c g 9 c0 t0 (ox_QM g below args s c0 t0) b (rc b)) : ox_S p l e R s m args below meth c g 9 c0 t0 (ox_QM g below args s c0 t0) 45 (bX7_extend_45 f1 f2 rc) := by
  refine s_iload_n (pc := 45) C dX7_extend_45 rfl ?_
  refine s_ifle (pc := 46) 79 C dX7_extend_46 (by decide) (hrc 79) ?_
  refine s_aload_n (pc := 49) C dX7_extend_49 rfl ?_
  refine s_getr (pc := 50) (j := 0) (q := (RX7, TX7, 7)) C rfl (by decide) rfl wF_X7_9 dX7_extend_50 ?_
  refine s_aload_n (pc := 53) C dX7_extend_53 rfl ?_
  refine s_getr (pc := 54) (j := 5) (q := (RX7, TX7, 7)) C rfl (by decide) rfl wF_X7_22 dX7_extend_54 ?_
  refine s_iload_n (pc := 57) C dX7_extend_57 rfl ?_
  refine s_iconst (pc := 58) C dX7_extend_58 (by decide) ?_
  refine s_isub (pc := 59) C dX7_extend_59 ?_
  refine s_ia (pc := 60) C dX7_extend_60 ?_
  refine s_ia (pc := 61) C dX7_extend_61 ?_
  refine s_aload_n (pc := 62) C dX7_extend_62 rfl ?_
  refine s_getr (pc := 63) (j := 0) (q := (RX7, TX7, 7)) C rfl (by decide) rfl wF_X7_9 dX7_extend_63 ?_
  refine s_iload (pc := 66) C dX7_extend_66 ?_
  refine s_ia (pc := 68) C dX7_extend_68 ?_
  refine s_iconst (pc := 69) C dX7_extend_69 (by decide) ?_
  refine s_ixor (pc := 70) C dX7_extend_70 ?_
  refine s_iand (pc := 71) C dX7_extend_71 ?_
  refine s_ifeq (pc := 72) 79 C dX7_extend_72 (by decide) (hrc 79) ?_
  refine s_iconst (pc := 75) C dX7_extend_75 (by decide) ?_
  exact s_goto (pc := 76) 80 C dX7_extend_76 (by decide) (hrc 80)
set_option maxRecDepth 100000 in
theorem kX7_extend_79 (C : ox_C p s m args c g 9 cX7_extend RX7) (hr : meth.sig.returnType = none) (hlk : meth.locks = false) (hnm : meth.name = "extend") (hR : R.frames = dp ∧ R.locals = 60 * dp) (e0 : 1 ≤ dp) (h1 : ox_Sem yX7_keepRow cX7_keepRow 3 none d1 f1) (e1 : d1 + 1 ≤ dp) (h2 : ox_Sem yX7_extend cX7_extend 9 none d2 f2) (e2 : d2 + 1 ≤ dp) (hrc : ∀ b, ox_S p l e R s m args below meth c g 9 c0 t0 (ox_QM g below args s c0 t0) b (rc b)) : ox_S p l e R s m args below meth c g 9 c0 t0 (ox_QM g below args s c0 t0) 79 (bX7_extend_79 f1 f2 rc) := by
  refine s_iconst (pc := 79) C dX7_extend_79 (by decide) ?_
  exact hrc 80
set_option maxRecDepth 100000 in
theorem kX7_extend_80 (C : ox_C p s m args c g 9 cX7_extend RX7) (hr : meth.sig.returnType = none) (hlk : meth.locks = false) (hnm : meth.name = "extend") (hR : R.frames = dp ∧ R.locals = 60 * dp) (e0 : 1 ≤ dp) (h1 : ox_Sem yX7_keepRow cX7_keepRow 3 none d1 f1) (e1 : d1 + 1 ≤ dp) (h2 : ox_Sem yX7_extend cX7_extend 9 none d2 f2) (e2 : d2 + 1 ≤ dp) (hrc : ∀ b, ox_S p l e R s m args below meth c g 9 c0 t0 (ox_QM g below args s c0 t0) b (rc b)) : ox_S p l e R s m args below meth c g 9 c0 t0 (ox_QM g below args s c0 t0) 80 (bX7_extend_80 f1 f2 rc) := by
  refine s_istore (pc := 80) C dX7_extend_80 (by decide) ?_
  refine s_iload_n (pc := 82) C dX7_extend_82 rfl ?_
  refine s_aload_n (pc := 83) C dX7_extend_83 rfl ?_
  refine s_getr (pc := 84) (j := 1) (q := (RX7, TX7, 7)) C rfl (by decide) rfl wF_X7_13 dX7_extend_84 ?_
  refine s_iload (pc := 87) C dX7_extend_87 ?_
  refine s_ia (pc := 89) C dX7_extend_89 ?_
  refine s_iadd (pc := 90) C dX7_extend_90 ?_
  refine s_iload (pc := 91) C dX7_extend_91 ?_
  refine s_ifeq (pc := 93) 100 C dX7_extend_93 (by decide) (hrc 100) ?_
  refine s_iconst (pc := 96) C dX7_extend_96 (by decide) ?_
  exact s_goto (pc := 97) 101 C dX7_extend_97 (by decide) (hrc 101)
set_option maxRecDepth 100000 in
theorem kX7_extend_100 (C : ox_C p s m args c g 9 cX7_extend RX7) (hr : meth.sig.returnType = none) (hlk : meth.locks = false) (hnm : meth.name = "extend") (hR : R.frames = dp ∧ R.locals = 60 * dp) (e0 : 1 ≤ dp) (h1 : ox_Sem yX7_keepRow cX7_keepRow 3 none d1 f1) (e1 : d1 + 1 ≤ dp) (h2 : ox_Sem yX7_extend cX7_extend 9 none d2 f2) (e2 : d2 + 1 ≤ dp) (hrc : ∀ b, ox_S p l e R s m args below meth c g 9 c0 t0 (ox_QM g below args s c0 t0) b (rc b)) : ox_S p l e R s m args below meth c g 9 c0 t0 (ox_QM g below args s c0 t0) 100 (bX7_extend_100 f1 f2 rc) := by
  refine s_iconst (pc := 100) C dX7_extend_100 (by decide) ?_
  exact hrc 101
set_option maxRecDepth 100000 in
theorem kX7_extend_101 (C : ox_C p s m args c g 9 cX7_extend RX7) (hr : meth.sig.returnType = none) (hlk : meth.locks = false) (hnm : meth.name = "extend") (hR : R.frames = dp ∧ R.locals = 60 * dp) (e0 : 1 ≤ dp) (h1 : ox_Sem yX7_keepRow cX7_keepRow 3 none d1 f1) (e1 : d1 + 1 ≤ dp) (h2 : ox_Sem yX7_extend cX7_extend 9 none d2 f2) (e2 : d2 + 1 ≤ dp) (hrc : ∀ b, ox_S p l e R s m args below meth c g 9 c0 t0 (ox_QM g below args s c0 t0) b (rc b)) : ox_S p l e R s m args below meth c g 9 c0 t0 (ox_QM g below args s c0 t0) 101 (bX7_extend_101 f1 f2 rc) := by
  refine s_iadd (pc := 101) C dX7_extend_101 ?_
  refine s_istore (pc := 102) C dX7_extend_102 (by decide) ?_
  refine s_iload (pc := 104) C dX7_extend_104 ?_
  refine s_iconst (pc := 106) C dX7_extend_106 (by decide) ?_
  refine s_iload (pc := 107) C dX7_extend_107 ?_
  refine s_aload_n (pc := 109) C dX7_extend_109 rfl ?_
  refine s_getr (pc := 110) (j := 2) (q := (RX7, TX7, 7)) C rfl (by decide) rfl wF_X7_16 dX7_extend_110 ?_
  refine s_iload (pc := 113) C dX7_extend_113 ?_
  refine s_ia (pc := 115) C dX7_extend_115 ?_
  refine s_isub (pc := 116) C dX7_extend_116 ?_
  refine s_mmax (pc := 117) C wM_X7_41 wT_mmax wN_J9 wC_mmax (ox_lv3 hR e0) dX7_extend_117 ?_
  refine s_iadd (pc := 120) C dX7_extend_120 ?_
  refine s_iload (pc := 121) C dX7_extend_121 ?_
  refine s_ifeq (pc := 123) 130 C dX7_extend_123 (by decide) (hrc 130) ?_
  refine s_iconst (pc := 126) C dX7_extend_126 (by decide) ?_
  exact s_goto (pc := 127) 131 C dX7_extend_127 (by decide) (hrc 131)
set_option maxRecDepth 100000 in
theorem kX7_extend_130 (C : ox_C p s m args c g 9 cX7_extend RX7) (hr : meth.sig.returnType = none) (hlk : meth.locks = false) (hnm : meth.name = "extend") (hR : R.frames = dp ∧ R.locals = 60 * dp) (e0 : 1 ≤ dp) (h1 : ox_Sem yX7_keepRow cX7_keepRow 3 none d1 f1) (e1 : d1 + 1 ≤ dp) (h2 : ox_Sem yX7_extend cX7_extend 9 none d2 f2) (e2 : d2 + 1 ≤ dp) (hrc : ∀ b, ox_S p l e R s m args below meth c g 9 c0 t0 (ox_QM g below args s c0 t0) b (rc b)) : ox_S p l e R s m args below meth c g 9 c0 t0 (ox_QM g below args s c0 t0) 130 (bX7_extend_130 f1 f2 rc) := by
  refine s_iconst (pc := 130) C dX7_extend_130 (by decide) ?_
  exact hrc 131
set_option maxRecDepth 100000 in
theorem kX7_extend_131 (C : ox_C p s m args c g 9 cX7_extend RX7) (hr : meth.sig.returnType = none) (hlk : meth.locks = false) (hnm : meth.name = "extend") (hR : R.frames = dp ∧ R.locals = 60 * dp) (e0 : 1 ≤ dp) (h1 : ox_Sem yX7_keepRow cX7_keepRow 3 none d1 f1) (e1 : d1 + 1 ≤ dp) (h2 : ox_Sem yX7_extend cX7_extend 9 none d2 f2) (e2 : d2 + 1 ≤ dp) (hrc : ∀ b, ox_S p l e R s m args below meth c g 9 c0 t0 (ox_QM g below args s c0 t0) b (rc b)) : ox_S p l e R s m args below meth c g 9 c0 t0 (ox_QM g below args s c0 t0) 131 (bX7_extend_131 f1 f2 rc) := by
  refine s_iadd (pc := 131) C dX7_extend_131 ?_
  refine s_istore (pc := 132) C dX7_extend_132 (by decide) ?_
  refine s_iload (pc := 134) C dX7_extend_134 ?_
  refine s_aload_n (pc := 136) C dX7_extend_136 rfl ?_
  refine s_geti (pc := 137) (j := 4) (q := (RX7, TX7, 7)) C rfl (by decide) rfl wF_X7_30 dX7_extend_137 ?_
  refine s_icmpge (pc := 140) 168 C dX7_extend_140 (by decide) (hrc 168) ?_
  refine s_aload_n (pc := 143) C dX7_extend_143 rfl ?_
  refine s_getr (pc := 144) (j := 5) (q := (RX7, TX7, 7)) C rfl (by decide) rfl wF_X7_22 dX7_extend_144 ?_
  refine s_iload_n (pc := 147) C dX7_extend_147 rfl ?_
  refine s_iload (pc := 148) C dX7_extend_148 ?_
  refine s_iast (pc := 150) C dX7_extend_150 ?_
  refine s_aload_n (pc := 151) C dX7_extend_151 rfl ?_
  refine s_iload_n (pc := 152) C dX7_extend_152 rfl ?_
  refine s_iconst (pc := 153) C dX7_extend_153 (by decide) ?_
  refine s_iadd (pc := 154) C dX7_extend_154 ?_
  refine s_iload_n (pc := 155) C dX7_extend_155 rfl ?_
  refine s_iconst (pc := 156) C dX7_extend_156 (by decide) ?_
  refine s_iload (pc := 157) C dX7_extend_157 ?_
  refine s_ishl (pc := 159) C dX7_extend_159 ?_
  refine s_ior (pc := 160) C dX7_extend_160 ?_
  refine s_iload (pc := 161) C dX7_extend_161 ?_
  refine s_iload (pc := 163) C dX7_extend_163 ?_
  refine s_ct (pc := 165) C h2 wM_X7_33 wT_X7_extend wN_X7 wC_X7_extend (by decide +kernel) (ox_lv hR e2 (by decide)) dX7_extend_165 ?_
  exact hrc 168
set_option maxRecDepth 100000 in
theorem kX7_extend_168 (C : ox_C p s m args c g 9 cX7_extend RX7) (hr : meth.sig.returnType = none) (hlk : meth.locks = false) (hnm : meth.name = "extend") (hR : R.frames = dp ∧ R.locals = 60 * dp) (e0 : 1 ≤ dp) (h1 : ox_Sem yX7_keepRow cX7_keepRow 3 none d1 f1) (e1 : d1 + 1 ≤ dp) (h2 : ox_Sem yX7_extend cX7_extend 9 none d2 f2) (e2 : d2 + 1 ≤ dp) (hrc : ∀ b, ox_S p l e R s m args below meth c g 9 c0 t0 (ox_QM g below args s c0 t0) b (rc b)) : ox_S p l e R s m args below meth c g 9 c0 t0 (ox_QM g below args s c0 t0) 168 (bX7_extend_168 f1 f2 rc) := by
  refine s_iinc (pc := 168) C dX7_extend_168 (by decide) (by decide) ?_
  exact s_goto (pc := 171) 24 C dX7_extend_171 (by decide) (hrc 24)
set_option maxRecDepth 100000 in
theorem kX7_extend_174 (C : ox_C p s m args c g 9 cX7_extend RX7) (hr : meth.sig.returnType = none) (hlk : meth.locks = false) (hnm : meth.name = "extend") (hR : R.frames = dp ∧ R.locals = 60 * dp) (e0 : 1 ≤ dp) (h1 : ox_Sem yX7_keepRow cX7_keepRow 3 none d1 f1) (e1 : d1 + 1 ≤ dp) (h2 : ox_Sem yX7_extend cX7_extend 9 none d2 f2) (e2 : d2 + 1 ≤ dp) (hrc : ∀ b, ox_S p l e R s m args below meth c g 9 c0 t0 (ox_QM g below args s c0 t0) b (rc b)) : ox_S p l e R s m args below meth c g 9 c0 t0 (ox_QM g below args s c0 t0) 174 (bX7_extend_174 f1 f2 rc) := by
  exact s_ret (pc := 174) C hr hlk dX7_extend_174
end SX7_extend
def bsX7_extend (f1 f2 : ox_F) (b : Nat) (rc : Nat → ox_K) : ox_K := if b = 0 then bX7_extend_0 f1 f2 rc else if b = 14 then bX7_extend_14 f1 f2 rc else if b = 21 then bX7_extend_21 f1 f2 rc else if b = 24 then bX7_extend_24 f1 f2 rc else if b = 45 then bX7_extend_45 f1 f2 rc else if b = 79 then bX7_extend_79 f1 f2 rc else if b = 80 then bX7_extend_80 f1 f2 rc else if b = 100 then bX7_extend_100 f1 f2 rc else if b = 101 then bX7_extend_101 f1 f2 rc else if b = 130 then bX7_extend_130 f1 f2 rc else if b = 131 then bX7_extend_131 f1 f2 rc else if b = 168 then bX7_extend_168 f1 f2 rc else if b = 174 then bX7_extend_174 f1 f2 rc else ox_no
theorem mX7_extend {dp d1 d2 : Nat} {f1 f2 f : ox_F} (e0 : 1 ≤ dp) (h1 : ox_Sem yX7_keepRow cX7_keepRow 3 none d1 f1) (e1 : d1 + 1 ≤ dp) (h2 : ox_Sem yX7_extend cX7_extend 9 none d2 f2) (e2 : d2 + 1 ≤ dp) (hf : ∀ as h r, f as h = some r → ox_cs as ≤ 9 ∧ ox_le h r.2 ∧ ∃ n, ox_run (bsX7_extend f1 f2) n 0 (lv_args 0 as) [] h = some r) : ox_Sem yX7_extend cX7_extend 9 none dp f := by
  refine ox_meth (bs := bsX7_extend f1 f2) (by decide) hf ?_
  intro p l e R s m args below meth c g c0 t0 C hr hlk hnm hR rc hrc b
  unfold bsX7_extend
  refine ox_br (kX7_extend_0 C hr hlk hnm hR e0 h1 e1 h2 e2 hrc) ?_
  refine ox_br (kX7_extend_14 C hr hlk hnm hR e0 h1 e1 h2 e2 hrc) ?_
  refine ox_br (kX7_extend_21 C hr hlk hnm hR e0 h1 e1 h2 e2 hrc) ?_
  refine ox_br (kX7_extend_24 C hr hlk hnm hR e0 h1 e1 h2 e2 hrc) ?_
  refine ox_br (kX7_extend_45 C hr hlk hnm hR e0 h1 e1 h2 e2 hrc) ?_
  refine ox_br (kX7_extend_79 C hr hlk hnm hR e0 h1 e1 h2 e2 hrc) ?_
  refine ox_br (kX7_extend_80 C hr hlk hnm hR e0 h1 e1 h2 e2 hrc) ?_
  refine ox_br (kX7_extend_100 C hr hlk hnm hR e0 h1 e1 h2 e2 hrc) ?_
  refine ox_br (kX7_extend_101 C hr hlk hnm hR e0 h1 e1 h2 e2 hrc) ?_
  refine ox_br (kX7_extend_130 C hr hlk hnm hR e0 h1 e1 h2 e2 hrc) ?_
  refine ox_br (kX7_extend_131 C hr hlk hnm hR e0 h1 e1 h2 e2 hrc) ?_
  refine ox_br (kX7_extend_168 C hr hlk hnm hR e0 h1 e1 h2 e2 hrc) ?_
  refine ox_br (kX7_extend_174 C hr hlk hnm hR e0 h1 e1 h2 e2 hrc) ?_
  exact s_no
theorem dX7_keepRow_0 : decode cX7_keepRow 0 = .ok (.aload_n 0, 1) := by decide +kernel
theorem dX7_keepRow_1 : decode cX7_keepRow 1 = .ok (.iload_n 1, 1) := by decide +kernel
theorem dX7_keepRow_2 : decode cX7_keepRow 2 = .ok (.putfield 30, 3) := by decide +kernel
theorem dX7_keepRow_5 : decode cX7_keepRow 5 = .ok (.iconst 0, 1) := by decide +kernel
theorem dX7_keepRow_6 : decode cX7_keepRow 6 = .ok (.istore_n 2, 1) := by decide +kernel
theorem dX7_keepRow_7 : decode cX7_keepRow 7 = .ok (.iload_n 2, 1) := by decide +kernel
theorem dX7_keepRow_8 : decode cX7_keepRow 8 = .ok (.aload_n 0, 1) := by decide +kernel
theorem dX7_keepRow_9 : decode cX7_keepRow 9 = .ok (.getfield 25, 3) := by decide +kernel
theorem dX7_keepRow_12 : decode cX7_keepRow 12 = .ok (.if_icmp .ge 21, 3) := by decide +kernel
theorem dX7_keepRow_15 : decode cX7_keepRow 15 = .ok (.aload_n 0, 1) := by decide +kernel
theorem dX7_keepRow_16 : decode cX7_keepRow 16 = .ok (.getfield 19, 3) := by decide +kernel
theorem dX7_keepRow_19 : decode cX7_keepRow 19 = .ok (.iload_n 2, 1) := by decide +kernel
theorem dX7_keepRow_20 : decode cX7_keepRow 20 = .ok (.aload_n 0, 1) := by decide +kernel
theorem dX7_keepRow_21 : decode cX7_keepRow 21 = .ok (.getfield 22, 3) := by decide +kernel
theorem dX7_keepRow_24 : decode cX7_keepRow 24 = .ok (.iload_n 2, 1) := by decide +kernel
theorem dX7_keepRow_25 : decode cX7_keepRow 25 = .ok (.iaload, 1) := by decide +kernel
theorem dX7_keepRow_26 : decode cX7_keepRow 26 = .ok (.iastore, 1) := by decide +kernel
theorem dX7_keepRow_27 : decode cX7_keepRow 27 = .ok (.iinc 2 1, 3) := by decide +kernel
theorem dX7_keepRow_30 : decode cX7_keepRow 30 = .ok (.goto (-23), 3) := by decide +kernel
theorem dX7_keepRow_33 : decode cX7_keepRow 33 = .ok (.return_, 1) := by decide +kernel
def bX7_keepRow_0 (rc : Nat → ox_K) : ox_K := o_al 0 (o_il 1 (o_puti 7 4 (o_ic (0) (o_is 2 (rc 7)))))
def bX7_keepRow_7 (rc : Nat → ox_K) : ox_K := o_keep [0, 2] (o_il 2 (o_al 0 (o_geti 7 6 (o_icge (rc 33) (o_al 0 (o_getr 7 3 (o_il 2 (o_al 0 (o_getr 7 5 (o_il 2 (o_ia (o_iast (o_inc 2 (1) (rc 7))))))))))))))
def bX7_keepRow_33 (rc : Nat → ox_K) : ox_K := o_ret
section SX7_keepRow
variable {p : Program} {l : Launch} {e : Env} {R : Room} {s : State} {m : MethodId} {args : Array Value} {below : List Frame} {meth : Method} {c : Code} {g : ox_G} {c0 t0 dp  : Nat} {rc : Nat → ox_K}
set_option maxRecDepth 100000 in
theorem kX7_keepRow_0 (C : ox_C p s m args c g 3 cX7_keepRow RX7) (hr : meth.sig.returnType = none) (hlk : meth.locks = false) (hnm : meth.name = "keepRow") (hR : R.frames = dp ∧ R.locals = 60 * dp) (hrc : ∀ b, ox_S p l e R s m args below meth c g 3 c0 t0 (ox_QM g below args s c0 t0) b (rc b)) : ox_S p l e R s m args below meth c g 3 c0 t0 (ox_QM g below args s c0 t0) 0 (bX7_keepRow_0 rc) := by
  refine s_aload_n (pc := 0) C dX7_keepRow_0 rfl ?_
  refine s_iload_n (pc := 1) C dX7_keepRow_1 rfl ?_
  refine s_puti (pc := 2) (j := 4) (q := (RX7, TX7, 7)) C rfl (by decide) rfl (Or.inl rfl) wF_X7_30 dX7_keepRow_2 ?_
  refine s_iconst (pc := 5) C dX7_keepRow_5 (by decide) ?_
  refine s_istore_n (pc := 6) C dX7_keepRow_6 rfl (by decide) ?_
  exact hrc 7
set_option maxRecDepth 100000 in
theorem kX7_keepRow_7 (C : ox_C p s m args c g 3 cX7_keepRow RX7) (hr : meth.sig.returnType = none) (hlk : meth.locks = false) (hnm : meth.name = "keepRow") (hR : R.frames = dp ∧ R.locals = 60 * dp) (hrc : ∀ b, ox_S p l e R s m args below meth c g 3 c0 t0 (ox_QM g below args s c0 t0) b (rc b)) : ox_S p l e R s m args below meth c g 3 c0 t0 (ox_QM g below args s c0 t0) 7 (bX7_keepRow_7 rc) := by
  refine s_keep ?_
  refine s_iload_n (pc := 7) C dX7_keepRow_7 rfl ?_
  refine s_aload_n (pc := 8) C dX7_keepRow_8 rfl ?_
  refine s_geti (pc := 9) (j := 6) (q := (RX7, TX7, 7)) C rfl (by decide) rfl wF_X7_25 dX7_keepRow_9 ?_
  refine s_icmpge (pc := 12) 33 C dX7_keepRow_12 (by decide) (hrc 33) ?_
  refine s_aload_n (pc := 15) C dX7_keepRow_15 rfl ?_
  refine s_getr (pc := 16) (j := 3) (q := (RX7, TX7, 7)) C rfl (by decide) rfl wF_X7_19 dX7_keepRow_16 ?_
  refine s_iload_n (pc := 19) C dX7_keepRow_19 rfl ?_
  refine s_aload_n (pc := 20) C dX7_keepRow_20 rfl ?_
  refine s_getr (pc := 21) (j := 5) (q := (RX7, TX7, 7)) C rfl (by decide) rfl wF_X7_22 dX7_keepRow_21 ?_
  refine s_iload_n (pc := 24) C dX7_keepRow_24 rfl ?_
  refine s_ia (pc := 25) C dX7_keepRow_25 ?_
  refine s_iast (pc := 26) C dX7_keepRow_26 ?_
  refine s_iinc (pc := 27) C dX7_keepRow_27 (by decide) (by decide) ?_
  exact s_goto (pc := 30) 7 C dX7_keepRow_30 (by decide) (hrc 7)
set_option maxRecDepth 100000 in
theorem kX7_keepRow_33 (C : ox_C p s m args c g 3 cX7_keepRow RX7) (hr : meth.sig.returnType = none) (hlk : meth.locks = false) (hnm : meth.name = "keepRow") (hR : R.frames = dp ∧ R.locals = 60 * dp) (hrc : ∀ b, ox_S p l e R s m args below meth c g 3 c0 t0 (ox_QM g below args s c0 t0) b (rc b)) : ox_S p l e R s m args below meth c g 3 c0 t0 (ox_QM g below args s c0 t0) 33 (bX7_keepRow_33 rc) := by
  exact s_ret (pc := 33) C hr hlk dX7_keepRow_33
end SX7_keepRow
def bsX7_keepRow (b : Nat) (rc : Nat → ox_K) : ox_K := if b = 0 then bX7_keepRow_0 rc else if b = 7 then bX7_keepRow_7 rc else if b = 33 then bX7_keepRow_33 rc else ox_no
theorem mX7_keepRow {dp  : Nat} {f : ox_F} (hf : ∀ as h r, f as h = some r → ox_cs as ≤ 3 ∧ ox_le h r.2 ∧ ∃ n, ox_run (bsX7_keepRow) n 0 (lv_args 0 as) [] h = some r) : ox_Sem yX7_keepRow cX7_keepRow 3 none dp f := by
  refine ox_meth (bs := bsX7_keepRow) (by decide) hf ?_
  intro p l e R s m args below meth c g c0 t0 C hr hlk hnm hR rc hrc b
  unfold bsX7_keepRow
  refine ox_br (kX7_keepRow_0 C hr hlk hnm hR hrc) ?_
  refine ox_br (kX7_keepRow_7 C hr hlk hnm hR hrc) ?_
  refine ox_br (kX7_keepRow_33 C hr hlk hnm hR hrc) ?_
  exact s_no
