theorem dJ0_length_8abf5_0 : decode cJ0_length_8abf5 0 = .ok (.aload_n 0, 1) := by decide +kernel
theorem dJ0_length_8abf5_1 : decode cJ0_length_8abf5 1 = .ok (.getfield 9, 3) := by decide +kernel
theorem dJ0_length_8abf5_4 : decode cJ0_length_8abf5 4 = .ok (.arraylength, 1) := by decide +kernel
theorem dJ0_length_8abf5_5 : decode cJ0_length_8abf5 5 = .ok (.aload_n 0, 1) := by decide +kernel
theorem dJ0_length_8abf5_6 : decode cJ0_length_8abf5 6 = .ok (.invokevirtual 335, 3) := by decide +kernel
theorem dJ0_length_8abf5_9 : decode cJ0_length_8abf5 9 = .ok (.ishr, 1) := by decide +kernel
theorem dJ0_length_8abf5_10 : decode cJ0_length_8abf5 10 = .ok (.ireturn, 1) := by decide +kernel
def bJ0_length_8abf5_0 (f1 : ox_F) (rc : Nat → ox_K) : ox_K := o_al 0 (o_sv (o_len (o_al 0 (o_cvS f1 0 (o_ishr (o_iret))))))
section SJ0_length_8abf5
variable {p : Program} {l : Launch} {e : Env} {R : Room} {s : State} {m : MethodId} {args : Array Value} {below : List Frame} {meth : Method} {c : Code} {g : ox_G} {c0 t0 dp d1 : Nat} {rc : Nat → ox_K} {f1 : ox_F}
set_option maxRecDepth 100000 in
theorem kJ0_length_8abf5_0 (C : ox_C p s m args c g 1 cJ0_length_8abf5 RJ0) (hr : meth.sig.returnType = (some .int)) (hlk : meth.locks = false) (hnm : meth.name = "length") (hR : R.frames = dp ∧ R.locals = 60 * dp) (h1 : ox_Sem yJ0_coder_7d493 cJ0_coder_7d493 1 (some .byte) d1 f1) (e1 : d1 + 1 ≤ dp) (hrc : ∀ b, ox_S p l e R s m args below meth c g 1 c0 t0 (ox_QM g below args s c0 t0) b (rc b)) : ox_S p l e R s m args below meth c g 1 c0 t0 (ox_QM g below args s c0 t0) 0 (bJ0_length_8abf5_0 f1 rc) := by
  refine s_aload_n (pc := 0) C dJ0_length_8abf5_0 rfl ?_
  refine s_sv (pc := 1) C wF_J0_9 dJ0_length_8abf5_1 ?_
  refine s_len (pc := 4) C dJ0_length_8abf5_4 ?_
  refine s_aload_n (pc := 5) C dJ0_length_8abf5_5 rfl ?_
  refine s_cvS (pc := 6) C h1 wM_J0_335 wI_J0_coder_7d493 wS_J0_coder_7d493 wN_J0 wC_J0_coder_7d493 (by decide +kernel) (ox_lv hR e1 (by decide)) dJ0_length_8abf5_6 ?_
  refine s_ishr (pc := 9) C dJ0_length_8abf5_9 ?_
  exact s_iret (pc := 10) C hr hlk dJ0_length_8abf5_10
end SJ0_length_8abf5
def bsJ0_length_8abf5 (f1 : ox_F) (b : Nat) (rc : Nat → ox_K) : ox_K := if b = 0 then bJ0_length_8abf5_0 f1 rc else ox_no
theorem mJ0_length_8abf5 {dp d1 : Nat} {f1 f : ox_F} (h1 : ox_Sem yJ0_coder_7d493 cJ0_coder_7d493 1 (some .byte) d1 f1) (e1 : d1 + 1 ≤ dp) (hf : ∀ as h r, f as h = some r → ox_cs as ≤ 1 ∧ ox_le h r.2 ∧ ∃ n, ox_run (bsJ0_length_8abf5 f1) n 0 (lv_args 0 as) [] h = some r) : ox_Sem yJ0_length_8abf5 cJ0_length_8abf5 1 (some .int) dp f := by
  refine ox_meth (bs := bsJ0_length_8abf5 f1) (by decide) hf ?_
  intro p l e R s m args below meth c g c0 t0 C hr hlk hnm hR rc hrc b
  unfold bsJ0_length_8abf5
  refine ox_br (kJ0_length_8abf5_0 C hr hlk hnm hR h1 e1 hrc) ?_
  exact s_no
theorem dJ0_charAt_5068e_0 : decode cJ0_charAt_5068e 0 = .ok (.aload_n 0, 1) := by decide +kernel
theorem dJ0_charAt_5068e_1 : decode cJ0_charAt_5068e 1 = .ok (.invokevirtual 492, 3) := by decide +kernel
theorem dJ0_charAt_5068e_4 : decode cJ0_charAt_5068e 4 = .ok (.ifCond .eq 12, 3) := by decide +kernel
theorem dJ0_charAt_5068e_7 : decode cJ0_charAt_5068e 7 = .ok (.aload_n 0, 1) := by decide +kernel
theorem dJ0_charAt_5068e_8 : decode cJ0_charAt_5068e 8 = .ok (.getfield 9, 3) := by decide +kernel
theorem dJ0_charAt_5068e_11 : decode cJ0_charAt_5068e 11 = .ok (.iload_n 1, 1) := by decide +kernel
theorem dJ0_charAt_5068e_12 : decode cJ0_charAt_5068e 12 = .ok (.invokestatic 495, 3) := by decide +kernel
theorem dJ0_charAt_5068e_15 : decode cJ0_charAt_5068e 15 = .ok (.ireturn, 1) := by decide +kernel
theorem dJ0_charAt_5068e_16 : decode cJ0_charAt_5068e 16 = .ok (.aload_n 0, 1) := by decide +kernel
theorem dJ0_charAt_5068e_17 : decode cJ0_charAt_5068e 17 = .ok (.getfield 9, 3) := by decide +kernel
theorem dJ0_charAt_5068e_20 : decode cJ0_charAt_5068e 20 = .ok (.iload_n 1, 1) := by decide +kernel
theorem dJ0_charAt_5068e_21 : decode cJ0_charAt_5068e 21 = .ok (.invokestatic 498, 3) := by decide +kernel
theorem dJ0_charAt_5068e_24 : decode cJ0_charAt_5068e 24 = .ok (.ireturn, 1) := by decide +kernel
def bJ0_charAt_5068e_0 (f1 f2 : ox_F) (rc : Nat → ox_K) : ox_K := o_al 0 (o_cvS f1 0 (o_ifeq (rc 16) (o_al 0 (o_sv (o_il 1 (o_ct f2 2 (o_cret 255)))))))
def bJ0_charAt_5068e_16 (f1 f2 : ox_F) (rc : Nat → ox_K) : ox_K := o_al 0 (o_sv (o_il 1 (ox_no)))
section SJ0_charAt_5068e
variable {p : Program} {l : Launch} {e : Env} {R : Room} {s : State} {m : MethodId} {args : Array Value} {below : List Frame} {meth : Method} {c : Code} {g : ox_G} {c0 t0 dp d1 d2 : Nat} {rc : Nat → ox_K} {f1 f2 : ox_F}
set_option maxRecDepth 100000 in
theorem kJ0_charAt_5068e_0 (C : ox_C p s m args c g 2 cJ0_charAt_5068e RJ0) (hr : meth.sig.returnType = (some .char)) (hlk : meth.locks = false) (hnm : meth.name = "charAt") (hR : R.frames = dp ∧ R.locals = 60 * dp) (h1 : ox_Sem yJ0_isLatin1_aae02 cJ0_isLatin1_aae02 1 (some .boolean) d1 f1) (e1 : d1 + 1 ≤ dp) (h2 : ox_Sem yJ1_charAt_3b067 cJ1_charAt_3b067 2 (some .char) d2 f2) (e2 : d2 + 1 ≤ dp) (hrc : ∀ b, ox_S p l e R s m args below meth c g 2 c0 t0 (ox_QM g below args s c0 t0) b (rc b)) : ox_S p l e R s m args below meth c g 2 c0 t0 (ox_QM g below args s c0 t0) 0 (bJ0_charAt_5068e_0 f1 f2 rc) := by
  refine s_aload_n (pc := 0) C dJ0_charAt_5068e_0 rfl ?_
  refine s_cvS (pc := 1) C h1 wM_J0_492 wI_J0_isLatin1_aae02 wS_J0_isLatin1_aae02 wN_J0 wC_J0_isLatin1_aae02 (by decide +kernel) (ox_lv hR e1 (by decide)) dJ0_charAt_5068e_1 ?_
  refine s_ifeq (pc := 4) 16 C dJ0_charAt_5068e_4 (by decide) (hrc 16) ?_
  refine s_aload_n (pc := 7) C dJ0_charAt_5068e_7 rfl ?_
  refine s_sv (pc := 8) C wF_J0_9 dJ0_charAt_5068e_8 ?_
  refine s_iload_n (pc := 11) C dJ0_charAt_5068e_11 rfl ?_
  refine s_ct (pc := 12) C h2 wM_J0_495 wT_J1_charAt_3b067 wN_J1 wC_J1_charAt_3b067 (by decide +kernel) (ox_lv hR e2 (by decide)) dJ0_charAt_5068e_12 ?_
  exact s_cret (pc := 15) C hr hlk dJ0_charAt_5068e_15
set_option maxRecDepth 100000 in
theorem kJ0_charAt_5068e_16 (C : ox_C p s m args c g 2 cJ0_charAt_5068e RJ0) (hr : meth.sig.returnType = (some .char)) (hlk : meth.locks = false) (hnm : meth.name = "charAt") (hR : R.frames = dp ∧ R.locals = 60 * dp) (h1 : ox_Sem yJ0_isLatin1_aae02 cJ0_isLatin1_aae02 1 (some .boolean) d1 f1) (e1 : d1 + 1 ≤ dp) (h2 : ox_Sem yJ1_charAt_3b067 cJ1_charAt_3b067 2 (some .char) d2 f2) (e2 : d2 + 1 ≤ dp) (hrc : ∀ b, ox_S p l e R s m args below meth c g 2 c0 t0 (ox_QM g below args s c0 t0) b (rc b)) : ox_S p l e R s m args below meth c g 2 c0 t0 (ox_QM g below args s c0 t0) 16 (bJ0_charAt_5068e_16 f1 f2 rc) := by
  refine s_aload_n (pc := 16) C dJ0_charAt_5068e_16 rfl ?_
  refine s_sv (pc := 17) C wF_J0_9 dJ0_charAt_5068e_17 ?_
  refine s_iload_n (pc := 20) C dJ0_charAt_5068e_20 rfl ?_
  exact s_no
end SJ0_charAt_5068e
def bsJ0_charAt_5068e (f1 f2 : ox_F) (b : Nat) (rc : Nat → ox_K) : ox_K := if b = 0 then bJ0_charAt_5068e_0 f1 f2 rc else if b = 16 then bJ0_charAt_5068e_16 f1 f2 rc else ox_no
theorem mJ0_charAt_5068e {dp d1 d2 : Nat} {f1 f2 f : ox_F} (h1 : ox_Sem yJ0_isLatin1_aae02 cJ0_isLatin1_aae02 1 (some .boolean) d1 f1) (e1 : d1 + 1 ≤ dp) (h2 : ox_Sem yJ1_charAt_3b067 cJ1_charAt_3b067 2 (some .char) d2 f2) (e2 : d2 + 1 ≤ dp) (hf : ∀ as h r, f as h = some r → ox_cs as ≤ 2 ∧ ox_le h r.2 ∧ ∃ n, ox_run (bsJ0_charAt_5068e f1 f2) n 0 (lv_args 0 as) [] h = some r) : ox_Sem yJ0_charAt_5068e cJ0_charAt_5068e 2 (some .char) dp f := by
  refine ox_meth (bs := bsJ0_charAt_5068e f1 f2) (by decide) hf ?_
  intro p l e R s m args below meth c g c0 t0 C hr hlk hnm hR rc hrc b
  unfold bsJ0_charAt_5068e
  refine ox_br (kJ0_charAt_5068e_0 C hr hlk hnm hR h1 e1 h2 e2 hrc) ?_
  refine ox_br (kJ0_charAt_5068e_16 C hr hlk hnm hR h1 e1 h2 e2 hrc) ?_
  exact s_no
theorem dJ0_coder_7d493_0 : decode cJ0_coder_7d493 0 = .ok (.getstatic 38, 3) := by decide +kernel
theorem dJ0_coder_7d493_3 : decode cJ0_coder_7d493 3 = .ok (.ifCond .eq 10, 3) := by decide +kernel
theorem dJ0_coder_7d493_6 : decode cJ0_coder_7d493 6 = .ok (.aload_n 0, 1) := by decide +kernel
theorem dJ0_coder_7d493_7 : decode cJ0_coder_7d493 7 = .ok (.getfield 15, 3) := by decide +kernel
theorem dJ0_coder_7d493_10 : decode cJ0_coder_7d493 10 = .ok (.goto 4, 3) := by decide +kernel
theorem dJ0_coder_7d493_13 : decode cJ0_coder_7d493 13 = .ok (.iconst 1, 1) := by decide +kernel
theorem dJ0_coder_7d493_14 : decode cJ0_coder_7d493 14 = .ok (.ireturn, 1) := by decide +kernel
def bJ0_coder_7d493_0 (rc : Nat → ox_K) : ox_K := o_ic 1 (o_ifeq (rc 13) (o_al 0 (o_sc (rc 14))))
def bJ0_coder_7d493_13 (rc : Nat → ox_K) : ox_K := o_ic (1) (rc 14)
def bJ0_coder_7d493_14 (rc : Nat → ox_K) : ox_K := o_zret
section SJ0_coder_7d493
variable {p : Program} {l : Launch} {e : Env} {R : Room} {s : State} {m : MethodId} {args : Array Value} {below : List Frame} {meth : Method} {c : Code} {g : ox_G} {c0 t0 dp  : Nat} {rc : Nat → ox_K}
set_option maxRecDepth 100000 in
theorem kJ0_coder_7d493_0 (C : ox_C p s m args c g 1 cJ0_coder_7d493 RJ0) (hr : meth.sig.returnType = (some .byte)) (hlk : meth.locks = false) (hnm : meth.name = "coder") (hR : R.frames = dp ∧ R.locals = 60 * dp) (hrc : ∀ b, ox_S p l e R s m args below meth c g 1 c0 t0 (ox_QM g below args s c0 t0) b (rc b)) : ox_S p l e R s m args below meth c g 1 c0 t0 (ox_QM g below args s c0 t0) 0 (bJ0_coder_7d493_0 rc) := by
  refine s_gsc (pc := 0) C wF_J0_38 dJ0_coder_7d493_0 ?_
  refine s_ifeq (pc := 3) 13 C dJ0_coder_7d493_3 (by decide) (hrc 13) ?_
  refine s_aload_n (pc := 6) C dJ0_coder_7d493_6 rfl ?_
  refine s_sc (pc := 7) C wF_J0_15 dJ0_coder_7d493_7 ?_
  exact s_goto (pc := 10) 14 C dJ0_coder_7d493_10 (by decide) (hrc 14)
set_option maxRecDepth 100000 in
theorem kJ0_coder_7d493_13 (C : ox_C p s m args c g 1 cJ0_coder_7d493 RJ0) (hr : meth.sig.returnType = (some .byte)) (hlk : meth.locks = false) (hnm : meth.name = "coder") (hR : R.frames = dp ∧ R.locals = 60 * dp) (hrc : ∀ b, ox_S p l e R s m args below meth c g 1 c0 t0 (ox_QM g below args s c0 t0) b (rc b)) : ox_S p l e R s m args below meth c g 1 c0 t0 (ox_QM g below args s c0 t0) 13 (bJ0_coder_7d493_13 rc) := by
  refine s_iconst (pc := 13) C dJ0_coder_7d493_13 (by decide) ?_
  exact hrc 14
set_option maxRecDepth 100000 in
theorem kJ0_coder_7d493_14 (C : ox_C p s m args c g 1 cJ0_coder_7d493 RJ0) (hr : meth.sig.returnType = (some .byte)) (hlk : meth.locks = false) (hnm : meth.name = "coder") (hR : R.frames = dp ∧ R.locals = 60 * dp) (hrc : ∀ b, ox_S p l e R s m args below meth c g 1 c0 t0 (ox_QM g below args s c0 t0) b (rc b)) : ox_S p l e R s m args below meth c g 1 c0 t0 (ox_QM g below args s c0 t0) 14 (bJ0_coder_7d493_14 rc) := by
  exact s_zret (pc := 14) C hr (by decide) hlk dJ0_coder_7d493_14
end SJ0_coder_7d493
def bsJ0_coder_7d493 (b : Nat) (rc : Nat → ox_K) : ox_K := if b = 0 then bJ0_coder_7d493_0 rc else if b = 13 then bJ0_coder_7d493_13 rc else if b = 14 then bJ0_coder_7d493_14 rc else ox_no
theorem mJ0_coder_7d493 {dp  : Nat} {f : ox_F} (hf : ∀ as h r, f as h = some r → ox_cs as ≤ 1 ∧ ox_le h r.2 ∧ ∃ n, ox_run (bsJ0_coder_7d493) n 0 (lv_args 0 as) [] h = some r) : ox_Sem yJ0_coder_7d493 cJ0_coder_7d493 1 (some .byte) dp f := by
  refine ox_meth (bs := bsJ0_coder_7d493) (by decide) hf ?_
  intro p l e R s m args below meth c g c0 t0 C hr hlk hnm hR rc hrc b
  unfold bsJ0_coder_7d493
  refine ox_br (kJ0_coder_7d493_0 C hr hlk hnm hR hrc) ?_
  refine ox_br (kJ0_coder_7d493_13 C hr hlk hnm hR hrc) ?_
  refine ox_br (kJ0_coder_7d493_14 C hr hlk hnm hR hrc) ?_
  exact s_no
theorem dJ0_isLatin1_aae02_0 : decode cJ0_isLatin1_aae02 0 = .ok (.getstatic 38, 3) := by decide +kernel
theorem dJ0_isLatin1_aae02_3 : decode cJ0_isLatin1_aae02 3 = .ok (.ifCond .eq 14, 3) := by decide +kernel
theorem dJ0_isLatin1_aae02_6 : decode cJ0_isLatin1_aae02 6 = .ok (.aload_n 0, 1) := by decide +kernel
theorem dJ0_isLatin1_aae02_7 : decode cJ0_isLatin1_aae02 7 = .ok (.getfield 15, 3) := by decide +kernel
theorem dJ0_isLatin1_aae02_10 : decode cJ0_isLatin1_aae02 10 = .ok (.ifCond .ne 7, 3) := by decide +kernel
theorem dJ0_isLatin1_aae02_13 : decode cJ0_isLatin1_aae02 13 = .ok (.iconst 1, 1) := by decide +kernel
theorem dJ0_isLatin1_aae02_14 : decode cJ0_isLatin1_aae02 14 = .ok (.goto 4, 3) := by decide +kernel
theorem dJ0_isLatin1_aae02_17 : decode cJ0_isLatin1_aae02 17 = .ok (.iconst 0, 1) := by decide +kernel
theorem dJ0_isLatin1_aae02_18 : decode cJ0_isLatin1_aae02 18 = .ok (.ireturn, 1) := by decide +kernel
def bJ0_isLatin1_aae02_0 (rc : Nat → ox_K) : ox_K := o_ic 1 (o_ifeq (rc 17) (o_al 0 (o_sc (o_ifne (rc 17) (o_ic (1) (rc 18))))))
def bJ0_isLatin1_aae02_17 (rc : Nat → ox_K) : ox_K := o_ic (0) (rc 18)
def bJ0_isLatin1_aae02_18 (rc : Nat → ox_K) : ox_K := o_zret
section SJ0_isLatin1_aae02
variable {p : Program} {l : Launch} {e : Env} {R : Room} {s : State} {m : MethodId} {args : Array Value} {below : List Frame} {meth : Method} {c : Code} {g : ox_G} {c0 t0 dp  : Nat} {rc : Nat → ox_K}
set_option maxRecDepth 100000 in
theorem kJ0_isLatin1_aae02_0 (C : ox_C p s m args c g 1 cJ0_isLatin1_aae02 RJ0) (hr : meth.sig.returnType = (some .boolean)) (hlk : meth.locks = false) (hnm : meth.name = "isLatin1") (hR : R.frames = dp ∧ R.locals = 60 * dp) (hrc : ∀ b, ox_S p l e R s m args below meth c g 1 c0 t0 (ox_QM g below args s c0 t0) b (rc b)) : ox_S p l e R s m args below meth c g 1 c0 t0 (ox_QM g below args s c0 t0) 0 (bJ0_isLatin1_aae02_0 rc) := by
  refine s_gsc (pc := 0) C wF_J0_38 dJ0_isLatin1_aae02_0 ?_
  refine s_ifeq (pc := 3) 17 C dJ0_isLatin1_aae02_3 (by decide) (hrc 17) ?_
  refine s_aload_n (pc := 6) C dJ0_isLatin1_aae02_6 rfl ?_
  refine s_sc (pc := 7) C wF_J0_15 dJ0_isLatin1_aae02_7 ?_
  refine s_ifne (pc := 10) 17 C dJ0_isLatin1_aae02_10 (by decide) (hrc 17) ?_
  refine s_iconst (pc := 13) C dJ0_isLatin1_aae02_13 (by decide) ?_
  exact s_goto (pc := 14) 18 C dJ0_isLatin1_aae02_14 (by decide) (hrc 18)
set_option maxRecDepth 100000 in
theorem kJ0_isLatin1_aae02_17 (C : ox_C p s m args c g 1 cJ0_isLatin1_aae02 RJ0) (hr : meth.sig.returnType = (some .boolean)) (hlk : meth.locks = false) (hnm : meth.name = "isLatin1") (hR : R.frames = dp ∧ R.locals = 60 * dp) (hrc : ∀ b, ox_S p l e R s m args below meth c g 1 c0 t0 (ox_QM g below args s c0 t0) b (rc b)) : ox_S p l e R s m args below meth c g 1 c0 t0 (ox_QM g below args s c0 t0) 17 (bJ0_isLatin1_aae02_17 rc) := by
  refine s_iconst (pc := 17) C dJ0_isLatin1_aae02_17 (by decide) ?_
  exact hrc 18
set_option maxRecDepth 100000 in
theorem kJ0_isLatin1_aae02_18 (C : ox_C p s m args c g 1 cJ0_isLatin1_aae02 RJ0) (hr : meth.sig.returnType = (some .boolean)) (hlk : meth.locks = false) (hnm : meth.name = "isLatin1") (hR : R.frames = dp ∧ R.locals = 60 * dp) (hrc : ∀ b, ox_S p l e R s m args below meth c g 1 c0 t0 (ox_QM g below args s c0 t0) b (rc b)) : ox_S p l e R s m args below meth c g 1 c0 t0 (ox_QM g below args s c0 t0) 18 (bJ0_isLatin1_aae02_18 rc) := by
  exact s_zret (pc := 18) C hr (by decide) hlk dJ0_isLatin1_aae02_18
end SJ0_isLatin1_aae02
def bsJ0_isLatin1_aae02 (b : Nat) (rc : Nat → ox_K) : ox_K := if b = 0 then bJ0_isLatin1_aae02_0 rc else if b = 17 then bJ0_isLatin1_aae02_17 rc else if b = 18 then bJ0_isLatin1_aae02_18 rc else ox_no
theorem mJ0_isLatin1_aae02 {dp  : Nat} {f : ox_F} (hf : ∀ as h r, f as h = some r → ox_cs as ≤ 1 ∧ ox_le h r.2 ∧ ∃ n, ox_run (bsJ0_isLatin1_aae02) n 0 (lv_args 0 as) [] h = some r) : ox_Sem yJ0_isLatin1_aae02 cJ0_isLatin1_aae02 1 (some .boolean) dp f := by
  refine ox_meth (bs := bsJ0_isLatin1_aae02) (by decide) hf ?_
  intro p l e R s m args below meth c g c0 t0 C hr hlk hnm hR rc hrc b
  unfold bsJ0_isLatin1_aae02
  refine ox_br (kJ0_isLatin1_aae02_0 C hr hlk hnm hR hrc) ?_
  refine ox_br (kJ0_isLatin1_aae02_17 C hr hlk hnm hR hrc) ?_
  refine ox_br (kJ0_isLatin1_aae02_18 C hr hlk hnm hR hrc) ?_
  exact s_no
theorem dJ0_checkIndex_df160_0 : decode cJ0_checkIndex_df160 0 = .ok (.iload_n 0, 1) := by decide +kernel
theorem dJ0_checkIndex_df160_1 : decode cJ0_checkIndex_df160 1 = .ok (.iload_n 1, 1) := by decide +kernel
theorem dJ0_checkIndex_df160_2 : decode cJ0_checkIndex_df160 2 = .ok (.getstatic 1053, 3) := by decide +kernel
theorem dJ0_checkIndex_df160_5 : decode cJ0_checkIndex_df160 5 = .ok (.invokestatic 1059, 3) := by decide +kernel
theorem dJ0_checkIndex_df160_8 : decode cJ0_checkIndex_df160 8 = .ok (.pop, 1) := by decide +kernel
theorem dJ0_checkIndex_df160_9 : decode cJ0_checkIndex_df160 9 = .ok (.return_, 1) := by decide +kernel
noncomputable def bJ0_checkIndex_df160_0 (f1 : ox_F) (rc : Nat → ox_K) : ox_K := o_il 0 (o_il 1 (o_gq (o_ct f1 3 (o_pop (o_ret)))))
section SJ0_checkIndex_df160
variable {p : Program} {l : Launch} {e : Env} {R : Room} {s : State} {m : MethodId} {args : Array Value} {below : List Frame} {meth : Method} {c : Code} {g : ox_G} {c0 t0 dp d1 : Nat} {rc : Nat → ox_K} {f1 : ox_F}
set_option maxRecDepth 100000 in
theorem kJ0_checkIndex_df160_0 (C : ox_C p s m args c g 2 cJ0_checkIndex_df160 RJ0) (hr : meth.sig.returnType = none) (hlk : meth.locks = false) (hnm : meth.name = "checkIndex") (hR : R.frames = dp ∧ R.locals = 60 * dp) (h1 : ox_Sem yJ3_checkIndex_8e157 cJ3_checkIndex_8e157 3 (some .int) d1 f1) (e1 : d1 + 1 ≤ dp) (hrc : ∀ b, ox_S p l e R s m args below meth c g 2 c0 t0 (ox_QM g below args s c0 t0) b (rc b)) : ox_S p l e R s m args below meth c g 2 c0 t0 (ox_QM g below args s c0 t0) 0 (bJ0_checkIndex_df160_0 f1 rc) := by
  refine s_iload_n (pc := 0) C dJ0_checkIndex_df160_0 rfl ?_
  refine s_iload_n (pc := 1) C dJ0_checkIndex_df160_1 rfl ?_
  refine s_gq (pc := 2) C wF_J0_1053 dJ0_checkIndex_df160_2 ?_
  refine s_ct (pc := 5) C h1 wM_J0_1059 wT_J3_checkIndex_8e157 wN_J3 wC_J3_checkIndex_8e157 (by decide +kernel) (ox_lv hR e1 (by decide)) dJ0_checkIndex_df160_5 ?_
  refine s_pop (pc := 8) C dJ0_checkIndex_df160_8 ?_
  exact s_ret (pc := 9) C hr hlk dJ0_checkIndex_df160_9
end SJ0_checkIndex_df160
noncomputable def bsJ0_checkIndex_df160 (f1 : ox_F) (b : Nat) (rc : Nat → ox_K) : ox_K := if b = 0 then bJ0_checkIndex_df160_0 f1 rc else ox_no
theorem mJ0_checkIndex_df160 {dp d1 : Nat} {f1 f : ox_F} (h1 : ox_Sem yJ3_checkIndex_8e157 cJ3_checkIndex_8e157 3 (some .int) d1 f1) (e1 : d1 + 1 ≤ dp) (hf : ∀ as h r, f as h = some r → ox_cs as ≤ 2 ∧ ox_le h r.2 ∧ ∃ n, ox_run (bsJ0_checkIndex_df160 f1) n 0 (lv_args 0 as) [] h = some r) : ox_Sem yJ0_checkIndex_df160 cJ0_checkIndex_df160 2 none dp f := by
  refine ox_meth (bs := bsJ0_checkIndex_df160 f1) (by decide) hf ?_
  intro p l e R s m args below meth c g c0 t0 C hr hlk hnm hR rc hrc b
  unfold bsJ0_checkIndex_df160
  refine ox_br (kJ0_checkIndex_df160_0 C hr hlk hnm hR h1 e1 hrc) ?_
  exact s_no
