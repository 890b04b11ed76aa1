theorem dX8_init_0 : decode cX8_init 0 = .ok (.aload_n 0, 1) := by decide +kernel
theorem dX8_init_1 : decode cX8_init 1 = .ok (.invokespecial 1, 3) := by decide +kernel
theorem dX8_init_4 : decode cX8_init 4 = .ok (.aload_n 0, 1) := by decide +kernel
theorem dX8_init_5 : decode cX8_init 5 = .ok (.bipush 60, 2) := by decide +kernel
theorem dX8_init_7 : decode cX8_init 7 = .ok (.newarray .int, 2) := by decide +kernel
theorem dX8_init_9 : decode cX8_init 9 = .ok (.putfield 9, 3) := by decide +kernel
theorem dX8_init_12 : decode cX8_init 12 = .ok (.aload_n 0, 1) := by decide +kernel
theorem dX8_init_13 : decode cX8_init 13 = .ok (.iconst 1, 1) := by decide +kernel
theorem dX8_init_14 : decode cX8_init 14 = .ok (.putfield 13, 3) := by decide +kernel
theorem dX8_init_17 : decode cX8_init 17 = .ok (.return_, 1) := by decide +kernel
def bX8_init_0 (rc : Nat → ox_K) : ox_K := o_al 0 (o_obj (o_al 0 (o_ic (60) (o_newa 1 (o_putr 8 0 (o_al 0 (o_ic (1) (o_putz 8 1 (o_ret)))))))))
section SX8_init
variable {p : Program} {l : Launch} {e : Env} {R : Room} {s : State} {m : MethodId} {args : Array Value} {below : List Frame} {meth : Method} {c : Code} {g : ox_G} {c0 t0 dp  : Nat} {rc : Nat → ox_K}
set_option maxRecDepth 100000 in
theorem kX8_init_0 (C : ox_C p s m args c g 1 cX8_init RX8) (hr : meth.sig.returnType = none) (hlk : meth.locks = false) (hnm : meth.name = "<init>") (hR : R.frames = dp ∧ R.locals = 60 * dp) (e0 : 1 ≤ dp) (hrc : ∀ b, ox_S p l e R s m args below meth c g 1 c0 t0 (ox_QM g below args s c0 t0) b (rc b)) : ox_S p l e R s m args below meth c g 1 c0 t0 (ox_QM g below args s c0 t0) 0 (bX8_init_0 rc) := by
  refine s_aload_n (pc := 0) C dX8_init_0 rfl ?_
  refine s_obj (pc := 1) C wM_X8_1 wO1 wO2 (ox_lv1 hR e0) dX8_init_1 ?_
  refine s_aload_n (pc := 4) C dX8_init_4 rfl ?_
  refine s_bipush (pc := 5) C dX8_init_5 (by decide) ?_
  refine s_newa (pc := 7) (ty := .int) C rfl (Or.inl ⟨rfl, rfl⟩) wA_int dX8_init_7 ?_
  refine s_putr (pc := 9) (j := 0) (q := (RX8, TX8, 4)) C rfl (by decide) rfl (Or.inr ⟨rfl, hnm, rfl⟩) wF_X8_9 dX8_init_9 ?_
  refine s_aload_n (pc := 12) C dX8_init_12 rfl ?_
  refine s_iconst (pc := 13) C dX8_init_13 (by decide) ?_
  refine s_putz (pc := 14) (j := 1) (q := (RX8, TX8, 4)) C rfl (by decide) rfl (Or.inl rfl) wF_X8_13 dX8_init_14 ?_
  exact s_ret (pc := 17) C hr hlk dX8_init_17
end SX8_init
def bsX8_init (b : Nat) (rc : Nat → ox_K) : ox_K := if b = 0 then bX8_init_0 rc else ox_no
theorem mX8_init {dp  : Nat} {f : ox_F} (e0 : 1 ≤ dp) (hf : ∀ as h r, f as h = some r → ox_cs as ≤ 1 ∧ ox_le h r.2 ∧ ∃ n, ox_run (bsX8_init) n 0 (lv_args 0 as) [] h = some r) : ox_Sem yX8_init cX8_init 1 none dp f := by
  refine ox_meth (bs := bsX8_init) (by decide) hf ?_
  intro p l e R s m args below meth c g c0 t0 C hr hlk hnm hR rc hrc b
  unfold bsX8_init
  refine ox_br (kX8_init_0 C hr hlk hnm hR e0 hrc) ?_
  exact s_no
theorem dX8_begin_0 : decode cX8_begin 0 = .ok (.aload_n 0, 1) := by decide +kernel
theorem dX8_begin_1 : decode cX8_begin 1 = .ok (.iconst 0, 1) := by decide +kernel
theorem dX8_begin_2 : decode cX8_begin 2 = .ok (.putfield 13, 3) := by decide +kernel
theorem dX8_begin_5 : decode cX8_begin 5 = .ok (.aload_n 0, 1) := by decide +kernel
theorem dX8_begin_6 : decode cX8_begin 6 = .ok (.iload_n 1, 1) := by decide +kernel
theorem dX8_begin_7 : decode cX8_begin 7 = .ok (.putfield 17, 3) := by decide +kernel
theorem dX8_begin_10 : decode cX8_begin 10 = .ok (.aload_n 0, 1) := by decide +kernel
theorem dX8_begin_11 : decode cX8_begin 11 = .ok (.iload_n 2, 1) := by decide +kernel
theorem dX8_begin_12 : decode cX8_begin 12 = .ok (.putfield 21, 3) := by decide +kernel
theorem dX8_begin_15 : decode cX8_begin 15 = .ok (.iconst 0, 1) := by decide +kernel
theorem dX8_begin_16 : decode cX8_begin 16 = .ok (.istore_n 3, 1) := by decide +kernel
theorem dX8_begin_17 : decode cX8_begin 17 = .ok (.iload_n 3, 1) := by decide +kernel
theorem dX8_begin_18 : decode cX8_begin 18 = .ok (.iload_n 2, 1) := by decide +kernel
theorem dX8_begin_19 : decode cX8_begin 19 = .ok (.if_icmp .ge 22, 3) := by decide +kernel
theorem dX8_begin_22 : decode cX8_begin 22 = .ok (.iload_n 3, 1) := by decide +kernel
theorem dX8_begin_23 : decode cX8_begin 23 = .ok (.bipush 60, 2) := by decide +kernel
theorem dX8_begin_25 : decode cX8_begin 25 = .ok (.if_icmp .ge 16, 3) := by decide +kernel
theorem dX8_begin_28 : decode cX8_begin 28 = .ok (.aload_n 0, 1) := by decide +kernel
theorem dX8_begin_29 : decode cX8_begin 29 = .ok (.getfield 9, 3) := by decide +kernel
theorem dX8_begin_32 : decode cX8_begin 32 = .ok (.iload_n 3, 1) := by decide +kernel
theorem dX8_begin_33 : decode cX8_begin 33 = .ok (.iconst 0, 1) := by decide +kernel
theorem dX8_begin_34 : decode cX8_begin 34 = .ok (.iastore, 1) := by decide +kernel
theorem dX8_begin_35 : decode cX8_begin 35 = .ok (.iinc 3 1, 3) := by decide +kernel
theorem dX8_begin_38 : decode cX8_begin 38 = .ok (.goto (-21), 3) := by decide +kernel
theorem dX8_begin_41 : decode cX8_begin 41 = .ok (.return_, 1) := by decide +kernel
def bX8_begin_0 (rc : Nat → ox_K) : ox_K := o_al 0 (o_ic (0) (o_putz 8 1 (o_al 0 (o_il 1 (o_puti 8 2 (o_al 0 (o_il 2 (o_puti 8 3 (o_ic (0) (o_is 3 (rc 17)))))))))))
def bX8_begin_17 (rc : Nat → ox_K) : ox_K := o_keep [0, 2, 3] (o_il 3 (o_il 2 (o_icge (rc 41) (o_il 3 (o_ic (60) (o_icge (rc 41) (o_al 0 (o_getr 8 0 (o_il 3 (o_ic (0) (o_iast (o_inc 3 (1) (rc 17)))))))))))))
def bX8_begin_41 (rc : Nat → ox_K) : ox_K := o_ret
section SX8_begin
variable {p : Program} {l : Launch} {e : Env} {R : Room} {s : State} {m : MethodId} {args : Array Value} {below : List Frame} {meth : Method} {c : Code} {g : ox_G} {c0 t0 dp  : Nat} {rc : Nat → ox_K}
set_option maxRecDepth 100000 in
theorem kX8_begin_0 (C : ox_C p s m args c g 4 cX8_begin RX8) (hr : meth.sig.returnType = none) (hlk : meth.locks = false) (hnm : meth.name = "begin") (hR : R.frames = dp ∧ R.locals = 60 * dp) (hrc : ∀ b, ox_S p l e R s m args below meth c g 4 c0 t0 (ox_QM g below args s c0 t0) b (rc b)) : ox_S p l e R s m args below meth c g 4 c0 t0 (ox_QM g below args s c0 t0) 0 (bX8_begin_0 rc) := by
  refine s_aload_n (pc := 0) C dX8_begin_0 rfl ?_
  refine s_iconst (pc := 1) C dX8_begin_1 (by decide) ?_
  refine s_putz (pc := 2) (j := 1) (q := (RX8, TX8, 4)) C rfl (by decide) rfl (Or.inl rfl) wF_X8_13 dX8_begin_2 ?_
  refine s_aload_n (pc := 5) C dX8_begin_5 rfl ?_
  refine s_iload_n (pc := 6) C dX8_begin_6 rfl ?_
  refine s_puti (pc := 7) (j := 2) (q := (RX8, TX8, 4)) C rfl (by decide) rfl (Or.inl rfl) wF_X8_17 dX8_begin_7 ?_
  refine s_aload_n (pc := 10) C dX8_begin_10 rfl ?_
  refine s_iload_n (pc := 11) C dX8_begin_11 rfl ?_
  refine s_puti (pc := 12) (j := 3) (q := (RX8, TX8, 4)) C rfl (by decide) rfl (Or.inl rfl) wF_X8_21 dX8_begin_12 ?_
  refine s_iconst (pc := 15) C dX8_begin_15 (by decide) ?_
  refine s_istore_n (pc := 16) C dX8_begin_16 rfl (by decide) ?_
  exact hrc 17
set_option maxRecDepth 100000 in
theorem kX8_begin_17 (C : ox_C p s m args c g 4 cX8_begin RX8) (hr : meth.sig.returnType = none) (hlk : meth.locks = false) (hnm : meth.name = "begin") (hR : R.frames = dp ∧ R.locals = 60 * dp) (hrc : ∀ b, ox_S p l e R s m args below meth c g 4 c0 t0 (ox_QM g below args s c0 t0) b (rc b)) : ox_S p l e R s m args below meth c g 4 c0 t0 (ox_QM g below args s c0 t0) 17 (bX8_begin_17 rc) := by
  refine s_keep ?_
  refine s_iload_n (pc := 17) C dX8_begin_17 rfl ?_
  refine s_iload_n (pc := 18) C dX8_begin_18 rfl ?_
  refine s_icmpge (pc := 19) 41 C dX8_begin_19 (by decide) (hrc 41) ?_
  refine s_iload_n (pc := 22) C dX8_begin_22 rfl ?_
  refine s_bipush (pc := 23) C dX8_begin_23 (by decide) ?_
  refine s_icmpge (pc := 25) 41 C dX8_begin_25 (by decide) (hrc 41) ?_
  refine s_aload_n (pc := 28) C dX8_begin_28 rfl ?_
  refine s_getr (pc := 29) (j := 0) (q := (RX8, TX8, 4)) C rfl (by decide) rfl wF_X8_9 dX8_begin_29 ?_
  refine s_iload_n (pc := 32) C dX8_begin_32 rfl ?_
  refine s_iconst (pc := 33) C dX8_begin_33 (by decide) ?_
  refine s_iast (pc := 34) C dX8_begin_34 ?_
  refine s_iinc (pc := 35) C dX8_begin_35 (by decide) (by decide) ?_
  exact s_goto (pc := 38) 17 C dX8_begin_38 (by decide) (hrc 17)
set_option maxRecDepth 100000 in
theorem kX8_begin_41 (C : ox_C p s m args c g 4 cX8_begin RX8) (hr : meth.sig.returnType = none) (hlk : meth.locks = false) (hnm : meth.name = "begin") (hR : R.frames = dp ∧ R.locals = 60 * dp) (hrc : ∀ b, ox_S p l e R s m args below meth c g 4 c0 t0 (ox_QM g below args s c0 t0) b (rc b)) : ox_S p l e R s m args below meth c g 4 c0 t0 (ox_QM g below args s c0 t0) 41 (bX8_begin_41 rc) := by
  exact s_ret (pc := 41) C hr hlk dX8_begin_41
end SX8_begin
def bsX8_begin (b : Nat) (rc : Nat → ox_K) : ox_K := if b = 0 then bX8_begin_0 rc else if b = 17 then bX8_begin_17 rc else if b = 41 then bX8_begin_41 rc else ox_no
theorem mX8_begin {dp  : Nat} {f : ox_F} (hf : ∀ as h r, f as h = some r → ox_cs as ≤ 4 ∧ ox_le h r.2 ∧ ∃ n, ox_run (bsX8_begin) n 0 (lv_args 0 as) [] h = some r) : ox_Sem yX8_begin cX8_begin 4 none dp f := by
  refine ox_meth (bs := bsX8_begin) (by decide) hf ?_
  intro p l e R s m args below meth c g c0 t0 C hr hlk hnm hR rc hrc b
  unfold bsX8_begin
  refine ox_br (kX8_begin_0 C hr hlk hnm hR hrc) ?_
  refine ox_br (kX8_begin_17 C hr hlk hnm hR hrc) ?_
  refine ox_br (kX8_begin_41 C hr hlk hnm hR hrc) ?_
  exact s_no
theorem dX8_has_0 : decode cX8_has 0 = .ok (.iload_n 1, 1) := by decide +kernel
theorem dX8_has_1 : decode cX8_has 1 = .ok (.ifCond .lt 29, 3) := by decide +kernel
theorem dX8_has_4 : decode cX8_has 4 = .ok (.iload_n 1, 1) := by decide +kernel
theorem dX8_has_5 : decode cX8_has 5 = .ok (.aload_n 0, 1) := by decide +kernel
theorem dX8_has_6 : decode cX8_has 6 = .ok (.getfield 21, 3) := by decide +kernel
theorem dX8_has_9 : decode cX8_has 9 = .ok (.if_icmp .gt 21, 3) := by decide +kernel
theorem dX8_has_12 : decode cX8_has 12 = .ok (.iload_n 2, 1) := by decide +kernel
theorem dX8_has_13 : decode cX8_has 13 = .ok (.ifCond .lt 17, 3) := by decide +kernel
theorem dX8_has_16 : decode cX8_has 16 = .ok (.iload_n 2, 1) := by decide +kernel
theorem dX8_has_17 : decode cX8_has 17 = .ok (.aload_n 0, 1) := by decide +kernel
theorem dX8_has_18 : decode cX8_has 18 = .ok (.getfield 21, 3) := by decide +kernel
theorem dX8_has_21 : decode cX8_has 21 = .ok (.iload_n 1, 1) := by decide +kernel
theorem dX8_has_22 : decode cX8_has 22 = .ok (.isub, 1) := by decide +kernel
theorem dX8_has_23 : decode cX8_has 23 = .ok (.if_icmp .gt 7, 3) := by decide +kernel
theorem dX8_has_26 : decode cX8_has 26 = .ok (.iconst 1, 1) := by decide +kernel
theorem dX8_has_27 : decode cX8_has 27 = .ok (.goto 4, 3) := by decide +kernel
theorem dX8_has_30 : decode cX8_has 30 = .ok (.iconst 0, 1) := by decide +kernel
theorem dX8_has_31 : decode cX8_has 31 = .ok (.ireturn, 1) := by decide +kernel
def bX8_has_0 (rc : Nat → ox_K) : ox_K := o_il 1 (o_iflt (rc 30) (o_il 1 (o_al 0 (o_geti 8 3 (o_icgt (rc 30) (o_il 2 (o_iflt (rc 30) (o_il 2 (o_al 0 (o_geti 8 3 (o_il 1 (o_isub (o_icgt (rc 30) (o_ic (1) (rc 31)))))))))))))))
def bX8_has_30 (rc : Nat → ox_K) : ox_K := o_ic (0) (rc 31)
def bX8_has_31 (rc : Nat → ox_K) : ox_K := o_zret
section SX8_has
variable {p : Program} {l : Launch} {e : Env} {R : Room} {s : State} {m : MethodId} {args : Array Value} {below : List Frame} {meth : Method} {c : Code} {g : ox_G} {c0 t0 dp  : Nat} {rc : Nat → ox_K}
set_option maxRecDepth 100000 in
theorem kX8_has_0 (C : ox_C p s m args c g 3 cX8_has RX8) (hr : meth.sig.returnType = (some .boolean)) (hlk : meth.locks = false) (hnm : meth.name = "has") (hR : R.frames = dp ∧ R.locals = 60 * dp) (hrc : ∀ b, ox_S p l e R s m args below meth c g 3 c0 t0 (ox_QM g below args s c0 t0) b (rc b)) : ox_S p l e R s m args below meth c g 3 c0 t0 (ox_QM g below args s c0 t0) 0 (bX8_has_0 rc) := by
  refine s_iload_n (pc := 0) C dX8_has_0 rfl ?_
  refine s_iflt (pc := 1) 30 C dX8_has_1 (by decide) (hrc 30) ?_
  refine s_iload_n (pc := 4) C dX8_has_4 rfl ?_
  refine s_aload_n (pc := 5) C dX8_has_5 rfl ?_
  refine s_geti (pc := 6) (j := 3) (q := (RX8, TX8, 4)) C rfl (by decide) rfl wF_X8_21 dX8_has_6 ?_
  refine s_icmpgt (pc := 9) 30 C dX8_has_9 (by decide) (hrc 30) ?_
  refine s_iload_n (pc := 12) C dX8_has_12 rfl ?_
  refine s_iflt (pc := 13) 30 C dX8_has_13 (by decide) (hrc 30) ?_
  refine s_iload_n (pc := 16) C dX8_has_16 rfl ?_
  refine s_aload_n (pc := 17) C dX8_has_17 rfl ?_
  refine s_geti (pc := 18) (j := 3) (q := (RX8, TX8, 4)) C rfl (by decide) rfl wF_X8_21 dX8_has_18 ?_
  refine s_iload_n (pc := 21) C dX8_has_21 rfl ?_
  refine s_isub (pc := 22) C dX8_has_22 ?_
  refine s_icmpgt (pc := 23) 30 C dX8_has_23 (by decide) (hrc 30) ?_
  refine s_iconst (pc := 26) C dX8_has_26 (by decide) ?_
  exact s_goto (pc := 27) 31 C dX8_has_27 (by decide) (hrc 31)
set_option maxRecDepth 100000 in
theorem kX8_has_30 (C : ox_C p s m args c g 3 cX8_has RX8) (hr : meth.sig.returnType = (some .boolean)) (hlk : meth.locks = false) (hnm : meth.name = "has") (hR : R.frames = dp ∧ R.locals = 60 * dp) (hrc : ∀ b, ox_S p l e R s m args below meth c g 3 c0 t0 (ox_QM g below args s c0 t0) b (rc b)) : ox_S p l e R s m args below meth c g 3 c0 t0 (ox_QM g below args s c0 t0) 30 (bX8_has_30 rc) := by
  refine s_iconst (pc := 30) C dX8_has_30 (by decide) ?_
  exact hrc 31
set_option maxRecDepth 100000 in
theorem kX8_has_31 (C : ox_C p s m args c g 3 cX8_has RX8) (hr : meth.sig.returnType = (some .boolean)) (hlk : meth.locks = false) (hnm : meth.name = "has") (hR : R.frames = dp ∧ R.locals = 60 * dp) (hrc : ∀ b, ox_S p l e R s m args below meth c g 3 c0 t0 (ox_QM g below args s c0 t0) b (rc b)) : ox_S p l e R s m args below meth c g 3 c0 t0 (ox_QM g below args s c0 t0) 31 (bX8_has_31 rc) := by
  exact s_zret (pc := 31) C hr (by decide) hlk dX8_has_31
end SX8_has
def bsX8_has (b : Nat) (rc : Nat → ox_K) : ox_K := if b = 0 then bX8_has_0 rc else if b = 30 then bX8_has_30 rc else if b = 31 then bX8_has_31 rc else ox_no
theorem mX8_has {dp  : Nat} {f : ox_F} (hf : ∀ as h r, f as h = some r → ox_cs as ≤ 3 ∧ ox_le h r.2 ∧ ∃ n, ox_run (bsX8_has) n 0 (lv_args 0 as) [] h = some r) : ox_Sem yX8_has cX8_has 3 (some .boolean) dp f := by
  refine ox_meth (bs := bsX8_has) (by decide) hf ?_
  intro p l e R s m args below meth c g c0 t0 C hr hlk hnm hR rc hrc b
  unfold bsX8_has
  refine ox_br (kX8_has_0 C hr hlk hnm hR hrc) ?_
  refine ox_br (kX8_has_30 C hr hlk hnm hR hrc) ?_
  refine ox_br (kX8_has_31 C hr hlk hnm hR hrc) ?_
  exact s_no
theorem dX8_narrowed_0 : decode cX8_narrowed 0 = .ok (.aload_n 0, 1) := by decide +kernel
theorem dX8_narrowed_1 : decode cX8_narrowed 1 = .ok (.getfield 17, 3) := by decide +kernel
theorem dX8_narrowed_4 : decode cX8_narrowed 4 = .ok (.ifCond .ne 6, 3) := by decide +kernel
theorem dX8_narrowed_7 : decode cX8_narrowed 7 = .ok (.iload_n 1, 1) := by decide +kernel
theorem dX8_narrowed_8 : decode cX8_narrowed 8 = .ok (.i2b, 1) := by decide +kernel
theorem dX8_narrowed_9 : decode cX8_narrowed 9 = .ok (.ireturn, 1) := by decide +kernel
theorem dX8_narrowed_10 : decode cX8_narrowed 10 = .ok (.aload_n 0, 1) := by decide +kernel
theorem dX8_narrowed_11 : decode cX8_narrowed 11 = .ok (.getfield 17, 3) := by decide +kernel
theorem dX8_narrowed_14 : decode cX8_narrowed 14 = .ok (.iconst 1, 1) := by decide +kernel
theorem dX8_narrowed_15 : decode cX8_narrowed 15 = .ok (.if_icmp .ne 8, 3) := by decide +kernel
theorem dX8_narrowed_18 : decode cX8_narrowed 18 = .ok (.iload_n 1, 1) := by decide +kernel
theorem dX8_narrowed_19 : decode cX8_narrowed 19 = .ok (.i2s, 1) := by decide +kernel
theorem dX8_narrowed_20 : decode cX8_narrowed 20 = .ok (.goto 4, 3) := by decide +kernel
theorem dX8_narrowed_23 : decode cX8_narrowed 23 = .ok (.iload_n 1, 1) := by decide +kernel
theorem dX8_narrowed_24 : decode cX8_narrowed 24 = .ok (.ireturn, 1) := by decide +kernel
def bX8_narrowed_0 (rc : Nat → ox_K) : ox_K := o_al 0 (o_geti 8 2 (o_ifne (rc 10) (o_il 1 (o_i2b (o_iret)))))
def bX8_narrowed_10 (rc : Nat → ox_K) : ox_K := o_al 0 (o_geti 8 2 (o_ic (1) (o_icne (rc 23) (o_il 1 (o_i2s (rc 24))))))
def bX8_narrowed_23 (rc : Nat → ox_K) : ox_K := o_il 1 (rc 24)
def bX8_narrowed_24 (rc : Nat → ox_K) : ox_K := o_iret
section SX8_narrowed
variable {p : Program} {l : Launch} {e : Env} {R : Room} {s : State} {m : MethodId} {args : Array Value} {below : List Frame} {meth : Method} {c : Code} {g : ox_G} {c0 t0 dp  : Nat} {rc : Nat → ox_K}
set_option maxRecDepth 100000 in
theorem kX8_narrowed_0 (C : ox_C p s m args c g 2 cX8_narrowed RX8) (hr : meth.sig.returnType = (some .int)) (hlk : meth.locks = false) (hnm : meth.name = "narrowed") (hR : R.frames = dp ∧ R.locals = 60 * dp) (hrc : ∀ b, ox_S p l e R s m args below meth c g 2 c0 t0 (ox_QM g below args s c0 t0) b (rc b)) : ox_S p l e R s m args below meth c g 2 c0 t0 (ox_QM g below args s c0 t0) 0 (bX8_narrowed_0 rc) := by
  refine s_aload_n (pc := 0) C dX8_narrowed_0 rfl ?_
  refine s_geti (pc := 1) (j := 2) (q := (RX8, TX8, 4)) C rfl (by decide) rfl wF_X8_17 dX8_narrowed_1 ?_
  refine s_ifne (pc := 4) 10 C dX8_narrowed_4 (by decide) (hrc 10) ?_
  refine s_iload_n (pc := 7) C dX8_narrowed_7 rfl ?_
  refine s_i2b (pc := 8) C dX8_narrowed_8 ?_
  exact s_iret (pc := 9) C hr hlk dX8_narrowed_9
set_option maxRecDepth 100000 in
theorem kX8_narrowed_10 (C : ox_C p s m args c g 2 cX8_narrowed RX8) (hr : meth.sig.returnType = (some .int)) (hlk : meth.locks = false) (hnm : meth.name = "narrowed") (hR : R.frames = dp ∧ R.locals = 60 * dp) (hrc : ∀ b, ox_S p l e R s m args below meth c g 2 c0 t0 (ox_QM g below args s c0 t0) b (rc b)) : ox_S p l e R s m args below meth c g 2 c0 t0 (ox_QM g below args s c0 t0) 10 (bX8_narrowed_10 rc) := by
  refine s_aload_n (pc := 10) C dX8_narrowed_10 rfl ?_
  refine s_geti (pc := 11) (j := 2) (q := (RX8, TX8, 4)) C rfl (by decide) rfl wF_X8_17 dX8_narrowed_11 ?_
  refine s_iconst (pc := 14) C dX8_narrowed_14 (by decide) ?_
  refine s_icmpne (pc := 15) 23 C dX8_narrowed_15 (by decide) (hrc 23) ?_
  refine s_iload_n (pc := 18) C dX8_narrowed_18 rfl ?_
  refine s_i2s (pc := 19) C dX8_narrowed_19 ?_
  exact s_goto (pc := 20) 24 C dX8_narrowed_20 (by decide) (hrc 24)
set_option maxRecDepth 100000 in
theorem kX8_narrowed_23 (C : ox_C p s m args c g 2 cX8_narrowed RX8) (hr : meth.sig.returnType = (some .int)) (hlk : meth.locks = false) (hnm : meth.name = "narrowed") (hR : R.frames = dp ∧ R.locals = 60 * dp) (hrc : ∀ b, ox_S p l e R s m args below meth c g 2 c0 t0 (ox_QM g below args s c0 t0) b (rc b)) : ox_S p l e R s m args below meth c g 2 c0 t0 (ox_QM g below args s c0 t0) 23 (bX8_narrowed_23 rc) := by
  refine s_iload_n (pc := 23) C dX8_narrowed_23 rfl ?_
  exact hrc 24
set_option maxRecDepth 100000 in
theorem kX8_narrowed_24 (C : ox_C p s m args c g 2 cX8_narrowed RX8) (hr : meth.sig.returnType = (some .int)) (hlk : meth.locks = false) (hnm : meth.name = "narrowed") (hR : R.frames = dp ∧ R.locals = 60 * dp) (hrc : ∀ b, ox_S p l e R s m args below meth c g 2 c0 t0 (ox_QM g below args s c0 t0) b (rc b)) : ox_S p l e R s m args below meth c g 2 c0 t0 (ox_QM g below args s c0 t0) 24 (bX8_narrowed_24 rc) := by
  exact s_iret (pc := 24) C hr hlk dX8_narrowed_24
end SX8_narrowed
def bsX8_narrowed (b : Nat) (rc : Nat → ox_K) : ox_K := if b = 0 then bX8_narrowed_0 rc else if b = 10 then bX8_narrowed_10 rc else if b = 23 then bX8_narrowed_23 rc else if b = 24 then bX8_narrowed_24 rc else ox_no
theorem mX8_narrowed {dp  : Nat} {f : ox_F} (hf : ∀ as h r, f as h = some r → ox_cs as ≤ 2 ∧ ox_le h r.2 ∧ ∃ n, ox_run (bsX8_narrowed) n 0 (lv_args 0 as) [] h = some r) : ox_Sem yX8_narrowed cX8_narrowed 2 (some .int) dp f := by
  refine ox_meth (bs := bsX8_narrowed) (by decide) hf ?_
  intro p l e R s m args below meth c g c0 t0 C hr hlk hnm hR rc hrc b
  unfold bsX8_narrowed
  refine ox_br (kX8_narrowed_0 C hr hlk hnm hR hrc) ?_
  refine ox_br (kX8_narrowed_10 C hr hlk hnm hR hrc) ?_
  refine ox_br (kX8_narrowed_23 C hr hlk hnm hR hrc) ?_
  refine ox_br (kX8_narrowed_24 C hr hlk hnm hR hrc) ?_
  exact s_no
