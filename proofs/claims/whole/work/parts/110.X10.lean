theorem dX10_init_0 : decode cX10_init 0 = .ok (.aload_n 0, 1) := by decide +kernel
theorem dX10_init_1 : decode cX10_init 1 = .ok (.invokespecial 1, 3) := by decide +kernel
theorem dX10_init_4 : decode cX10_init 4 = .ok (.aload_n 0, 1) := by decide +kernel
theorem dX10_init_5 : decode cX10_init 5 = .ok (.sipush 400, 3) := by decide +kernel
theorem dX10_init_8 : decode cX10_init 8 = .ok (.newarray .byte, 2) := by decide +kernel
theorem dX10_init_10 : decode cX10_init 10 = .ok (.putfield 9, 3) := by decide +kernel
theorem dX10_init_13 : decode cX10_init 13 = .ok (.return_, 1) := by decide +kernel
def bX10_init_0 (rc : Nat → ox_K) : ox_K := o_al 0 (o_obj (o_al 0 (o_ic (400) (o_newa 2 (o_putr 10 0 (o_ret))))))
section SX10_init
variable {p : Program} {l : Launch} {e : Env} {R : Room} {s : State} {m : MethodId} {args : Array Value} {below : List Frame} {meth : Method} {c : Code} {g : ox_G} {c0 t0 dp  : Nat} {rc : Nat → ox_K}
set_option maxRecDepth 100000 in
theorem kX10_init_0 (C : ox_C p s m args c g 1 cX10_init RX10) (hr : meth.sig.returnType = none) (hlk : meth.locks = false) (hnm : meth.name = "<init>") (hR : R.frames = dp ∧ R.locals = 60 * dp) (e0 : 1 ≤ dp) (hrc : ∀ b, ox_S p l e R s m args below meth c g 1 c0 t0 (ox_QM g below args s c0 t0) b (rc b)) : ox_S p l e R s m args below meth c g 1 c0 t0 (ox_QM g below args s c0 t0) 0 (bX10_init_0 rc) := by
  refine s_aload_n (pc := 0) C dX10_init_0 rfl ?_
  refine s_obj (pc := 1) C wM_X10_1 wO1 wO2 (ox_lv1 hR e0) dX10_init_1 ?_
  refine s_aload_n (pc := 4) C dX10_init_4 rfl ?_
  refine s_sipush (pc := 5) C dX10_init_5 (by decide) ?_
  refine s_newa (pc := 8) (ty := .byte) C rfl (Or.inr (Or.inl ⟨rfl, rfl⟩)) wA_byte dX10_init_8 ?_
  refine s_putr (pc := 10) (j := 0) (q := (RX10, TX10, 6)) C rfl (by decide) rfl (Or.inr ⟨rfl, hnm, rfl⟩) wF_X10_9 dX10_init_10 ?_
  exact s_ret (pc := 13) C hr hlk dX10_init_13
end SX10_init
def bsX10_init (b : Nat) (rc : Nat → ox_K) : ox_K := if b = 0 then bX10_init_0 rc else ox_no
theorem mX10_init {dp  : Nat} {f : ox_F} (e0 : 1 ≤ dp) (hf : ∀ as h r, f as h = some r → ox_cs as ≤ 1 ∧ ox_le h r.2 ∧ ∃ n, ox_run (bsX10_init) n 0 (lv_args 0 as) [] h = some r) : ox_Sem yX10_init cX10_init 1 none dp f := by
  refine ox_meth (bs := bsX10_init) (by decide) hf ?_
  intro p l e R s m args below meth c g c0 t0 C hr hlk hnm hR rc hrc b
  unfold bsX10_init
  refine ox_br (kX10_init_0 C hr hlk hnm hR e0 hrc) ?_
  exact s_no
theorem dX10_hasRoom_0 : decode cX10_hasRoom 0 = .ok (.iload_n 1, 1) := by decide +kernel
theorem dX10_hasRoom_1 : decode cX10_hasRoom 1 = .ok (.sipush 400, 3) := by decide +kernel
theorem dX10_hasRoom_4 : decode cX10_hasRoom 4 = .ok (.aload_n 0, 1) := by decide +kernel
theorem dX10_hasRoom_5 : decode cX10_hasRoom 5 = .ok (.getfield 13, 3) := by decide +kernel
theorem dX10_hasRoom_8 : decode cX10_hasRoom 8 = .ok (.isub, 1) := by decide +kernel
theorem dX10_hasRoom_9 : decode cX10_hasRoom 9 = .ok (.if_icmp .gt 7, 3) := by decide +kernel
theorem dX10_hasRoom_12 : decode cX10_hasRoom 12 = .ok (.iconst 1, 1) := by decide +kernel
theorem dX10_hasRoom_13 : decode cX10_hasRoom 13 = .ok (.goto 4, 3) := by decide +kernel
theorem dX10_hasRoom_16 : decode cX10_hasRoom 16 = .ok (.iconst 0, 1) := by decide +kernel
theorem dX10_hasRoom_17 : decode cX10_hasRoom 17 = .ok (.ireturn, 1) := by decide +kernel
def bX10_hasRoom_0 (rc : Nat → ox_K) : ox_K := o_il 1 (o_ic (400) (o_al 0 (o_geti 10 1 (o_isub (o_icgt (rc 16) (o_ic (1) (rc 17)))))))
def bX10_hasRoom_16 (rc : Nat → ox_K) : ox_K := o_ic (0) (rc 17)
def bX10_hasRoom_17 (rc : Nat → ox_K) : ox_K := o_zret
section SX10_hasRoom
variable {p : Program} {l : Launch} {e : Env} {R : Room} {s : State} {m : MethodId} {args : Array Value} {below : List Frame} {meth : Method} {c : Code} {g : ox_G} {c0 t0 dp  : Nat} {rc : Nat → ox_K}
set_option maxRecDepth 100000 in
theorem kX10_hasRoom_0 (C : ox_C p s m args c g 2 cX10_hasRoom RX10) (hr : meth.sig.returnType = (some .boolean)) (hlk : meth.locks = false) (hnm : meth.name = "hasRoom") (hR : R.frames = dp ∧ R.locals = 60 * dp) (hrc : ∀ b, ox_S p l e R s m args below meth c g 2 c0 t0 (ox_QM g below args s c0 t0) b (rc b)) : ox_S p l e R s m args below meth c g 2 c0 t0 (ox_QM g below args s c0 t0) 0 (bX10_hasRoom_0 rc) := by
  refine s_iload_n (pc := 0) C dX10_hasRoom_0 rfl ?_
  refine s_sipush (pc := 1) C dX10_hasRoom_1 (by decide) ?_
  refine s_aload_n (pc := 4) C dX10_hasRoom_4 rfl ?_
  refine s_geti (pc := 5) (j := 1) (q := (RX10, TX10, 6)) C rfl (by decide) rfl wF_X10_13 dX10_hasRoom_5 ?_
  refine s_isub (pc := 8) C dX10_hasRoom_8 ?_
  refine s_icmpgt (pc := 9) 16 C dX10_hasRoom_9 (by decide) (hrc 16) ?_
  refine s_iconst (pc := 12) C dX10_hasRoom_12 (by decide) ?_
  exact s_goto (pc := 13) 17 C dX10_hasRoom_13 (by decide) (hrc 17)
set_option maxRecDepth 100000 in
theorem kX10_hasRoom_16 (C : ox_C p s m args c g 2 cX10_hasRoom RX10) (hr : meth.sig.returnType = (some .boolean)) (hlk : meth.locks = false) (hnm : meth.name = "hasRoom") (hR : R.frames = dp ∧ R.locals = 60 * dp) (hrc : ∀ b, ox_S p l e R s m args below meth c g 2 c0 t0 (ox_QM g below args s c0 t0) b (rc b)) : ox_S p l e R s m args below meth c g 2 c0 t0 (ox_QM g below args s c0 t0) 16 (bX10_hasRoom_16 rc) := by
  refine s_iconst (pc := 16) C dX10_hasRoom_16 (by decide) ?_
  exact hrc 17
set_option maxRecDepth 100000 in
theorem kX10_hasRoom_17 (C : ox_C p s m args c g 2 cX10_hasRoom RX10) (hr : meth.sig.returnType = (some .boolean)) (hlk : meth.locks = false) (hnm : meth.name = "hasRoom") (hR : R.frames = dp ∧ R.locals = 60 * dp) (hrc : ∀ b, ox_S p l e R s m args below meth c g 2 c0 t0 (ox_QM g below args s c0 t0) b (rc b)) : ox_S p l e R s m args below meth c g 2 c0 t0 (ox_QM g below args s c0 t0) 17 (bX10_hasRoom_17 rc) := by
  exact s_zret (pc := 17) C hr (by decide) hlk dX10_hasRoom_17
end SX10_hasRoom
def bsX10_hasRoom (b : Nat) (rc : Nat → ox_K) : ox_K := if b = 0 then bX10_hasRoom_0 rc else if b = 16 then bX10_hasRoom_16 rc else if b = 17 then bX10_hasRoom_17 rc else ox_no
theorem mX10_hasRoom {dp  : Nat} {f : ox_F} (hf : ∀ as h r, f as h = some r → ox_cs as ≤ 2 ∧ ox_le h r.2 ∧ ∃ n, ox_run (bsX10_hasRoom) n 0 (lv_args 0 as) [] h = some r) : ox_Sem yX10_hasRoom cX10_hasRoom 2 (some .boolean) dp f := by
  refine ox_meth (bs := bsX10_hasRoom) (by decide) hf ?_
  intro p l e R s m args below meth c g c0 t0 C hr hlk hnm hR rc hrc b
  unfold bsX10_hasRoom
  refine ox_br (kX10_hasRoom_0 C hr hlk hnm hR hrc) ?_
  refine ox_br (kX10_hasRoom_16 C hr hlk hnm hR hrc) ?_
  refine ox_br (kX10_hasRoom_17 C hr hlk hnm hR hrc) ?_
  exact s_no
theorem dX10_append_0 : decode cX10_append 0 = .ok (.aload_n 0, 1) := by decide +kernel
theorem dX10_append_1 : decode cX10_append 1 = .ok (.getfield 13, 3) := by decide +kernel
theorem dX10_append_4 : decode cX10_append 4 = .ok (.sipush 400, 3) := by decide +kernel
theorem dX10_append_7 : decode cX10_append 7 = .ok (.if_icmp .ge 23, 3) := by decide +kernel
theorem dX10_append_10 : decode cX10_append 10 = .ok (.aload_n 0, 1) := by decide +kernel
theorem dX10_append_11 : decode cX10_append 11 = .ok (.getfield 9, 3) := by decide +kernel
theorem dX10_append_14 : decode cX10_append 14 = .ok (.aload_n 0, 1) := by decide +kernel
theorem dX10_append_15 : decode cX10_append 15 = .ok (.getfield 13, 3) := by decide +kernel
theorem dX10_append_18 : decode cX10_append 18 = .ok (.iload_n 1, 1) := by decide +kernel
theorem dX10_append_19 : decode cX10_append 19 = .ok (.bastore, 1) := by decide +kernel
theorem dX10_append_20 : decode cX10_append 20 = .ok (.aload_n 0, 1) := by decide +kernel
theorem dX10_append_21 : decode cX10_append 21 = .ok (.dup, 1) := by decide +kernel
theorem dX10_append_22 : decode cX10_append 22 = .ok (.getfield 13, 3) := by decide +kernel
theorem dX10_append_25 : decode cX10_append 25 = .ok (.iconst 1, 1) := by decide +kernel
theorem dX10_append_26 : decode cX10_append 26 = .ok (.iadd, 1) := by decide +kernel
theorem dX10_append_27 : decode cX10_append 27 = .ok (.putfield 13, 3) := by decide +kernel
theorem dX10_append_30 : decode cX10_append 30 = .ok (.return_, 1) := by decide +kernel
def bX10_append_0 (rc : Nat → ox_K) : ox_K := o_al 0 (o_geti 10 1 (o_ic (400) (o_icge (rc 30) (o_al 0 (o_getr 10 0 (o_al 0 (o_geti 10 1 (o_il 1 (o_bast (o_al 0 (o_dup (o_geti 10 1 (o_ic (1) (o_iadd (o_puti 10 1 (rc 30))))))))))))))))
def bX10_append_30 (rc : Nat → ox_K) : ox_K := o_ret
section SX10_append
variable {p : Program} {l : Launch} {e : Env} {R : Room} {s : State} {m : MethodId} {args : Array Value} {below : List Frame} {meth : Method} {c : Code} {g : ox_G} {c0 t0 dp  : Nat} {rc : Nat → ox_K}
set_option maxRecDepth 100000 in
theorem kX10_append_0 (C : ox_C p s m args c g 2 cX10_append RX10) (hr : meth.sig.returnType = none) (hlk : meth.locks = false) (hnm : meth.name = "append") (hR : R.frames = dp ∧ R.locals = 60 * dp) (hrc : ∀ b, ox_S p l e R s m args below meth c g 2 c0 t0 (ox_QM g below args s c0 t0) b (rc b)) : ox_S p l e R s m args below meth c g 2 c0 t0 (ox_QM g below args s c0 t0) 0 (bX10_append_0 rc) := by
  refine s_aload_n (pc := 0) C dX10_append_0 rfl ?_
  refine s_geti (pc := 1) (j := 1) (q := (RX10, TX10, 6)) C rfl (by decide) rfl wF_X10_13 dX10_append_1 ?_
  refine s_sipush (pc := 4) C dX10_append_4 (by decide) ?_
  refine s_icmpge (pc := 7) 30 C dX10_append_7 (by decide) (hrc 30) ?_
  refine s_aload_n (pc := 10) C dX10_append_10 rfl ?_
  refine s_getr (pc := 11) (j := 0) (q := (RX10, TX10, 6)) C rfl (by decide) rfl wF_X10_9 dX10_append_11 ?_
  refine s_aload_n (pc := 14) C dX10_append_14 rfl ?_
  refine s_geti (pc := 15) (j := 1) (q := (RX10, TX10, 6)) C rfl (by decide) rfl wF_X10_13 dX10_append_15 ?_
  refine s_iload_n (pc := 18) C dX10_append_18 rfl ?_
  refine s_bast (pc := 19) C dX10_append_19 ?_
  refine s_aload_n (pc := 20) C dX10_append_20 rfl ?_
  refine s_dup (pc := 21) C dX10_append_21 ?_
  refine s_geti (pc := 22) (j := 1) (q := (RX10, TX10, 6)) C rfl (by decide) rfl wF_X10_13 dX10_append_22 ?_
  refine s_iconst (pc := 25) C dX10_append_25 (by decide) ?_
  refine s_iadd (pc := 26) C dX10_append_26 ?_
  refine s_puti (pc := 27) (j := 1) (q := (RX10, TX10, 6)) C rfl (by decide) rfl (Or.inl rfl) wF_X10_13 dX10_append_27 ?_
  exact hrc 30
set_option maxRecDepth 100000 in
theorem kX10_append_30 (C : ox_C p s m args c g 2 cX10_append RX10) (hr : meth.sig.returnType = none) (hlk : meth.locks = false) (hnm : meth.name = "append") (hR : R.frames = dp ∧ R.locals = 60 * dp) (hrc : ∀ b, ox_S p l e R s m args below meth c g 2 c0 t0 (ox_QM g below args s c0 t0) b (rc b)) : ox_S p l e R s m args below meth c g 2 c0 t0 (ox_QM g below args s c0 t0) 30 (bX10_append_30 rc) := by
  exact s_ret (pc := 30) C hr hlk dX10_append_30
end SX10_append
def bsX10_append (b : Nat) (rc : Nat → ox_K) : ox_K := if b = 0 then bX10_append_0 rc else if b = 30 then bX10_append_30 rc else ox_no
theorem mX10_append {dp  : Nat} {f : ox_F} (hf : ∀ as h r, f as h = some r → ox_cs as ≤ 2 ∧ ox_le h r.2 ∧ ∃ n, ox_run (bsX10_append) n 0 (lv_args 0 as) [] h = some r) : ox_Sem yX10_append cX10_append 2 none dp f := by
  refine ox_meth (bs := bsX10_append) (by decide) hf ?_
  intro p l e R s m args below meth c g c0 t0 C hr hlk hnm hR rc hrc b
  unfold bsX10_append
  refine ox_br (kX10_append_0 C hr hlk hnm hR hrc) ?_
  refine ox_br (kX10_append_30 C hr hlk hnm hR hrc) ?_
  exact s_no
theorem dX10_rewind_0 : decode cX10_rewind 0 = .ok (.aload_n 0, 1) := by decide +kernel
theorem dX10_rewind_1 : decode cX10_rewind 1 = .ok (.iconst 0, 1) := by decide +kernel
theorem dX10_rewind_2 : decode cX10_rewind 2 = .ok (.putfield 17, 3) := by decide +kernel
theorem dX10_rewind_5 : decode cX10_rewind 5 = .ok (.aload_n 0, 1) := by decide +kernel
theorem dX10_rewind_6 : decode cX10_rewind 6 = .ok (.invokevirtual 20, 3) := by decide +kernel
theorem dX10_rewind_9 : decode cX10_rewind 9 = .ok (.return_, 1) := by decide +kernel
def bX10_rewind_0 (f1 : ox_F) (rc : Nat → ox_K) : ox_K := o_al 0 (o_ic (0) (o_puti 10 4 (o_al 0 (o_cv f1 10 0 (o_ret)))))
section SX10_rewind
variable {p : Program} {l : Launch} {e : Env} {R : Room} {s : State} {m : MethodId} {args : Array Value} {below : List Frame} {meth : Method} {c : Code} {g : ox_G} {c0 t0 dp d1 : Nat} {rc : Nat → ox_K} {f1 : ox_F}
set_option maxRecDepth 100000 in
theorem kX10_rewind_0 (C : ox_C p s m args c g 1 cX10_rewind RX10) (hr : meth.sig.returnType = none) (hlk : meth.locks = false) (hnm : meth.name = "rewind") (hR : R.frames = dp ∧ R.locals = 60 * dp) (h1 : ox_Sem yX10_step cX10_step 3 none d1 f1) (e1 : d1 + 1 ≤ dp) (hrc : ∀ b, ox_S p l e R s m args below meth c g 1 c0 t0 (ox_QM g below args s c0 t0) b (rc b)) : ox_S p l e R s m args below meth c g 1 c0 t0 (ox_QM g below args s c0 t0) 0 (bX10_rewind_0 f1 rc) := by
  refine s_aload_n (pc := 0) C dX10_rewind_0 rfl ?_
  refine s_iconst (pc := 1) C dX10_rewind_1 (by decide) ?_
  refine s_puti (pc := 2) (j := 4) (q := (RX10, TX10, 6)) C rfl (by decide) rfl (Or.inl rfl) wF_X10_17 dX10_rewind_2 ?_
  refine s_aload_n (pc := 5) C dX10_rewind_5 rfl ?_
  refine s_cv (pc := 6) (q := (RX10, TX10, 6)) C h1 rfl wM_X10_20 wI_X10_step wS_X10_step wN_X10 wC_X10_step (by decide +kernel) (ox_lv hR e1 (by decide)) dX10_rewind_6 ?_
  exact s_ret (pc := 9) C hr hlk dX10_rewind_9
end SX10_rewind
def bsX10_rewind (f1 : ox_F) (b : Nat) (rc : Nat → ox_K) : ox_K := if b = 0 then bX10_rewind_0 f1 rc else ox_no
theorem mX10_rewind {dp d1 : Nat} {f1 f : ox_F} (h1 : ox_Sem yX10_step cX10_step 3 none d1 f1) (e1 : d1 + 1 ≤ dp) (hf : ∀ as h r, f as h = some r → ox_cs as ≤ 1 ∧ ox_le h r.2 ∧ ∃ n, ox_run (bsX10_rewind f1) n 0 (lv_args 0 as) [] h = some r) : ox_Sem yX10_rewind cX10_rewind 1 none dp f := by
  refine ox_meth (bs := bsX10_rewind f1) (by decide) hf ?_
  intro p l e R s m args below meth c g c0 t0 C hr hlk hnm hR rc hrc b
  unfold bsX10_rewind
  refine ox_br (kX10_rewind_0 C hr hlk hnm hR h1 e1 hrc) ?_
  exact s_no
theorem dX10_step_0 : decode cX10_step 0 = .ok (.aload_n 0, 1) := by decide +kernel
theorem dX10_step_1 : decode cX10_step 1 = .ok (.aload_n 0, 1) := by decide +kernel
theorem dX10_step_2 : decode cX10_step 2 = .ok (.getfield 17, 3) := by decide +kernel
theorem dX10_step_5 : decode cX10_step 5 = .ok (.putfield 23, 3) := by decide +kernel
theorem dX10_step_8 : decode cX10_step 8 = .ok (.aload_n 0, 1) := by decide +kernel
theorem dX10_step_9 : decode cX10_step 9 = .ok (.getfield 23, 3) := by decide +kernel
theorem dX10_step_12 : decode cX10_step 12 = .ok (.aload_n 0, 1) := by decide +kernel
theorem dX10_step_13 : decode cX10_step 13 = .ok (.getfield 13, 3) := by decide +kernel
theorem dX10_step_16 : decode cX10_step 16 = .ok (.if_icmp .ge 32, 3) := by decide +kernel
theorem dX10_step_19 : decode cX10_step 19 = .ok (.aload_n 0, 1) := by decide +kernel
theorem dX10_step_20 : decode cX10_step 20 = .ok (.getfield 9, 3) := by decide +kernel
theorem dX10_step_23 : decode cX10_step 23 = .ok (.aload_n 0, 1) := by decide +kernel
theorem dX10_step_24 : decode cX10_step 24 = .ok (.getfield 23, 3) := by decide +kernel
theorem dX10_step_27 : decode cX10_step 27 = .ok (.baload, 1) := by decide +kernel
theorem dX10_step_28 : decode cX10_step 28 = .ok (.invokestatic 26, 3) := by decide +kernel
theorem dX10_step_31 : decode cX10_step 31 = .ok (.iconst 4, 1) := by decide +kernel
theorem dX10_step_32 : decode cX10_step 32 = .ok (.if_icmp .ne 16, 3) := by decide +kernel
theorem dX10_step_35 : decode cX10_step 35 = .ok (.aload_n 0, 1) := by decide +kernel
theorem dX10_step_36 : decode cX10_step 36 = .ok (.dup, 1) := by decide +kernel
theorem dX10_step_37 : decode cX10_step 37 = .ok (.getfield 23, 3) := by decide +kernel
theorem dX10_step_40 : decode cX10_step 40 = .ok (.iconst 1, 1) := by decide +kernel
theorem dX10_step_41 : decode cX10_step 41 = .ok (.iadd, 1) := by decide +kernel
theorem dX10_step_42 : decode cX10_step 42 = .ok (.putfield 23, 3) := by decide +kernel
theorem dX10_step_45 : decode cX10_step 45 = .ok (.goto (-37), 3) := by decide +kernel
theorem dX10_step_48 : decode cX10_step 48 = .ok (.aload_n 0, 1) := by decide +kernel
theorem dX10_step_49 : decode cX10_step 49 = .ok (.aload_n 0, 1) := by decide +kernel
theorem dX10_step_50 : decode cX10_step 50 = .ok (.getfield 23, 3) := by decide +kernel
theorem dX10_step_53 : decode cX10_step 53 = .ok (.putfield 17, 3) := by decide +kernel
theorem dX10_step_56 : decode cX10_step 56 = .ok (.aload_n 0, 1) := by decide +kernel
theorem dX10_step_57 : decode cX10_step 57 = .ok (.aload_n 0, 1) := by decide +kernel
theorem dX10_step_58 : decode cX10_step 58 = .ok (.getfield 23, 3) := by decide +kernel
theorem dX10_step_61 : decode cX10_step 61 = .ok (.aload_n 0, 1) := by decide +kernel
theorem dX10_step_62 : decode cX10_step 62 = .ok (.getfield 13, 3) := by decide +kernel
theorem dX10_step_65 : decode cX10_step 65 = .ok (.if_icmp .ge 18, 3) := by decide +kernel
theorem dX10_step_68 : decode cX10_step 68 = .ok (.aload_n 0, 1) := by decide +kernel
theorem dX10_step_69 : decode cX10_step 69 = .ok (.getfield 9, 3) := by decide +kernel
theorem dX10_step_72 : decode cX10_step 72 = .ok (.aload_n 0, 1) := by decide +kernel
theorem dX10_step_73 : decode cX10_step 73 = .ok (.getfield 23, 3) := by decide +kernel
theorem dX10_step_76 : decode cX10_step 76 = .ok (.baload, 1) := by decide +kernel
theorem dX10_step_77 : decode cX10_step 77 = .ok (.invokestatic 26, 3) := by decide +kernel
theorem dX10_step_80 : decode cX10_step 80 = .ok (.goto 4, 3) := by decide +kernel
theorem dX10_step_83 : decode cX10_step 83 = .ok (.iconst 0, 1) := by decide +kernel
theorem dX10_step_84 : decode cX10_step 84 = .ok (.putfield 30, 3) := by decide +kernel
theorem dX10_step_87 : decode cX10_step 87 = .ok (.aload_n 0, 1) := by decide +kernel
theorem dX10_step_88 : decode cX10_step 88 = .ok (.getfield 30, 3) := by decide +kernel
theorem dX10_step_91 : decode cX10_step 91 = .ok (.iconst 1, 1) := by decide +kernel
theorem dX10_step_92 : decode cX10_step 92 = .ok (.if_icmp .eq 11, 3) := by decide +kernel
theorem dX10_step_95 : decode cX10_step 95 = .ok (.aload_n 0, 1) := by decide +kernel
theorem dX10_step_96 : decode cX10_step 96 = .ok (.getfield 30, 3) := by decide +kernel
theorem dX10_step_99 : decode cX10_step 99 = .ok (.iconst 2, 1) := by decide +kernel
theorem dX10_step_100 : decode cX10_step 100 = .ok (.if_icmp .ne 7, 3) := by decide +kernel
theorem dX10_step_103 : decode cX10_step 103 = .ok (.iconst 1, 1) := by decide +kernel
theorem dX10_step_104 : decode cX10_step 104 = .ok (.goto 4, 3) := by decide +kernel
theorem dX10_step_107 : decode cX10_step 107 = .ok (.iconst 0, 1) := by decide +kernel
theorem dX10_step_108 : decode cX10_step 108 = .ok (.istore_n 1, 1) := by decide +kernel
theorem dX10_step_109 : decode cX10_step 109 = .ok (.iload_n 1, 1) := by decide +kernel
theorem dX10_step_110 : decode cX10_step 110 = .ok (.ifCond .eq 10, 3) := by decide +kernel
theorem dX10_step_113 : decode cX10_step 113 = .ok (.aload_n 0, 1) := by decide +kernel
theorem dX10_step_114 : decode cX10_step 114 = .ok (.getfield 13, 3) := by decide +kernel
theorem dX10_step_117 : decode cX10_step 117 = .ok (.goto 16, 3) := by decide +kernel
theorem dX10_step_120 : decode cX10_step 120 = .ok (.aload_n 0, 1) := by decide +kernel
theorem dX10_step_121 : decode cX10_step 121 = .ok (.getfield 13, 3) := by decide +kernel
theorem dX10_step_124 : decode cX10_step 124 = .ok (.aload_n 0, 1) := by decide +kernel
theorem dX10_step_125 : decode cX10_step 125 = .ok (.getfield 23, 3) := by decide +kernel
theorem dX10_step_128 : decode cX10_step 128 = .ok (.iconst 1, 1) := by decide +kernel
theorem dX10_step_129 : decode cX10_step 129 = .ok (.iadd, 1) := by decide +kernel
theorem dX10_step_130 : decode cX10_step 130 = .ok (.invokestatic 33, 3) := by decide +kernel
theorem dX10_step_133 : decode cX10_step 133 = .ok (.istore_n 2, 1) := by decide +kernel
theorem dX10_step_134 : decode cX10_step 134 = .ok (.aload_n 0, 1) := by decide +kernel
theorem dX10_step_135 : decode cX10_step 135 = .ok (.getfield 17, 3) := by decide +kernel
theorem dX10_step_138 : decode cX10_step 138 = .ok (.iload_n 2, 1) := by decide +kernel
theorem dX10_step_139 : decode cX10_step 139 = .ok (.if_icmp .ge 35, 3) := by decide +kernel
theorem dX10_step_142 : decode cX10_step 142 = .ok (.aload_n 0, 1) := by decide +kernel
theorem dX10_step_143 : decode cX10_step 143 = .ok (.getfield 9, 3) := by decide +kernel
theorem dX10_step_146 : decode cX10_step 146 = .ok (.aload_n 0, 1) := by decide +kernel
theorem dX10_step_147 : decode cX10_step 147 = .ok (.getfield 17, 3) := by decide +kernel
theorem dX10_step_150 : decode cX10_step 150 = .ok (.baload, 1) := by decide +kernel
theorem dX10_step_151 : decode cX10_step 151 = .ok (.invokestatic 26, 3) := by decide +kernel
theorem dX10_step_154 : decode cX10_step 154 = .ok (.aload_n 0, 1) := by decide +kernel
theorem dX10_step_155 : decode cX10_step 155 = .ok (.getfield 30, 3) := by decide +kernel
theorem dX10_step_158 : decode cX10_step 158 = .ok (.if_icmp .ne 16, 3) := by decide +kernel
theorem dX10_step_161 : decode cX10_step 161 = .ok (.aload_n 0, 1) := by decide +kernel
theorem dX10_step_162 : decode cX10_step 162 = .ok (.dup, 1) := by decide +kernel
theorem dX10_step_163 : decode cX10_step 163 = .ok (.getfield 17, 3) := by decide +kernel
theorem dX10_step_166 : decode cX10_step 166 = .ok (.iconst 1, 1) := by decide +kernel
theorem dX10_step_167 : decode cX10_step 167 = .ok (.iadd, 1) := by decide +kernel
theorem dX10_step_168 : decode cX10_step 168 = .ok (.putfield 17, 3) := by decide +kernel
theorem dX10_step_171 : decode cX10_step 171 = .ok (.goto (-37), 3) := by decide +kernel
theorem dX10_step_174 : decode cX10_step 174 = .ok (.aload_n 0, 1) := by decide +kernel
theorem dX10_step_175 : decode cX10_step 175 = .ok (.getfield 30, 3) := by decide +kernel
theorem dX10_step_178 : decode cX10_step 178 = .ok (.iconst 2, 1) := by decide +kernel
theorem dX10_step_179 : decode cX10_step 179 = .ok (.if_icmp .ne 7, 3) := by decide +kernel
theorem dX10_step_182 : decode cX10_step 182 = .ok (.aload_n 0, 1) := by decide +kernel
theorem dX10_step_183 : decode cX10_step 183 = .ok (.invokevirtual 39, 3) := by decide +kernel
theorem dX10_step_186 : decode cX10_step 186 = .ok (.return_, 1) := by decide +kernel
def bX10_step_0 (f1 f2 : ox_F) (rc : Nat → ox_K) : ox_K := o_al 0 (o_al 0 (o_geti 10 4 (o_puti 10 3 (rc 8))))
def bX10_step_8 (f1 f2 : ox_F) (rc : Nat → ox_K) : ox_K := o_keep [0] (o_al 0 (o_geti 10 3 (o_al 0 (o_geti 10 1 (o_icge (rc 48) (o_al 0 (o_getr 10 0 (o_al 0 (o_geti 10 3 (o_ba (o_ct f1 1 (o_ic (4) (o_icne (rc 48) (o_al 0 (o_dup (o_geti 10 3 (o_ic (1) (o_iadd (o_puti 10 3 (rc 8))))))))))))))))))))
def bX10_step_48 (f1 f2 : ox_F) (rc : Nat → ox_K) : ox_K := o_al 0 (o_al 0 (o_geti 10 3 (o_puti 10 4 (o_al 0 (o_al 0 (o_geti 10 3 (o_al 0 (o_geti 10 1 (o_icge (rc 83) (o_al 0 (o_getr 10 0 (o_al 0 (o_geti 10 3 (o_ba (o_ct f1 1 (rc 84))))))))))))))))
def bX10_step_83 (f1 f2 : ox_F) (rc : Nat → ox_K) : ox_K := o_ic (0) (rc 84)
def bX10_step_84 (f1 f2 : ox_F) (rc : Nat → ox_K) : ox_K := o_puti 10 2 (o_al 0 (o_geti 10 2 (o_ic (1) (o_iceq (rc 103) (o_al 0 (o_geti 10 2 (o_ic (2) (o_icne (rc 107) (rc 103)))))))))
def bX10_step_103 (f1 f2 : ox_F) (rc : Nat → ox_K) : ox_K := o_ic (1) (rc 108)
def bX10_step_107 (f1 f2 : ox_F) (rc : Nat → ox_K) : ox_K := o_ic (0) (rc 108)
def bX10_step_108 (f1 f2 : ox_F) (rc : Nat → ox_K) : ox_K := o_is 1 (o_il 1 (o_ifeq (rc 120) (o_al 0 (o_geti 10 1 (rc 133)))))
def bX10_step_120 (f1 f2 : ox_F) (rc : Nat → ox_K) : ox_K := o_al 0 (o_geti 10 1 (o_al 0 (o_geti 10 3 (o_ic (1) (o_iadd (o_mmin (rc 133)))))))
def bX10_step_133 (f1 f2 : ox_F) (rc : Nat → ox_K) : ox_K := o_is 2 (rc 134)
def bX10_step_134 (f1 f2 : ox_F) (rc : Nat → ox_K) : ox_K := o_keep [0, 2] (o_al 0 (o_geti 10 4 (o_il 2 (o_icge (rc 174) (o_al 0 (o_getr 10 0 (o_al 0 (o_geti 10 4 (o_ba (o_ct f1 1 (o_al 0 (o_geti 10 2 (o_icne (rc 174) (o_al 0 (o_dup (o_geti 10 4 (o_ic (1) (o_iadd (o_puti 10 4 (rc 134))))))))))))))))))))
def bX10_step_174 (f1 f2 : ox_F) (rc : Nat → ox_K) : ox_K := o_al 0 (o_geti 10 2 (o_ic (2) (o_icne (rc 186) (o_al 0 (o_cv f2 10 0 (rc 186))))))
def bX10_step_186 (f1 f2 : ox_F) (rc : Nat → ox_K) : ox_K := o_ret
section SX10_step
variable {p : Program} {l : Launch} {e : Env} {R : Room} {s : State} {m : MethodId} {args : Array Value} {below : List Frame} {meth : Method} {c : Code} {g : ox_G} {c0 t0 dp d1 d2 : Nat} {rc : Nat → ox_K} {f1 f2 : ox_F}
set_option maxRecDepth 100000 in
theorem kX10_step_0 (C : ox_C p s m args c g 3 cX10_step RX10) (hr : meth.sig.returnType = none) (hlk : meth.locks = false) (hnm : meth.name = "step") (hR : R.frames = dp ∧ R.locals = 60 * dp) (e0 : 1 ≤ dp) (h1 : ox_Sem yX10_kindOf cX10_kindOf 1 (some .int) d1 f1) (e1 : d1 + 1 ≤ dp) (h2 : ox_Sem yX10_takeFigures cX10_takeFigures 2 none d2 f2) (e2 : d2 + 1 ≤ dp) (hrc : ∀ b, ox_S p l e R s m args below meth c g 3 c0 t0 (ox_QM g below args s c0 t0) b (rc b)) : ox_S p l e R s m args below meth c g 3 c0 t0 (ox_QM g below args s c0 t0) 0 (bX10_step_0 f1 f2 rc) := by
  refine s_aload_n (pc := 0) C dX10_step_0 rfl ?_
  refine s_aload_n (pc := 1) C dX10_step_1 rfl ?_
  refine s_geti (pc := 2) (j := 4) (q := (RX10, TX10, 6)) C rfl (by decide) rfl wF_X10_17 dX10_step_2 ?_
  refine s_puti (pc := 5) (j := 3) (q := (RX10, TX10, 6)) C rfl (by decide) rfl (Or.inl rfl) wF_X10_23 dX10_step_5 ?_
  exact hrc 8
set_option maxRecDepth 100000 in
theorem kX10_step_8 (C : ox_C p s m args c g 3 cX10_step RX10) (hr : meth.sig.returnType = none) (hlk : meth.locks = false) (hnm : meth.name = "step") (hR : R.frames = dp ∧ R.locals = 60 * dp) (e0 : 1 ≤ dp) (h1 : ox_Sem yX10_kindOf cX10_kindOf 1 (some .int) d1 f1) (e1 : d1 + 1 ≤ dp) (h2 : ox_Sem yX10_takeFigures cX10_takeFigures 2 none d2 f2) (e2 : d2 + 1 ≤ dp) (hrc : ∀ b, ox_S p l e R s m args below meth c g 3 c0 t0 (ox_QM g below args s c0 t0) b (rc b)) : ox_S p l e R s m args below meth c g 3 c0 t0 (ox_QM g below args s c0 t0) 8 (bX10_step_8 f1 f2 rc) := by
  refine s_keep ?_
  refine s_aload_n (pc := 8) C dX10_step_8 rfl ?_
  refine s_geti (pc := 9) (j := 3) (q := (RX10, TX10, 6)) C rfl (by decide) rfl wF_X10_23 dX10_step_9 ?_
  refine s_aload_n (pc := 12) C dX10_step_12 rfl ?_
  refine s_geti (pc := 13) (j := 1) (q := (RX10, TX10, 6)) C rfl (by decide) rfl wF_X10_13 dX10_step_13 ?_
  refine s_icmpge (pc := 16) 48 C dX10_step_16 (by decide) (hrc 48) ?_
  refine s_aload_n (pc := 19) C dX10_step_19 rfl ?_
  refine s_getr (pc := 20) (j := 0) (q := (RX10, TX10, 6)) C rfl (by decide) rfl wF_X10_9 dX10_step_20 ?_
  refine s_aload_n (pc := 23) C dX10_step_23 rfl ?_
  refine s_geti (pc := 24) (j := 3) (q := (RX10, TX10, 6)) C rfl (by decide) rfl wF_X10_23 dX10_step_24 ?_
  refine s_ba (pc := 27) C dX10_step_27 ?_
  refine s_ct (pc := 28) C h1 wM_X10_26 wT_X10_kindOf wN_X10 wC_X10_kindOf (by decide +kernel) (ox_lv hR e1 (by decide)) dX10_step_28 ?_
  refine s_iconst (pc := 31) C dX10_step_31 (by decide) ?_
  refine s_icmpne (pc := 32) 48 C dX10_step_32 (by decide) (hrc 48) ?_
  refine s_aload_n (pc := 35) C dX10_step_35 rfl ?_
  refine s_dup (pc := 36) C dX10_step_36 ?_
  refine s_geti (pc := 37) (j := 3) (q := (RX10, TX10, 6)) C rfl (by decide) rfl wF_X10_23 dX10_step_37 ?_
  refine s_iconst (pc := 40) C dX10_step_40 (by decide) ?_
  refine s_iadd (pc := 41) C dX10_step_41 ?_
  refine s_puti (pc := 42) (j := 3) (q := (RX10, TX10, 6)) C rfl (by decide) rfl (Or.inl rfl) wF_X10_23 dX10_step_42 ?_
  exact s_goto (pc := 45) 8 C dX10_step_45 (by decide) (hrc 8)
set_option maxRecDepth 100000 in
theorem kX10_step_48 (C : ox_C p s m args c g 3 cX10_step RX10) (hr : meth.sig.returnType = none) (hlk : meth.locks = false) (hnm : meth.name = "step") (hR : R.frames = dp ∧ R.locals = 60 * dp) (e0 : 1 ≤ dp) (h1 : ox_Sem yX10_kindOf cX10_kindOf 1 (some .int) d1 f1) (e1 : d1 + 1 ≤ dp) (h2 : ox_Sem yX10_takeFigures cX10_takeFigures 2 none d2 f2) (e2 : d2 + 1 ≤ dp) (hrc : ∀ b, ox_S p l e R s m args below meth c g 3 c0 t0 (ox_QM g below args s c0 t0) b (rc b)) : ox_S p l e R s m args below meth c g 3 c0 t0 (ox_QM g below args s c0 t0) 48 (bX10_step_48 f1 f2 rc) := by
  refine s_aload_n (pc := 48) C dX10_step_48 rfl ?_
  refine s_aload_n (pc := 49) C dX10_step_49 rfl ?_
  refine s_geti (pc := 50) (j := 3) (q := (RX10, TX10, 6)) C rfl (by decide) rfl wF_X10_23 dX10_step_50 ?_
  refine s_puti (pc := 53) (j := 4) (q := (RX10, TX10, 6)) C rfl (by decide) rfl (Or.inl rfl) wF_X10_17 dX10_step_53 ?_
  refine s_aload_n (pc := 56) C dX10_step_56 rfl ?_
  refine s_aload_n (pc := 57) C dX10_step_57 rfl ?_
  refine s_geti (pc := 58) (j := 3) (q := (RX10, TX10, 6)) C rfl (by decide) rfl wF_X10_23 dX10_step_58 ?_
  refine s_aload_n (pc := 61) C dX10_step_61 rfl ?_
  refine s_geti (pc := 62) (j := 1) (q := (RX10, TX10, 6)) C rfl (by decide) rfl wF_X10_13 dX10_step_62 ?_
  refine s_icmpge (pc := 65) 83 C dX10_step_65 (by decide) (hrc 83) ?_
  refine s_aload_n (pc := 68) C dX10_step_68 rfl ?_
  refine s_getr (pc := 69) (j := 0) (q := (RX10, TX10, 6)) C rfl (by decide) rfl wF_X10_9 dX10_step_69 ?_
  refine s_aload_n (pc := 72) C dX10_step_72 rfl ?_
  refine s_geti (pc := 73) (j := 3) (q := (RX10, TX10, 6)) C rfl (by decide) rfl wF_X10_23 dX10_step_73 ?_
  refine s_ba (pc := 76) C dX10_step_76 ?_
  refine s_ct (pc := 77) C h1 wM_X10_26 wT_X10_kindOf wN_X10 wC_X10_kindOf (by decide +kernel) (ox_lv hR e1 (by decide)) dX10_step_77 ?_
  exact s_goto (pc := 80) 84 C dX10_step_80 (by decide) (hrc 84)
set_option maxRecDepth 100000 in
theorem kX10_step_83 (C : ox_C p s m args c g 3 cX10_step RX10) (hr : meth.sig.returnType = none) (hlk : meth.locks = false) (hnm : meth.name = "step") (hR : R.frames = dp ∧ R.locals = 60 * dp) (e0 : 1 ≤ dp) (h1 : ox_Sem yX10_kindOf cX10_kindOf 1 (some .int) d1 f1) (e1 : d1 + 1 ≤ dp) (h2 : ox_Sem yX10_takeFigures cX10_takeFigures 2 none d2 f2) (e2 : d2 + 1 ≤ dp) (hrc : ∀ b, ox_S p l e R s m args below meth c g 3 c0 t0 (ox_QM g below args s c0 t0) b (rc b)) : ox_S p l e R s m args below meth c g 3 c0 t0 (ox_QM g below args s c0 t0) 83 (bX10_step_83 f1 f2 rc) := by
  refine s_iconst (pc := 83) C dX10_step_83 (by decide) ?_
  exact hrc 84
set_option maxRecDepth 100000 in
theorem kX10_step_84 (C : ox_C p s m args c g 3 cX10_step RX10) (hr : meth.sig.returnType = none) (hlk : meth.locks = false) (hnm : meth.name = "step") (hR : R.frames = dp ∧ R.locals = 60 * dp) (e0 : 1 ≤ dp) (h1 : ox_Sem yX10_kindOf cX10_kindOf 1 (some .int) d1 f1) (e1 : d1 + 1 ≤ dp) (h2 : ox_Sem yX10_takeFigures cX10_takeFigures 2 none d2 f2) (e2 : d2 + 1 ≤ dp) (hrc : ∀ b, ox_S p l e R s m args below meth c g 3 c0 t0 (ox_QM g below args s c0 t0) b (rc b)) : ox_S p l e R s m args below meth c g 3 c0 t0 (ox_QM g below args s c0 t0) 84 (bX10_step_84 f1 f2 rc) := by
  refine s_puti (pc := 84) (j := 2) (q := (RX10, TX10, 6)) C rfl (by decide) rfl (Or.inl rfl) wF_X10_30 dX10_step_84 ?_
  refine s_aload_n (pc := 87) C dX10_step_87 rfl ?_
  refine s_geti (pc := 88) (j := 2) (q := (RX10, TX10, 6)) C rfl (by decide) rfl wF_X10_30 dX10_step_88 ?_
  refine s_iconst (pc := 91) C dX10_step_91 (by decide) ?_
  refine s_icmpeq (pc := 92) 103 C dX10_step_92 (by decide) (hrc 103) ?_
  refine s_aload_n (pc := 95) C dX10_step_95 rfl ?_
  refine s_geti (pc := 96) (j := 2) (q := (RX10, TX10, 6)) C rfl (by decide) rfl wF_X10_30 dX10_step_96 ?_
  refine s_iconst (pc := 99) C dX10_step_99 (by decide) ?_
  refine s_icmpne (pc := 100) 107 C dX10_step_100 (by decide) (hrc 107) ?_
  exact hrc 103
set_option maxRecDepth 100000 in
theorem kX10_step_103 (C : ox_C p s m args c g 3 cX10_step RX10) (hr : meth.sig.returnType = none) (hlk : meth.locks = false) (hnm : meth.name = "step") (hR : R.frames = dp ∧ R.locals = 60 * dp) (e0 : 1 ≤ dp) (h1 : ox_Sem yX10_kindOf cX10_kindOf 1 (some .int) d1 f1) (e1 : d1 + 1 ≤ dp) (h2 : ox_Sem yX10_takeFigures cX10_takeFigures 2 none d2 f2) (e2 : d2 + 1 ≤ dp) (hrc : ∀ b, ox_S p l e R s m args below meth c g 3 c0 t0 (ox_QM g below args s c0 t0) b (rc b)) : ox_S p l e R s m args below meth c g 3 c0 t0 (ox_QM g below args s c0 t0) 103 (bX10_step_103 f1 f2 rc) := by
  refine s_iconst (pc := 103) C dX10_step_103 (by decide) ?_
  exact s_goto (pc := 104) 108 C dX10_step_104 (by decide) (hrc 108)
set_option maxRecDepth 100000 in
theorem kX10_step_107 (C : ox_C p s m args c g 3 cX10_step RX10) (hr : meth.sig.returnType = none) (hlk : meth.locks = false) (hnm : meth.name = "step") (hR : R.frames = dp ∧ R.locals = 60 * dp) (e0 : 1 ≤ dp) (h1 : ox_Sem yX10_kindOf cX10_kindOf 1 (some .int) d1 f1) (e1 : d1 + 1 ≤ dp) (h2 : ox_Sem yX10_takeFigures cX10_takeFigures 2 none d2 f2) (e2 : d2 + 1 ≤ dp) (hrc : ∀ b, ox_S p l e R s m args below meth c g 3 c0 t0 (ox_QM g below args s c0 t0) b (rc b)) : ox_S p l e R s m args below meth c g 3 c0 t0 (ox_QM g below args s c0 t0) 107 (bX10_step_107 f1 f2 rc) := by
  refine s_iconst (pc := 107) C dX10_step_107 (by decide) ?_
  exact hrc 108
set_option maxRecDepth 100000 in
theorem kX10_step_108 (C : ox_C p s m args c g 3 cX10_step RX10) (hr : meth.sig.returnType = none) (hlk : meth.locks = false) (hnm : meth.name = "step") (hR : R.frames = dp ∧ R.locals = 60 * dp) (e0 : 1 ≤ dp) (h1 : ox_Sem yX10_kindOf cX10_kindOf 1 (some .int) d1 f1) (e1 : d1 + 1 ≤ dp) (h2 : ox_Sem yX10_takeFigures cX10_takeFigures 2 none d2 f2) (e2 : d2 + 1 ≤ dp) (hrc : ∀ b, ox_S p l e R s m args below meth c g 3 c0 t0 (ox_QM g below args s c0 t0) b (rc b)) : ox_S p l e R s m args below meth c g 3 c0 t0 (ox_QM g below args s c0 t0) 108 (bX10_step_108 f1 f2 rc) := by
  refine s_istore_n (pc := 108) C dX10_step_108 rfl (by decide) ?_
  refine s_iload_n (pc := 109) C dX10_step_109 rfl ?_
  refine s_ifeq (pc := 110) 120 C dX10_step_110 (by decide) (hrc 120) ?_
  refine s_aload_n (pc := 113) C dX10_step_113 rfl ?_
  refine s_geti (pc := 114) (j := 1) (q := (RX10, TX10, 6)) C rfl (by decide) rfl wF_X10_13 dX10_step_114 ?_
  exact s_goto (pc := 117) 133 C dX10_step_117 (by decide) (hrc 133)
set_option maxRecDepth 100000 in
theorem kX10_step_120 (C : ox_C p s m args c g 3 cX10_step RX10) (hr : meth.sig.returnType = none) (hlk : meth.locks = false) (hnm : meth.name = "step") (hR : R.frames = dp ∧ R.locals = 60 * dp) (e0 : 1 ≤ dp) (h1 : ox_Sem yX10_kindOf cX10_kindOf 1 (some .int) d1 f1) (e1 : d1 + 1 ≤ dp) (h2 : ox_Sem yX10_takeFigures cX10_takeFigures 2 none d2 f2) (e2 : d2 + 1 ≤ dp) (hrc : ∀ b, ox_S p l e R s m args below meth c g 3 c0 t0 (ox_QM g below args s c0 t0) b (rc b)) : ox_S p l e R s m args below meth c g 3 c0 t0 (ox_QM g below args s c0 t0) 120 (bX10_step_120 f1 f2 rc) := by
  refine s_aload_n (pc := 120) C dX10_step_120 rfl ?_
  refine s_geti (pc := 121) (j := 1) (q := (RX10, TX10, 6)) C rfl (by decide) rfl wF_X10_13 dX10_step_121 ?_
  refine s_aload_n (pc := 124) C dX10_step_124 rfl ?_
  refine s_geti (pc := 125) (j := 3) (q := (RX10, TX10, 6)) C rfl (by decide) rfl wF_X10_23 dX10_step_125 ?_
  refine s_iconst (pc := 128) C dX10_step_128 (by decide) ?_
  refine s_iadd (pc := 129) C dX10_step_129 ?_
  refine s_mmin (pc := 130) C wM_X10_33 wT_mmin wN_J9 wC_mmin (ox_lv3 hR e0) dX10_step_130 ?_
  exact hrc 133
set_option maxRecDepth 100000 in
theorem kX10_step_133 (C : ox_C p s m args c g 3 cX10_step RX10) (hr : meth.sig.returnType = none) (hlk : meth.locks = false) (hnm : meth.name = "step") (hR : R.frames = dp ∧ R.locals = 60 * dp) (e0 : 1 ≤ dp) (h1 : ox_Sem yX10_kindOf cX10_kindOf 1 (some .int) d1 f1) (e1 : d1 + 1 ≤ dp) (h2 : ox_Sem yX10_takeFigures cX10_takeFigures 2 none d2 f2) (e2 : d2 + 1 ≤ dp) (hrc : ∀ b, ox_S p l e R s m args below meth c g 3 c0 t0 (ox_QM g below args s c0 t0) b (rc b)) : ox_S p l e R s m args below meth c g 3 c0 t0 (ox_QM g below args s c0 t0) 133 (bX10_step_133 f1 f2 rc) := by
  refine s_istore_n (pc := 133) C dX10_step_133 rfl (by decide) ?_
  exact hrc 134
set_option maxRecDepth 100000 in
theorem kX10_step_134 (C : ox_C p s m args c g 3 cX10_step RX10) (hr : meth.sig.returnType = none) (hlk : meth.locks = false) (hnm : meth.name = "step") (hR : R.frames = dp ∧ R.locals = 60 * dp) (e0 : 1 ≤ dp) (h1 : ox_Sem yX10_kindOf cX10_kindOf 1 (some .int) d1 f1) (e1 : d1 + 1 ≤ dp) (h2 : ox_Sem yX10_takeFigures cX10_takeFigures 2 none d2 f2) (e2 : d2 + 1 ≤ dp) (hrc : ∀ b, ox_S p l e R s m args below meth c g 3 c0 t0 (ox_QM g below args s c0 t0) b (rc b)) : ox_S p l e R s m args below meth c g 3 c0 t0 (ox_QM g below args s c0 t0) 134 (bX10_step_134 f1 f2 rc) := by
  refine s_keep ?_
  refine s_aload_n (pc := 134) C dX10_step_134 rfl ?_
  refine s_geti (pc := 135) (j := 4) (q := (RX10, TX10, 6)) C rfl (by decide) rfl wF_X10_17 dX10_step_135 ?_
  refine s_iload_n (pc := 138) C dX10_step_138 rfl ?_
  refine s_icmpge (pc := 139) 174 C dX10_step_139 (by decide) (hrc 174) ?_
  refine s_aload_n (pc := 142) C dX10_step_142 rfl ?_
  refine s_getr (pc := 143) (j := 0) (q := (RX10, TX10, 6)) C rfl (by decide) rfl wF_X10_9 dX10_step_143 ?_
  refine s_aload_n (pc := 146) C dX10_step_146 rfl ?_
  refine s_geti (pc := 147) (j := 4) (q := (RX10, TX10, 6)) C rfl (by decide) rfl wF_X10_17 dX10_step_147 ?_
  refine s_ba (pc := 150) C dX10_step_150 ?_
  refine s_ct (pc := 151) C h1 wM_X10_26 wT_X10_kindOf wN_X10 wC_X10_kindOf (by decide +kernel) (ox_lv hR e1 (by decide)) dX10_step_151 ?_
  refine s_aload_n (pc := 154) C dX10_step_154 rfl ?_
  refine s_geti (pc := 155) (j := 2) (q := (RX10, TX10, 6)) C rfl (by decide) rfl wF_X10_30 dX10_step_155 ?_
  refine s_icmpne (pc := 158) 174 C dX10_step_158 (by decide) (hrc 174) ?_
  refine s_aload_n (pc := 161) C dX10_step_161 rfl ?_
  refine s_dup (pc := 162) C dX10_step_162 ?_
  refine s_geti (pc := 163) (j := 4) (q := (RX10, TX10, 6)) C rfl (by decide) rfl wF_X10_17 dX10_step_163 ?_
  refine s_iconst (pc := 166) C dX10_step_166 (by decide) ?_
  refine s_iadd (pc := 167) C dX10_step_167 ?_
  refine s_puti (pc := 168) (j := 4) (q := (RX10, TX10, 6)) C rfl (by decide) rfl (Or.inl rfl) wF_X10_17 dX10_step_168 ?_
  exact s_goto (pc := 171) 134 C dX10_step_171 (by decide) (hrc 134)
set_option maxRecDepth 100000 in
theorem kX10_step_174 (C : ox_C p s m args c g 3 cX10_step RX10) (hr : meth.sig.returnType = none) (hlk : meth.locks = false) (hnm : meth.name = "step") (hR : R.frames = dp ∧ R.locals = 60 * dp) (e0 : 1 ≤ dp) (h1 : ox_Sem yX10_kindOf cX10_kindOf 1 (some .int) d1 f1) (e1 : d1 + 1 ≤ dp) (h2 : ox_Sem yX10_takeFigures cX10_takeFigures 2 none d2 f2) (e2 : d2 + 1 ≤ dp) (hrc : ∀ b, ox_S p l e R s m args below meth c g 3 c0 t0 (ox_QM g below args s c0 t0) b (rc b)) : ox_S p l e R s m args below meth c g 3 c0 t0 (ox_QM g below args s c0 t0) 174 (bX10_step_174 f1 f2 rc) := by
  refine s_aload_n (pc := 174) C dX10_step_174 rfl ?_
  refine s_geti (pc := 175) (j := 2) (q := (RX10, TX10, 6)) C rfl (by decide) rfl wF_X10_30 dX10_step_175 ?_
  refine s_iconst (pc := 178) C dX10_step_178 (by decide) ?_
  refine s_icmpne (pc := 179) 186 C dX10_step_179 (by decide) (hrc 186) ?_
  refine s_aload_n (pc := 182) C dX10_step_182 rfl ?_
  refine s_cv (pc := 183) (q := (RX10, TX10, 6)) C h2 rfl wM_X10_39 wI_X10_takeFigures wS_X10_takeFigures wN_X10 wC_X10_takeFigures (by decide +kernel) (ox_lv hR e2 (by decide)) dX10_step_183 ?_
  exact hrc 186
set_option maxRecDepth 100000 in
theorem kX10_step_186 (C : ox_C p s m args c g 3 cX10_step RX10) (hr : meth.sig.returnType = none) (hlk : meth.locks = false) (hnm : meth.name = "step") (hR : R.frames = dp ∧ R.locals = 60 * dp) (e0 : 1 ≤ dp) (h1 : ox_Sem yX10_kindOf cX10_kindOf 1 (some .int) d1 f1) (e1 : d1 + 1 ≤ dp) (h2 : ox_Sem yX10_takeFigures cX10_takeFigures 2 none d2 f2) (e2 : d2 + 1 ≤ dp) (hrc : ∀ b, ox_S p l e R s m args below meth c g 3 c0 t0 (ox_QM g below args s c0 t0) b (rc b)) : ox_S p l e R s m args below meth c g 3 c0 t0 (ox_QM g below args s c0 t0) 186 (bX10_step_186 f1 f2 rc) := by
  exact s_ret (pc := 186) C hr hlk dX10_step_186
end SX10_step
def bsX10_step (f1 f2 : ox_F) (b : Nat) (rc : Nat → ox_K) : ox_K := if b = 0 then bX10_step_0 f1 f2 rc else if b = 8 then bX10_step_8 f1 f2 rc else if b = 48 then bX10_step_48 f1 f2 rc else if b = 83 then bX10_step_83 f1 f2 rc else if b = 84 then bX10_step_84 f1 f2 rc else if b = 103 then bX10_step_103 f1 f2 rc else if b = 107 then bX10_step_107 f1 f2 rc else if b = 108 then bX10_step_108 f1 f2 rc else if b = 120 then bX10_step_120 f1 f2 rc else if b = 133 then bX10_step_133 f1 f2 rc else if b = 134 then bX10_step_134 f1 f2 rc else if b = 174 then bX10_step_174 f1 f2 rc else if b = 186 then bX10_step_186 f1 f2 rc else ox_no
theorem mX10_step {dp d1 d2 : Nat} {f1 f2 f : ox_F} (e0 : 1 ≤ dp) (h1 : ox_Sem yX10_kindOf cX10_kindOf 1 (some .int) d1 f1) (e1 : d1 + 1 ≤ dp) (h2 : ox_Sem yX10_takeFigures cX10_takeFigures 2 none d2 f2) (e2 : d2 + 1 ≤ dp) (hf : ∀ as h r, f as h = some r → ox_cs as ≤ 3 ∧ ox_le h r.2 ∧ ∃ n, ox_run (bsX10_step f1 f2) n 0 (lv_args 0 as) [] h = some r) : ox_Sem yX10_step cX10_step 3 none dp f := by
  refine ox_meth (bs := bsX10_step f1 f2) (by decide) hf ?_
  intro p l e R s m args below meth c g c0 t0 C hr hlk hnm hR rc hrc b
  unfold bsX10_step
  refine ox_br (kX10_step_0 C hr hlk hnm hR e0 h1 e1 h2 e2 hrc) ?_
  refine ox_br (kX10_step_8 C hr hlk hnm hR e0 h1 e1 h2 e2 hrc) ?_
  refine ox_br (kX10_step_48 C hr hlk hnm hR e0 h1 e1 h2 e2 hrc) ?_
  refine ox_br (kX10_step_83 C hr hlk hnm hR e0 h1 e1 h2 e2 hrc) ?_
  refine ox_br (kX10_step_84 C hr hlk hnm hR e0 h1 e1 h2 e2 hrc) ?_
  refine ox_br (kX10_step_103 C hr hlk hnm hR e0 h1 e1 h2 e2 hrc) ?_
  refine ox_br (kX10_step_107 C hr hlk hnm hR e0 h1 e1 h2 e2 hrc) ?_
  refine ox_br (kX10_step_108 C hr hlk hnm hR e0 h1 e1 h2 e2 hrc) ?_
  refine ox_br (kX10_step_120 C hr hlk hnm hR e0 h1 e1 h2 e2 hrc) ?_
  refine ox_br (kX10_step_133 C hr hlk hnm hR e0 h1 e1 h2 e2 hrc) ?_
  refine ox_br (kX10_step_134 C hr hlk hnm hR e0 h1 e1 h2 e2 hrc) ?_
  refine ox_br (kX10_step_174 C hr hlk hnm hR e0 h1 e1 h2 e2 hrc) ?_
  refine ox_br (kX10_step_186 C hr hlk hnm hR e0 h1 e1 h2 e2 hrc) ?_
  exact s_no
theorem dX10_isWord_0 : decode cX10_isWord 0 = .ok (.aload_n 0, 1) := by decide +kernel
theorem dX10_isWord_1 : decode cX10_isWord 1 = .ok (.getfield 30, 3) := by decide +kernel
theorem dX10_isWord_4 : decode cX10_isWord 4 = .ok (.iconst 1, 1) := by decide +kernel
theorem dX10_isWord_5 : decode cX10_isWord 5 = .ok (.if_icmp .ne 19, 3) := by decide +kernel
theorem dX10_isWord_8 : decode cX10_isWord 8 = .ok (.aload_n 0, 1) := by decide +kernel
theorem dX10_isWord_9 : decode cX10_isWord 9 = .ok (.getfield 17, 3) := by decide +kernel
theorem dX10_isWord_12 : decode cX10_isWord 12 = .ok (.aload_n 0, 1) := by decide +kernel
theorem dX10_isWord_13 : decode cX10_isWord 13 = .ok (.getfield 23, 3) := by decide +kernel
theorem dX10_isWord_16 : decode cX10_isWord 16 = .ok (.isub, 1) := by decide +kernel
theorem dX10_isWord_17 : decode cX10_isWord 17 = .ok (.aload_n 1, 1) := by decide +kernel
theorem dX10_isWord_18 : decode cX10_isWord 18 = .ok (.invokevirtual 42, 3) := by decide +kernel
theorem dX10_isWord_21 : decode cX10_isWord 21 = .ok (.if_icmp .eq 5, 3) := by decide +kernel
theorem dX10_isWord_24 : decode cX10_isWord 24 = .ok (.iconst 0, 1) := by decide +kernel
theorem dX10_isWord_25 : decode cX10_isWord 25 = .ok (.ireturn, 1) := by decide +kernel
theorem dX10_isWord_26 : decode cX10_isWord 26 = .ok (.iconst 0, 1) := by decide +kernel
theorem dX10_isWord_27 : decode cX10_isWord 27 = .ok (.istore_n 2, 1) := by decide +kernel
theorem dX10_isWord_28 : decode cX10_isWord 28 = .ok (.iload_n 2, 1) := by decide +kernel
theorem dX10_isWord_29 : decode cX10_isWord 29 = .ok (.aload_n 1, 1) := by decide +kernel
theorem dX10_isWord_30 : decode cX10_isWord 30 = .ok (.invokevirtual 42, 3) := by decide +kernel
theorem dX10_isWord_33 : decode cX10_isWord 33 = .ok (.if_icmp .ge 30, 3) := by decide +kernel
theorem dX10_isWord_36 : decode cX10_isWord 36 = .ok (.aload_n 0, 1) := by decide +kernel
theorem dX10_isWord_37 : decode cX10_isWord 37 = .ok (.getfield 9, 3) := by decide +kernel
theorem dX10_isWord_40 : decode cX10_isWord 40 = .ok (.aload_n 0, 1) := by decide +kernel
theorem dX10_isWord_41 : decode cX10_isWord 41 = .ok (.getfield 23, 3) := by decide +kernel
theorem dX10_isWord_44 : decode cX10_isWord 44 = .ok (.iload_n 2, 1) := by decide +kernel
theorem dX10_isWord_45 : decode cX10_isWord 45 = .ok (.iadd, 1) := by decide +kernel
theorem dX10_isWord_46 : decode cX10_isWord 46 = .ok (.baload, 1) := by decide +kernel
theorem dX10_isWord_47 : decode cX10_isWord 47 = .ok (.aload_n 1, 1) := by decide +kernel
theorem dX10_isWord_48 : decode cX10_isWord 48 = .ok (.iload_n 2, 1) := by decide +kernel
theorem dX10_isWord_49 : decode cX10_isWord 49 = .ok (.invokevirtual 47, 3) := by decide +kernel
theorem dX10_isWord_52 : decode cX10_isWord 52 = .ok (.if_icmp .eq 5, 3) := by decide +kernel
theorem dX10_isWord_55 : decode cX10_isWord 55 = .ok (.iconst 0, 1) := by decide +kernel
theorem dX10_isWord_56 : decode cX10_isWord 56 = .ok (.ireturn, 1) := by decide +kernel
theorem dX10_isWord_57 : decode cX10_isWord 57 = .ok (.iinc 2 1, 3) := by decide +kernel
theorem dX10_isWord_60 : decode cX10_isWord 60 = .ok (.goto (-32), 3) := by decide +kernel
theorem dX10_isWord_63 : decode cX10_isWord 63 = .ok (.iconst 1, 1) := by decide +kernel
theorem dX10_isWord_64 : decode cX10_isWord 64 = .ok (.ireturn, 1) := by decide +kernel
def bX10_isWord_0 (f1 f2 : ox_F) (rc : Nat → ox_K) : ox_K := o_al 0 (o_geti 10 2 (o_ic (1) (o_icne (rc 24) (o_al 0 (o_geti 10 4 (o_al 0 (o_geti 10 3 (o_isub (o_al 1 (o_cvS f1 0 (o_iceq (rc 26) (rc 24))))))))))))
def bX10_isWord_24 (f1 f2 : ox_F) (rc : Nat → ox_K) : ox_K := o_ic (0) (o_zret)
def bX10_isWord_26 (f1 f2 : ox_F) (rc : Nat → ox_K) : ox_K := o_ic (0) (o_is 2 (rc 28))
def bX10_isWord_28 (f1 f2 : ox_F) (rc : Nat → ox_K) : ox_K := o_keep [0, 1, 2] (o_il 2 (o_al 1 (o_cvS f1 0 (o_icge (rc 63) (o_al 0 (o_getr 10 0 (o_al 0 (o_geti 10 3 (o_il 2 (o_iadd (o_ba (o_al 1 (o_il 2 (o_cvS f2 1 (o_iceq (rc 57) (o_ic (0) (o_zret)))))))))))))))))
def bX10_isWord_57 (f1 f2 : ox_F) (rc : Nat → ox_K) : ox_K := o_inc 2 (1) (rc 28)
def bX10_isWord_63 (f1 f2 : ox_F) (rc : Nat → ox_K) : ox_K := o_ic (1) (o_zret)
section SX10_isWord
variable {p : Program} {l : Launch} {e : Env} {R : Room} {s : State} {m : MethodId} {args : Array Value} {below : List Frame} {meth : Method} {c : Code} {g : ox_G} {c0 t0 dp d1 d2 : Nat} {rc : Nat → ox_K} {f1 f2 : ox_F}
set_option maxRecDepth 100000 in
theorem kX10_isWord_0 (C : ox_C p s m args c g 3 cX10_isWord RX10) (hr : meth.sig.returnType = (some .boolean)) (hlk : meth.locks = false) (hnm : meth.name = "isWord") (hR : R.frames = dp ∧ R.locals = 60 * dp) (h1 : ox_Sem yJ0_length_8abf5 cJ0_length_8abf5 1 (some .int) d1 f1) (e1 : d1 + 1 ≤ dp) (h2 : ox_Sem yJ0_charAt_5068e cJ0_charAt_5068e 2 (some .char) d2 f2) (e2 : d2 + 1 ≤ dp) (hrc : ∀ b, ox_S p l e R s m args below meth c g 3 c0 t0 (ox_QM g below args s c0 t0) b (rc b)) : ox_S p l e R s m args below meth c g 3 c0 t0 (ox_QM g below args s c0 t0) 0 (bX10_isWord_0 f1 f2 rc) := by
  refine s_aload_n (pc := 0) C dX10_isWord_0 rfl ?_
  refine s_geti (pc := 1) (j := 2) (q := (RX10, TX10, 6)) C rfl (by decide) rfl wF_X10_30 dX10_isWord_1 ?_
  refine s_iconst (pc := 4) C dX10_isWord_4 (by decide) ?_
  refine s_icmpne (pc := 5) 24 C dX10_isWord_5 (by decide) (hrc 24) ?_
  refine s_aload_n (pc := 8) C dX10_isWord_8 rfl ?_
  refine s_geti (pc := 9) (j := 4) (q := (RX10, TX10, 6)) C rfl (by decide) rfl wF_X10_17 dX10_isWord_9 ?_
  refine s_aload_n (pc := 12) C dX10_isWord_12 rfl ?_
  refine s_geti (pc := 13) (j := 3) (q := (RX10, TX10, 6)) C rfl (by decide) rfl wF_X10_23 dX10_isWord_13 ?_
  refine s_isub (pc := 16) C dX10_isWord_16 ?_
  refine s_aload_n (pc := 17) C dX10_isWord_17 rfl ?_
  refine s_cvS (pc := 18) C h1 wM_X10_42 wI_J0_length_8abf5 wS_J0_length_8abf5 wN_J0 wC_J0_length_8abf5 (by decide +kernel) (ox_lv hR e1 (by decide)) dX10_isWord_18 ?_
  refine s_icmpeq (pc := 21) 26 C dX10_isWord_21 (by decide) (hrc 26) ?_
  exact hrc 24
set_option maxRecDepth 100000 in
theorem kX10_isWord_24 (C : ox_C p s m args c g 3 cX10_isWord RX10) (hr : meth.sig.returnType = (some .boolean)) (hlk : meth.locks = false) (hnm : meth.name = "isWord") (hR : R.frames = dp ∧ R.locals = 60 * dp) (h1 : ox_Sem yJ0_length_8abf5 cJ0_length_8abf5 1 (some .int) d1 f1) (e1 : d1 + 1 ≤ dp) (h2 : ox_Sem yJ0_charAt_5068e cJ0_charAt_5068e 2 (some .char) d2 f2) (e2 : d2 + 1 ≤ dp) (hrc : ∀ b, ox_S p l e R s m args below meth c g 3 c0 t0 (ox_QM g below args s c0 t0) b (rc b)) : ox_S p l e R s m args below meth c g 3 c0 t0 (ox_QM g below args s c0 t0) 24 (bX10_isWord_24 f1 f2 rc) := by
  refine s_iconst (pc := 24) C dX10_isWord_24 (by decide) ?_
  exact s_zret (pc := 25) C hr (by decide) hlk dX10_isWord_25
set_option maxRecDepth 100000 in
theorem kX10_isWord_26 (C : ox_C p s m args c g 3 cX10_isWord RX10) (hr : meth.sig.returnType = (some .boolean)) (hlk : meth.locks = false) (hnm : meth.name = "isWord") (hR : R.frames = dp ∧ R.locals = 60 * dp) (h1 : ox_Sem yJ0_length_8abf5 cJ0_length_8abf5 1 (some .int) d1 f1) (e1 : d1 + 1 ≤ dp) (h2 : ox_Sem yJ0_charAt_5068e cJ0_charAt_5068e 2 (some .char) d2 f2) (e2 : d2 + 1 ≤ dp) (hrc : ∀ b, ox_S p l e R s m args below meth c g 3 c0 t0 (ox_QM g below args s c0 t0) b (rc b)) : ox_S p l e R s m args below meth c g 3 c0 t0 (ox_QM g below args s c0 t0) 26 (bX10_isWord_26 f1 f2 rc) := by
  refine s_iconst (pc := 26) C dX10_isWord_26 (by decide) ?_
  refine s_istore_n (pc := 27) C dX10_isWord_27 rfl (by decide) ?_
  exact hrc 28
set_option maxRecDepth 100000 in
theorem kX10_isWord_28 (C : ox_C p s m args c g 3 cX10_isWord RX10) (hr : meth.sig.returnType = (some .boolean)) (hlk : meth.locks = false) (hnm : meth.name = "isWord") (hR : R.frames = dp ∧ R.locals = 60 * dp) (h1 : ox_Sem yJ0_length_8abf5 cJ0_length_8abf5 1 (some .int) d1 f1) (e1 : d1 + 1 ≤ dp) (h2 : ox_Sem yJ0_charAt_5068e cJ0_charAt_5068e 2 (some .char) d2 f2) (e2 : d2 + 1 ≤ dp) (hrc : ∀ b, ox_S p l e R s m args below meth c g 3 c0 t0 (ox_QM g below args s c0 t0) b (rc b)) : ox_S p l e R s m args below meth c g 3 c0 t0 (ox_QM g below args s c0 t0) 28 (bX10_isWord_28 f1 f2 rc) := by
  refine s_keep ?_
  refine s_iload_n (pc := 28) C dX10_isWord_28 rfl ?_
  refine s_aload_n (pc := 29) C dX10_isWord_29 rfl ?_
  refine s_cvS (pc := 30) C h1 wM_X10_42 wI_J0_length_8abf5 wS_J0_length_8abf5 wN_J0 wC_J0_length_8abf5 (by decide +kernel) (ox_lv hR e1 (by decide)) dX10_isWord_30 ?_
  refine s_icmpge (pc := 33) 63 C dX10_isWord_33 (by decide) (hrc 63) ?_
  refine s_aload_n (pc := 36) C dX10_isWord_36 rfl ?_
  refine s_getr (pc := 37) (j := 0) (q := (RX10, TX10, 6)) C rfl (by decide) rfl wF_X10_9 dX10_isWord_37 ?_
  refine s_aload_n (pc := 40) C dX10_isWord_40 rfl ?_
  refine s_geti (pc := 41) (j := 3) (q := (RX10, TX10, 6)) C rfl (by decide) rfl wF_X10_23 dX10_isWord_41 ?_
  refine s_iload_n (pc := 44) C dX10_isWord_44 rfl ?_
  refine s_iadd (pc := 45) C dX10_isWord_45 ?_
  refine s_ba (pc := 46) C dX10_isWord_46 ?_
  refine s_aload_n (pc := 47) C dX10_isWord_47 rfl ?_
  refine s_iload_n (pc := 48) C dX10_isWord_48 rfl ?_
  refine s_cvS (pc := 49) C h2 wM_X10_47 wI_J0_charAt_5068e wS_J0_charAt_5068e wN_J0 wC_J0_charAt_5068e (by decide +kernel) (ox_lv hR e2 (by decide)) dX10_isWord_49 ?_
  refine s_icmpeq (pc := 52) 57 C dX10_isWord_52 (by decide) (hrc 57) ?_
  refine s_iconst (pc := 55) C dX10_isWord_55 (by decide) ?_
  exact s_zret (pc := 56) C hr (by decide) hlk dX10_isWord_56
set_option maxRecDepth 100000 in
theorem kX10_isWord_57 (C : ox_C p s m args c g 3 cX10_isWord RX10) (hr : meth.sig.returnType = (some .boolean)) (hlk : meth.locks = false) (hnm : meth.name = "isWord") (hR : R.frames = dp ∧ R.locals = 60 * dp) (h1 : ox_Sem yJ0_length_8abf5 cJ0_length_8abf5 1 (some .int) d1 f1) (e1 : d1 + 1 ≤ dp) (h2 : ox_Sem yJ0_charAt_5068e cJ0_charAt_5068e 2 (some .char) d2 f2) (e2 : d2 + 1 ≤ dp) (hrc : ∀ b, ox_S p l e R s m args below meth c g 3 c0 t0 (ox_QM g below args s c0 t0) b (rc b)) : ox_S p l e R s m args below meth c g 3 c0 t0 (ox_QM g below args s c0 t0) 57 (bX10_isWord_57 f1 f2 rc) := by
  refine s_iinc (pc := 57) C dX10_isWord_57 (by decide) (by decide) ?_
  exact s_goto (pc := 60) 28 C dX10_isWord_60 (by decide) (hrc 28)
set_option maxRecDepth 100000 in
theorem kX10_isWord_63 (C : ox_C p s m args c g 3 cX10_isWord RX10) (hr : meth.sig.returnType = (some .boolean)) (hlk : meth.locks = false) (hnm : meth.name = "isWord") (hR : R.frames = dp ∧ R.locals = 60 * dp) (h1 : ox_Sem yJ0_length_8abf5 cJ0_length_8abf5 1 (some .int) d1 f1) (e1 : d1 + 1 ≤ dp) (h2 : ox_Sem yJ0_charAt_5068e cJ0_charAt_5068e 2 (some .char) d2 f2) (e2 : d2 + 1 ≤ dp) (hrc : ∀ b, ox_S p l e R s m args below meth c g 3 c0 t0 (ox_QM g below args s c0 t0) b (rc b)) : ox_S p l e R s m args below meth c g 3 c0 t0 (ox_QM g below args s c0 t0) 63 (bX10_isWord_63 f1 f2 rc) := by
  refine s_iconst (pc := 63) C dX10_isWord_63 (by decide) ?_
  exact s_zret (pc := 64) C hr (by decide) hlk dX10_isWord_64
end SX10_isWord
def bsX10_isWord (f1 f2 : ox_F) (b : Nat) (rc : Nat → ox_K) : ox_K := if b = 0 then bX10_isWord_0 f1 f2 rc else if b = 24 then bX10_isWord_24 f1 f2 rc else if b = 26 then bX10_isWord_26 f1 f2 rc else if b = 28 then bX10_isWord_28 f1 f2 rc else if b = 57 then bX10_isWord_57 f1 f2 rc else if b = 63 then bX10_isWord_63 f1 f2 rc else ox_no
theorem mX10_isWord {dp d1 d2 : Nat} {f1 f2 f : ox_F} (h1 : ox_Sem yJ0_length_8abf5 cJ0_length_8abf5 1 (some .int) d1 f1) (e1 : d1 + 1 ≤ dp) (h2 : ox_Sem yJ0_charAt_5068e cJ0_charAt_5068e 2 (some .char) d2 f2) (e2 : d2 + 1 ≤ dp) (hf : ∀ as h r, f as h = some r → ox_cs as ≤ 3 ∧ ox_le h r.2 ∧ ∃ n, ox_run (bsX10_isWord f1 f2) n 0 (lv_args 0 as) [] h = some r) : ox_Sem yX10_isWord cX10_isWord 3 (some .boolean) dp f := by
  refine ox_meth (bs := bsX10_isWord f1 f2) (by decide) hf ?_
  intro p l e R s m args below meth c g c0 t0 C hr hlk hnm hR rc hrc b
  unfold bsX10_isWord
  refine ox_br (kX10_isWord_0 C hr hlk hnm hR h1 e1 h2 e2 hrc) ?_
  refine ox_br (kX10_isWord_24 C hr hlk hnm hR h1 e1 h2 e2 hrc) ?_
  refine ox_br (kX10_isWord_26 C hr hlk hnm hR h1 e1 h2 e2 hrc) ?_
  refine ox_br (kX10_isWord_28 C hr hlk hnm hR h1 e1 h2 e2 hrc) ?_
  refine ox_br (kX10_isWord_57 C hr hlk hnm hR h1 e1 h2 e2 hrc) ?_
  refine ox_br (kX10_isWord_63 C hr hlk hnm hR h1 e1 h2 e2 hrc) ?_
  exact s_no
theorem dX10_takeFigures_0 : decode cX10_takeFigures 0 = .ok (.aload_n 0, 1) := by decide +kernel
theorem dX10_takeFigures_1 : decode cX10_takeFigures 1 = .ok (.getfield 17, 3) := by decide +kernel
theorem dX10_takeFigures_4 : decode cX10_takeFigures 4 = .ok (.aload_n 0, 1) := by decide +kernel
theorem dX10_takeFigures_5 : decode cX10_takeFigures 5 = .ok (.getfield 23, 3) := by decide +kernel
theorem dX10_takeFigures_8 : decode cX10_takeFigures 8 = .ok (.isub, 1) := by decide +kernel
theorem dX10_takeFigures_9 : decode cX10_takeFigures 9 = .ok (.iconst 4, 1) := by decide +kernel
theorem dX10_takeFigures_10 : decode cX10_takeFigures 10 = .ok (.if_icmp .le 9, 3) := by decide +kernel
theorem dX10_takeFigures_13 : decode cX10_takeFigures 13 = .ok (.aload_n 0, 1) := by decide +kernel
theorem dX10_takeFigures_14 : decode cX10_takeFigures 14 = .ok (.iconst 5, 1) := by decide +kernel
theorem dX10_takeFigures_15 : decode cX10_takeFigures 15 = .ok (.putfield 30, 3) := by decide +kernel
theorem dX10_takeFigures_18 : decode cX10_takeFigures 18 = .ok (.return_, 1) := by decide +kernel
theorem dX10_takeFigures_19 : decode cX10_takeFigures 19 = .ok (.aload_n 0, 1) := by decide +kernel
theorem dX10_takeFigures_20 : decode cX10_takeFigures 20 = .ok (.iconst 0, 1) := by decide +kernel
theorem dX10_takeFigures_21 : decode cX10_takeFigures 21 = .ok (.putfield 51, 3) := by decide +kernel
theorem dX10_takeFigures_24 : decode cX10_takeFigures 24 = .ok (.aload_n 0, 1) := by decide +kernel
theorem dX10_takeFigures_25 : decode cX10_takeFigures 25 = .ok (.getfield 23, 3) := by decide +kernel
theorem dX10_takeFigures_28 : decode cX10_takeFigures 28 = .ok (.istore_n 1, 1) := by decide +kernel
theorem dX10_takeFigures_29 : decode cX10_takeFigures 29 = .ok (.iload_n 1, 1) := by decide +kernel
theorem dX10_takeFigures_30 : decode cX10_takeFigures 30 = .ok (.aload_n 0, 1) := by decide +kernel
theorem dX10_takeFigures_31 : decode cX10_takeFigures 31 = .ok (.getfield 17, 3) := by decide +kernel
theorem dX10_takeFigures_34 : decode cX10_takeFigures 34 = .ok (.if_icmp .ge 30, 3) := by decide +kernel
theorem dX10_takeFigures_37 : decode cX10_takeFigures 37 = .ok (.aload_n 0, 1) := by decide +kernel
theorem dX10_takeFigures_38 : decode cX10_takeFigures 38 = .ok (.aload_n 0, 1) := by decide +kernel
theorem dX10_takeFigures_39 : decode cX10_takeFigures 39 = .ok (.getfield 51, 3) := by decide +kernel
theorem dX10_takeFigures_42 : decode cX10_takeFigures 42 = .ok (.bipush 10, 2) := by decide +kernel
theorem dX10_takeFigures_44 : decode cX10_takeFigures 44 = .ok (.imul, 1) := by decide +kernel
theorem dX10_takeFigures_45 : decode cX10_takeFigures 45 = .ok (.aload_n 0, 1) := by decide +kernel
theorem dX10_takeFigures_46 : decode cX10_takeFigures 46 = .ok (.getfield 9, 3) := by decide +kernel
theorem dX10_takeFigures_49 : decode cX10_takeFigures 49 = .ok (.iload_n 1, 1) := by decide +kernel
theorem dX10_takeFigures_50 : decode cX10_takeFigures 50 = .ok (.baload, 1) := by decide +kernel
theorem dX10_takeFigures_51 : decode cX10_takeFigures 51 = .ok (.bipush 48, 2) := by decide +kernel
theorem dX10_takeFigures_53 : decode cX10_takeFigures 53 = .ok (.isub, 1) := by decide +kernel
theorem dX10_takeFigures_54 : decode cX10_takeFigures 54 = .ok (.iadd, 1) := by decide +kernel
theorem dX10_takeFigures_55 : decode cX10_takeFigures 55 = .ok (.putfield 51, 3) := by decide +kernel
theorem dX10_takeFigures_58 : decode cX10_takeFigures 58 = .ok (.iinc 1 1, 3) := by decide +kernel
theorem dX10_takeFigures_61 : decode cX10_takeFigures 61 = .ok (.goto (-32), 3) := by decide +kernel
theorem dX10_takeFigures_64 : decode cX10_takeFigures 64 = .ok (.return_, 1) := by decide +kernel
def bX10_takeFigures_0 (rc : Nat → ox_K) : ox_K := o_al 0 (o_geti 10 4 (o_al 0 (o_geti 10 3 (o_isub (o_ic (4) (o_icle (rc 19) (o_al 0 (o_ic (5) (o_puti 10 2 (o_ret))))))))))
def bX10_takeFigures_19 (rc : Nat → ox_K) : ox_K := o_al 0 (o_ic (0) (o_puti 10 5 (o_al 0 (o_geti 10 3 (o_is 1 (rc 29))))))
def bX10_takeFigures_29 (rc : Nat → ox_K) : ox_K := o_keep [0, 1] (o_il 1 (o_al 0 (o_geti 10 4 (o_icge (rc 64) (o_al 0 (o_al 0 (o_geti 10 5 (o_ic (10) (o_imul (o_al 0 (o_getr 10 0 (o_il 1 (o_ba (o_ic (48) (o_isub (o_iadd (o_puti 10 5 (o_inc 1 (1) (rc 29)))))))))))))))))))
def bX10_takeFigures_64 (rc : Nat → ox_K) : ox_K := o_ret
section SX10_takeFigures
variable {p : Program} {l : Launch} {e : Env} {R : Room} {s : State} {m : MethodId} {args : Array Value} {below : List Frame} {meth : Method} {c : Code} {g : ox_G} {c0 t0 dp  : Nat} {rc : Nat → ox_K}
set_option maxRecDepth 100000 in
theorem kX10_takeFigures_0 (C : ox_C p s m args c g 2 cX10_takeFigures RX10) (hr : meth.sig.returnType = none) (hlk : meth.locks = false) (hnm : meth.name = "takeFigures") (hR : R.frames = dp ∧ R.locals = 60 * dp) (hrc : ∀ b, ox_S p l e R s m args below meth c g 2 c0 t0 (ox_QM g below args s c0 t0) b (rc b)) : ox_S p l e R s m args below meth c g 2 c0 t0 (ox_QM g below args s c0 t0) 0 (bX10_takeFigures_0 rc) := by
  refine s_aload_n (pc := 0) C dX10_takeFigures_0 rfl ?_
  refine s_geti (pc := 1) (j := 4) (q := (RX10, TX10, 6)) C rfl (by decide) rfl wF_X10_17 dX10_takeFigures_1 ?_
  refine s_aload_n (pc := 4) C dX10_takeFigures_4 rfl ?_
  refine s_geti (pc := 5) (j := 3) (q := (RX10, TX10, 6)) C rfl (by decide) rfl wF_X10_23 dX10_takeFigures_5 ?_
  refine s_isub (pc := 8) C dX10_takeFigures_8 ?_
  refine s_iconst (pc := 9) C dX10_takeFigures_9 (by decide) ?_
  refine s_icmple (pc := 10) 19 C dX10_takeFigures_10 (by decide) (hrc 19) ?_
  refine s_aload_n (pc := 13) C dX10_takeFigures_13 rfl ?_
  refine s_iconst (pc := 14) C dX10_takeFigures_14 (by decide) ?_
  refine s_puti (pc := 15) (j := 2) (q := (RX10, TX10, 6)) C rfl (by decide) rfl (Or.inl rfl) wF_X10_30 dX10_takeFigures_15 ?_
  exact s_ret (pc := 18) C hr hlk dX10_takeFigures_18
set_option maxRecDepth 100000 in
theorem kX10_takeFigures_19 (C : ox_C p s m args c g 2 cX10_takeFigures RX10) (hr : meth.sig.returnType = none) (hlk : meth.locks = false) (hnm : meth.name = "takeFigures") (hR : R.frames = dp ∧ R.locals = 60 * dp) (hrc : ∀ b, ox_S p l e R s m args below meth c g 2 c0 t0 (ox_QM g below args s c0 t0) b (rc b)) : ox_S p l e R s m args below meth c g 2 c0 t0 (ox_QM g below args s c0 t0) 19 (bX10_takeFigures_19 rc) := by
  refine s_aload_n (pc := 19) C dX10_takeFigures_19 rfl ?_
  refine s_iconst (pc := 20) C dX10_takeFigures_20 (by decide) ?_
  refine s_puti (pc := 21) (j := 5) (q := (RX10, TX10, 6)) C rfl (by decide) rfl (Or.inl rfl) wF_X10_51 dX10_takeFigures_21 ?_
  refine s_aload_n (pc := 24) C dX10_takeFigures_24 rfl ?_
  refine s_geti (pc := 25) (j := 3) (q := (RX10, TX10, 6)) C rfl (by decide) rfl wF_X10_23 dX10_takeFigures_25 ?_
  refine s_istore_n (pc := 28) C dX10_takeFigures_28 rfl (by decide) ?_
  exact hrc 29
set_option maxRecDepth 100000 in
theorem kX10_takeFigures_29 (C : ox_C p s m args c g 2 cX10_takeFigures RX10) (hr : meth.sig.returnType = none) (hlk : meth.locks = false) (hnm : meth.name = "takeFigures") (hR : R.frames = dp ∧ R.locals = 60 * dp) (hrc : ∀ b, ox_S p l e R s m args below meth c g 2 c0 t0 (ox_QM g below args s c0 t0) b (rc b)) : ox_S p l e R s m args below meth c g 2 c0 t0 (ox_QM g below args s c0 t0) 29 (bX10_takeFigures_29 rc) := by
  refine s_keep ?_
  refine s_iload_n (pc := 29) C dX10_takeFigures_29 rfl ?_
  refine s_aload_n (pc := 30) C dX10_takeFigures_30 rfl ?_
  refine s_geti (pc := 31) (j := 4) (q := (RX10, TX10, 6)) C rfl (by decide) rfl wF_X10_17 dX10_takeFigures_31 ?_
  refine s_icmpge (pc := 34) 64 C dX10_takeFigures_34 (by decide) (hrc 64) ?_
  refine s_aload_n (pc := 37) C dX10_takeFigures_37 rfl ?_
  refine s_aload_n (pc := 38) C dX10_takeFigures_38 rfl ?_
  refine s_geti (pc := 39) (j := 5) (q := (RX10, TX10, 6)) C rfl (by decide) rfl wF_X10_51 dX10_takeFigures_39 ?_
  refine s_bipush (pc := 42) C dX10_takeFigures_42 (by decide) ?_
  refine s_imul (pc := 44) C dX10_takeFigures_44 ?_
  refine s_aload_n (pc := 45) C dX10_takeFigures_45 rfl ?_
  refine s_getr (pc := 46) (j := 0) (q := (RX10, TX10, 6)) C rfl (by decide) rfl wF_X10_9 dX10_takeFigures_46 ?_
  refine s_iload_n (pc := 49) C dX10_takeFigures_49 rfl ?_
  refine s_ba (pc := 50) C dX10_takeFigures_50 ?_
  refine s_bipush (pc := 51) C dX10_takeFigures_51 (by decide) ?_
  refine s_isub (pc := 53) C dX10_takeFigures_53 ?_
  refine s_iadd (pc := 54) C dX10_takeFigures_54 ?_
  refine s_puti (pc := 55) (j := 5) (q := (RX10, TX10, 6)) C rfl (by decide) rfl (Or.inl rfl) wF_X10_51 dX10_takeFigures_55 ?_
  refine s_iinc (pc := 58) C dX10_takeFigures_58 (by decide) (by decide) ?_
  exact s_goto (pc := 61) 29 C dX10_takeFigures_61 (by decide) (hrc 29)
set_option maxRecDepth 100000 in
theorem kX10_takeFigures_64 (C : ox_C p s m args c g 2 cX10_takeFigures RX10) (hr : meth.sig.returnType = none) (hlk : meth.locks = false) (hnm : meth.name = "takeFigures") (hR : R.frames = dp ∧ R.locals = 60 * dp) (hrc : ∀ b, ox_S p l e R s m args below meth c g 2 c0 t0 (ox_QM g below args s c0 t0) b (rc b)) : ox_S p l e R s m args below meth c g 2 c0 t0 (ox_QM g below args s c0 t0) 64 (bX10_takeFigures_64 rc) := by
  exact s_ret (pc := 64) C hr hlk dX10_takeFigures_64
end SX10_takeFigures
def bsX10_takeFigures (b : Nat) (rc : Nat → ox_K) : ox_K := if b = 0 then bX10_takeFigures_0 rc else if b = 19 then bX10_takeFigures_19 rc else if b = 29 then bX10_takeFigures_29 rc else if b = 64 then bX10_takeFigures_64 rc else ox_no
theorem mX10_takeFigures {dp  : Nat} {f : ox_F} (hf : ∀ as h r, f as h = some r → ox_cs as ≤ 2 ∧ ox_le h r.2 ∧ ∃ n, ox_run (bsX10_takeFigures) n 0 (lv_args 0 as) [] h = some r) : ox_Sem yX10_takeFigures cX10_takeFigures 2 none dp f := by
  refine ox_meth (bs := bsX10_takeFigures) (by decide) hf ?_
  intro p l e R s m args below meth c g c0 t0 C hr hlk hnm hR rc hrc b
  unfold bsX10_takeFigures
  refine ox_br (kX10_takeFigures_0 C hr hlk hnm hR hrc) ?_
  refine ox_br (kX10_takeFigures_19 C hr hlk hnm hR hrc) ?_
  refine ox_br (kX10_takeFigures_29 C hr hlk hnm hR hrc) ?_
  refine ox_br (kX10_takeFigures_64 C hr hlk hnm hR hrc) ?_
  exact s_no
theorem dX10_kindOf_0 : decode cX10_kindOf 0 = .ok (.iload_n 0, 1) := by decide +kernel
theorem dX10_kindOf_1 : decode cX10_kindOf 1 = .ok (.bipush 97, 2) := by decide +kernel
theorem dX10_kindOf_3 : decode cX10_kindOf 3 = .ok (.if_icmp .lt 11, 3) := by decide +kernel
theorem dX10_kindOf_6 : decode cX10_kindOf 6 = .ok (.iload_n 0, 1) := by decide +kernel
theorem dX10_kindOf_7 : decode cX10_kindOf 7 = .ok (.bipush 122, 2) := by decide +kernel
theorem dX10_kindOf_9 : decode cX10_kindOf 9 = .ok (.if_icmp .gt 5, 3) := by decide +kernel
theorem dX10_kindOf_12 : decode cX10_kindOf 12 = .ok (.iconst 1, 1) := by decide +kernel
theorem dX10_kindOf_13 : decode cX10_kindOf 13 = .ok (.ireturn, 1) := by decide +kernel
theorem dX10_kindOf_14 : decode cX10_kindOf 14 = .ok (.iload_n 0, 1) := by decide +kernel
theorem dX10_kindOf_15 : decode cX10_kindOf 15 = .ok (.bipush 48, 2) := by decide +kernel
theorem dX10_kindOf_17 : decode cX10_kindOf 17 = .ok (.if_icmp .lt 11, 3) := by decide +kernel
theorem dX10_kindOf_20 : decode cX10_kindOf 20 = .ok (.iload_n 0, 1) := by decide +kernel
theorem dX10_kindOf_21 : decode cX10_kindOf 21 = .ok (.bipush 57, 2) := by decide +kernel
theorem dX10_kindOf_23 : decode cX10_kindOf 23 = .ok (.if_icmp .gt 5, 3) := by decide +kernel
theorem dX10_kindOf_26 : decode cX10_kindOf 26 = .ok (.iconst 2, 1) := by decide +kernel
theorem dX10_kindOf_27 : decode cX10_kindOf 27 = .ok (.ireturn, 1) := by decide +kernel
theorem dX10_kindOf_28 : decode cX10_kindOf 28 = .ok (.iload_n 0, 1) := by decide +kernel
theorem dX10_kindOf_29 : decode cX10_kindOf 29 = .ok (.bipush 32, 2) := by decide +kernel
theorem dX10_kindOf_31 : decode cX10_kindOf 31 = .ok (.if_icmp .eq 9, 3) := by decide +kernel
theorem dX10_kindOf_34 : decode cX10_kindOf 34 = .ok (.iload_n 0, 1) := by decide +kernel
theorem dX10_kindOf_35 : decode cX10_kindOf 35 = .ok (.bipush 10, 2) := by decide +kernel
theorem dX10_kindOf_37 : decode cX10_kindOf 37 = .ok (.if_icmp .ne 5, 3) := by decide +kernel
theorem dX10_kindOf_40 : decode cX10_kindOf 40 = .ok (.iconst 4, 1) := by decide +kernel
theorem dX10_kindOf_41 : decode cX10_kindOf 41 = .ok (.ireturn, 1) := by decide +kernel
theorem dX10_kindOf_42 : decode cX10_kindOf 42 = .ok (.iload_n 0, 1) := by decide +kernel
theorem dX10_kindOf_43 : decode cX10_kindOf 43 = .ok (.bipush 59, 2) := by decide +kernel
theorem dX10_kindOf_45 : decode cX10_kindOf 45 = .ok (.if_icmp .ne 7, 3) := by decide +kernel
theorem dX10_kindOf_48 : decode cX10_kindOf 48 = .ok (.iconst 3, 1) := by decide +kernel
theorem dX10_kindOf_49 : decode cX10_kindOf 49 = .ok (.goto 4, 3) := by decide +kernel
theorem dX10_kindOf_52 : decode cX10_kindOf 52 = .ok (.iconst 5, 1) := by decide +kernel
theorem dX10_kindOf_53 : decode cX10_kindOf 53 = .ok (.ireturn, 1) := by decide +kernel
def bX10_kindOf_0 (rc : Nat → ox_K) : ox_K := o_il 0 (o_ic (97) (o_iclt (rc 14) (o_il 0 (o_ic (122) (o_icgt (rc 14) (o_ic (1) (o_iret)))))))
def bX10_kindOf_14 (rc : Nat → ox_K) : ox_K := o_il 0 (o_ic (48) (o_iclt (rc 28) (o_il 0 (o_ic (57) (o_icgt (rc 28) (o_ic (2) (o_iret)))))))
def bX10_kindOf_28 (rc : Nat → ox_K) : ox_K := o_il 0 (o_ic (32) (o_iceq (rc 40) (o_il 0 (o_ic (10) (o_icne (rc 42) (rc 40))))))
def bX10_kindOf_40 (rc : Nat → ox_K) : ox_K := o_ic (4) (o_iret)
def bX10_kindOf_42 (rc : Nat → ox_K) : ox_K := o_il 0 (o_ic (59) (o_icne (rc 52) (o_ic (3) (rc 53))))
def bX10_kindOf_52 (rc : Nat → ox_K) : ox_K := o_ic (5) (rc 53)
def bX10_kindOf_53 (rc : Nat → ox_K) : ox_K := o_iret
section SX10_kindOf
variable {p : Program} {l : Launch} {e : Env} {R : Room} {s : State} {m : MethodId} {args : Array Value} {below : List Frame} {meth : Method} {c : Code} {g : ox_G} {c0 t0 dp  : Nat} {rc : Nat → ox_K}
set_option maxRecDepth 100000 in
theorem kX10_kindOf_0 (C : ox_C p s m args c g 1 cX10_kindOf RX10) (hr : meth.sig.returnType = (some .int)) (hlk : meth.locks = false) (hnm : meth.name = "kindOf") (hR : R.frames = dp ∧ R.locals = 60 * dp) (hrc : ∀ b, ox_S p l e R s m args below meth c g 1 c0 t0 (ox_QM g below args s c0 t0) b (rc b)) : ox_S p l e R s m args below meth c g 1 c0 t0 (ox_QM g below args s c0 t0) 0 (bX10_kindOf_0 rc) := by
  refine s_iload_n (pc := 0) C dX10_kindOf_0 rfl ?_
  refine s_bipush (pc := 1) C dX10_kindOf_1 (by decide) ?_
  refine s_icmplt (pc := 3) 14 C dX10_kindOf_3 (by decide) (hrc 14) ?_
  refine s_iload_n (pc := 6) C dX10_kindOf_6 rfl ?_
  refine s_bipush (pc := 7) C dX10_kindOf_7 (by decide) ?_
  refine s_icmpgt (pc := 9) 14 C dX10_kindOf_9 (by decide) (hrc 14) ?_
  refine s_iconst (pc := 12) C dX10_kindOf_12 (by decide) ?_
  exact s_iret (pc := 13) C hr hlk dX10_kindOf_13
set_option maxRecDepth 100000 in
theorem kX10_kindOf_14 (C : ox_C p s m args c g 1 cX10_kindOf RX10) (hr : meth.sig.returnType = (some .int)) (hlk : meth.locks = false) (hnm : meth.name = "kindOf") (hR : R.frames = dp ∧ R.locals = 60 * dp) (hrc : ∀ b, ox_S p l e R s m args below meth c g 1 c0 t0 (ox_QM g below args s c0 t0) b (rc b)) : ox_S p l e R s m args below meth c g 1 c0 t0 (ox_QM g below args s c0 t0) 14 (bX10_kindOf_14 rc) := by
  refine s_iload_n (pc := 14) C dX10_kindOf_14 rfl ?_
  refine s_bipush (pc := 15) C dX10_kindOf_15 (by decide) ?_
  refine s_icmplt (pc := 17) 28 C dX10_kindOf_17 (by decide) (hrc 28) ?_
  refine s_iload_n (pc := 20) C dX10_kindOf_20 rfl ?_
  refine s_bipush (pc := 21) C dX10_kindOf_21 (by decide) ?_
  refine s_icmpgt (pc := 23) 28 C dX10_kindOf_23 (by decide) (hrc 28) ?_
  refine s_iconst (pc := 26) C dX10_kindOf_26 (by decide) ?_
  exact s_iret (pc := 27) C hr hlk dX10_kindOf_27
set_option maxRecDepth 100000 in
theorem kX10_kindOf_28 (C : ox_C p s m args c g 1 cX10_kindOf RX10) (hr : meth.sig.returnType = (some .int)) (hlk : meth.locks = false) (hnm : meth.name = "kindOf") (hR : R.frames = dp ∧ R.locals = 60 * dp) (hrc : ∀ b, ox_S p l e R s m args below meth c g 1 c0 t0 (ox_QM g below args s c0 t0) b (rc b)) : ox_S p l e R s m args below meth c g 1 c0 t0 (ox_QM g below args s c0 t0) 28 (bX10_kindOf_28 rc) := by
  refine s_iload_n (pc := 28) C dX10_kindOf_28 rfl ?_
  refine s_bipush (pc := 29) C dX10_kindOf_29 (by decide) ?_
  refine s_icmpeq (pc := 31) 40 C dX10_kindOf_31 (by decide) (hrc 40) ?_
  refine s_iload_n (pc := 34) C dX10_kindOf_34 rfl ?_
  refine s_bipush (pc := 35) C dX10_kindOf_35 (by decide) ?_
  refine s_icmpne (pc := 37) 42 C dX10_kindOf_37 (by decide) (hrc 42) ?_
  exact hrc 40
set_option maxRecDepth 100000 in
theorem kX10_kindOf_40 (C : ox_C p s m args c g 1 cX10_kindOf RX10) (hr : meth.sig.returnType = (some .int)) (hlk : meth.locks = false) (hnm : meth.name = "kindOf") (hR : R.frames = dp ∧ R.locals = 60 * dp) (hrc : ∀ b, ox_S p l e R s m args below meth c g 1 c0 t0 (ox_QM g below args s c0 t0) b (rc b)) : ox_S p l e R s m args below meth c g 1 c0 t0 (ox_QM g below args s c0 t0) 40 (bX10_kindOf_40 rc) := by
  refine s_iconst (pc := 40) C dX10_kindOf_40 (by decide) ?_
  exact s_iret (pc := 41) C hr hlk dX10_kindOf_41
set_option maxRecDepth 100000 in
theorem kX10_kindOf_42 (C : ox_C p s m args c g 1 cX10_kindOf RX10) (hr : meth.sig.returnType = (some .int)) (hlk : meth.locks = false) (hnm : meth.name = "kindOf") (hR : R.frames = dp ∧ R.locals = 60 * dp) (hrc : ∀ b, ox_S p l e R s m args below meth c g 1 c0 t0 (ox_QM g below args s c0 t0) b (rc b)) : ox_S p l e R s m args below meth c g 1 c0 t0 (ox_QM g below args s c0 t0) 42 (bX10_kindOf_42 rc) := by
  refine s_iload_n (pc := 42) C dX10_kindOf_42 rfl ?_
  refine s_bipush (pc := 43) C dX10_kindOf_43 (by decide) ?_
  refine s_icmpne (pc := 45) 52 C dX10_kindOf_45 (by decide) (hrc 52) ?_
  refine s_iconst (pc := 48) C dX10_kindOf_48 (by decide) ?_
  exact s_goto (pc := 49) 53 C dX10_kindOf_49 (by decide) (hrc 53)
set_option maxRecDepth 100000 in
theorem kX10_kindOf_52 (C : ox_C p s m args c g 1 cX10_kindOf RX10) (hr : meth.sig.returnType = (some .int)) (hlk : meth.locks = false) (hnm : meth.name = "kindOf") (hR : R.frames = dp ∧ R.locals = 60 * dp) (hrc : ∀ b, ox_S p l e R s m args below meth c g 1 c0 t0 (ox_QM g below args s c0 t0) b (rc b)) : ox_S p l e R s m args below meth c g 1 c0 t0 (ox_QM g below args s c0 t0) 52 (bX10_kindOf_52 rc) := by
  refine s_iconst (pc := 52) C dX10_kindOf_52 (by decide) ?_
  exact hrc 53
set_option maxRecDepth 100000 in
theorem kX10_kindOf_53 (C : ox_C p s m args c g 1 cX10_kindOf RX10) (hr : meth.sig.returnType = (some .int)) (hlk : meth.locks = false) (hnm : meth.name = "kindOf") (hR : R.frames = dp ∧ R.locals = 60 * dp) (hrc : ∀ b, ox_S p l e R s m args below meth c g 1 c0 t0 (ox_QM g below args s c0 t0) b (rc b)) : ox_S p l e R s m args below meth c g 1 c0 t0 (ox_QM g below args s c0 t0) 53 (bX10_kindOf_53 rc) := by
  exact s_iret (pc := 53) C hr hlk dX10_kindOf_53
end SX10_kindOf
def bsX10_kindOf (b : Nat) (rc : Nat → ox_K) : ox_K := if b = 0 then bX10_kindOf_0 rc else if b = 14 then bX10_kindOf_14 rc else if b = 28 then bX10_kindOf_28 rc else if b = 40 then bX10_kindOf_40 rc else if b = 42 then bX10_kindOf_42 rc else if b = 52 then bX10_kindOf_52 rc else if b = 53 then bX10_kindOf_53 rc else ox_no
theorem mX10_kindOf {dp  : Nat} {f : ox_F} (hf : ∀ as h r, f as h = some r → ox_cs as ≤ 1 ∧ ox_le h r.2 ∧ ∃ n, ox_run (bsX10_kindOf) n 0 (lv_args 0 as) [] h = some r) : ox_Sem yX10_kindOf cX10_kindOf 1 (some .int) dp f := by
  refine ox_meth (bs := bsX10_kindOf) (by decide) hf ?_
  intro p l e R s m args below meth c g c0 t0 C hr hlk hnm hR rc hrc b
  unfold bsX10_kindOf
  refine ox_br (kX10_kindOf_0 C hr hlk hnm hR hrc) ?_
  refine ox_br (kX10_kindOf_14 C hr hlk hnm hR hrc) ?_
  refine ox_br (kX10_kindOf_28 C hr hlk hnm hR hrc) ?_
  refine ox_br (kX10_kindOf_40 C hr hlk hnm hR hrc) ?_
  refine ox_br (kX10_kindOf_42 C hr hlk hnm hR hrc) ?_
  refine ox_br (kX10_kindOf_52 C hr hlk hnm hR hrc) ?_
  refine ox_br (kX10_kindOf_53 C hr hlk hnm hR hrc) ?_
  exact s_no
