theorem dJ1_charAt_3b067_0 : decode cJ1_charAt_3b067 0 = .ok (.iload_n 1, 1) := by decide +kernel
theorem dJ1_charAt_3b067_1 : decode cJ1_charAt_3b067 1 = .ok (.aload_n 0, 1) := by decide +kernel
theorem dJ1_charAt_3b067_2 : decode cJ1_charAt_3b067 2 = .ok (.arraylength, 1) := by decide +kernel
theorem dJ1_charAt_3b067_3 : decode cJ1_charAt_3b067 3 = .ok (.invokestatic 9, 3) := by decide +kernel
theorem dJ1_charAt_3b067_6 : decode cJ1_charAt_3b067 6 = .ok (.aload_n 0, 1) := by decide +kernel
theorem dJ1_charAt_3b067_7 : decode cJ1_charAt_3b067 7 = .ok (.iload_n 1, 1) := by decide +kernel
theorem dJ1_charAt_3b067_8 : decode cJ1_charAt_3b067 8 = .ok (.baload, 1) := by decide +kernel
theorem dJ1_charAt_3b067_9 : decode cJ1_charAt_3b067 9 = .ok (.sipush 255, 3) := by decide +kernel
theorem dJ1_charAt_3b067_12 : decode cJ1_charAt_3b067 12 = .ok (.iand, 1) := by decide +kernel
theorem dJ1_charAt_3b067_13 : decode cJ1_charAt_3b067 13 = .ok (.i2c, 1) := by decide +kernel
theorem dJ1_charAt_3b067_14 : decode cJ1_charAt_3b067 14 = .ok (.ireturn, 1) := by decide +kernel
def bJ1_charAt_3b067_0 (f1 : ox_F) (rc : Nat → ox_K) : ox_K := o_il 1 (o_al 0 (o_len (o_ct f1 2 (o_al 0 (o_il 1 (o_ba (o_ic (255) (o_iand (o_i2c (o_cret 255))))))))))
section SJ1_charAt_3b067
variable {p : Program} {l : Launch} {e : Env} {R : Room} {s : State} {m : MethodId} {args : Array Value} {below : List Frame} {meth : Method} {c : Code} {g : ox_G} {c0 t0 dp d1 : Nat} {rc : Nat → ox_K} {f1 : ox_F}
set_option maxRecDepth 100000 in
theorem kJ1_charAt_3b067_0 (C : ox_C p s m args c g 2 cJ1_charAt_3b067 RJ1) (hr : meth.sig.returnType = (some .char)) (hlk : meth.locks = false) (hnm : meth.name = "charAt") (hR : R.frames = dp ∧ R.locals = 60 * dp) (h1 : ox_Sem yJ0_checkIndex_df160 cJ0_checkIndex_df160 2 none d1 f1) (e1 : d1 + 1 ≤ dp) (hrc : ∀ b, ox_S p l e R s m args below meth c g 2 c0 t0 (ox_QM g below args s c0 t0) b (rc b)) : ox_S p l e R s m args below meth c g 2 c0 t0 (ox_QM g below args s c0 t0) 0 (bJ1_charAt_3b067_0 f1 rc) := by
  refine s_iload_n (pc := 0) C dJ1_charAt_3b067_0 rfl ?_
  refine s_aload_n (pc := 1) C dJ1_charAt_3b067_1 rfl ?_
  refine s_len (pc := 2) C dJ1_charAt_3b067_2 ?_
  refine s_ct (pc := 3) C h1 wM_J1_9 wT_J0_checkIndex_df160 wN_J0 wC_J0_checkIndex_df160 (by decide +kernel) (ox_lv hR e1 (by decide)) dJ1_charAt_3b067_3 ?_
  refine s_aload_n (pc := 6) C dJ1_charAt_3b067_6 rfl ?_
  refine s_iload_n (pc := 7) C dJ1_charAt_3b067_7 rfl ?_
  refine s_ba (pc := 8) C dJ1_charAt_3b067_8 ?_
  refine s_sipush (pc := 9) C dJ1_charAt_3b067_9 (by decide) ?_
  refine s_iand (pc := 12) C dJ1_charAt_3b067_12 ?_
  refine s_i2c (pc := 13) C dJ1_charAt_3b067_13 ?_
  exact s_cret (pc := 14) C hr hlk dJ1_charAt_3b067_14
end SJ1_charAt_3b067
def bsJ1_charAt_3b067 (f1 : ox_F) (b : Nat) (rc : Nat → ox_K) : ox_K := if b = 0 then bJ1_charAt_3b067_0 f1 rc else ox_no
theorem mJ1_charAt_3b067 {dp d1 : Nat} {f1 f : ox_F} (h1 : ox_Sem yJ0_checkIndex_df160 cJ0_checkIndex_df160 2 none d1 f1) (e1 : d1 + 1 ≤ dp) (hf : ∀ as h r, f as h = some r → ox_cs as ≤ 2 ∧ ox_le h r.2 ∧ ∃ n, ox_run (bsJ1_charAt_3b067 f1) n 0 (lv_args 0 as) [] h = some r) : ox_Sem yJ1_charAt_3b067 cJ1_charAt_3b067 2 (some .char) dp f := by
  refine ox_meth (bs := bsJ1_charAt_3b067 f1) (by decide) hf ?_
  intro p l e R s m args below meth c g c0 t0 C hr hlk hnm hR rc hrc b
  unfold bsJ1_charAt_3b067
  refine ox_br (kJ1_charAt_3b067_0 C hr hlk hnm hR h1 e1 hrc) ?_
  exact s_no
