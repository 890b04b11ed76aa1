section OXU
variable {p : Program} {l : Launch} {e : Env} {R : Room} {s : State} {m : MethodId} {args : Array Value} {below : List Frame} {meth : Method} {c : Code}
variable {g : ox_G} {nL c0 t0 : Nat} {Qf : ox_R → State → Prop} {cc : ByteArray} {own : String} {pc : Nat} {k kt kf : ox_K}

def o_cvS (f : ox_F) (n : Nat) (k : ox_K) : ox_K := fun lv st h => match st.drop n with
  | .ref b :: rest => if ((ox_sh h b).1 = 6 ∧ b < 16) ∧ ox_cs rest ≤ 8 ∧ (st.take n).length = n then (match f (.ref b :: (st.take n).reverse) h with
    | some r => k lv (r.1.toList ++ rest) r.2
    | none => none) else none
  | _ => none
theorem s_cvS {y : MethodName} {by_ : ByteArray} {maxL dp n idx : Nat} {ret : Option FieldType} {f : ox_F} (C : ox_C p s m args c g nL cc own) (hf : ox_Sem y by_ maxL ret dp f) (w1 : Cond.methodLink own idx y ∈ ox_W) (w2 : Cond.instanceMethod y ∈ ox_W) (w3 : Cond.selects "java/lang/String" y y ∈ ox_W) (w4 : Cond.initialized "java/lang/String" ∈ ox_W) (w5 : Cond.code y by_ maxL ret ∈ ox_W) (hd : y.cls = "java/lang/String" ∧ y.cls ≠ "java/lang/invoke/MethodHandle" ∧ y.cls ≠ "java/lang/invoke/VarHandle" ∧ (parseMethodDescriptor y.desc).map (fun d => d.parameters.length) = some n) (hR : dp + 1 ≤ R.frames ∧ 8 + (maxL + 11) + 60 * dp ≤ R.locals) (d : decode cc pc = .ok (.invokevirtual idx, 3)) (hk : ox_S p l e R s m args below meth c g nL c0 t0 Qf (pc + 3) k) : ox_S p l e R s m args below meth c g nL c0 t0 Qf pc (o_cvS f n k) := by
  intro lv st h r e
  unfold o_cvS at e
  split at e
  · next b rest hst =>
    split at e
    · next hc =>
      obtain ⟨hsh, hcs, hln⟩ := hc
      split at e
      · next r1 hf1 =>
        obtain ⟨m1, m2⟩ := hf l g _ _ _ hf1
        obtain ⟨h1, h2⟩ := hk _ _ _ _ e
        refine ⟨ox_le.tr m1 h1, fun H locs ls a1 a2 a3 a4 => ?_⟩
        obtain ⟨b1, b2, b3, b4⟩ := a4
        obtain ⟨m3, m4⟩ := m1
        obtain ⟨h3, h4⟩ := h1
        obtain ⟨cell, v1, v2, v3, v4⟩ := ((a1.2.2.2 b hsh.2).2.2.2 (ox_sh h b).2 (by rw [← hsh.1])).1
        have hG : GoodIn ox_W (wsV own idx "java/lang/String" y (Cond.code y by_ maxL ret :: ox_W)) := by
          intro w hw
          unfold wsV at hw
          have hw2 : w ∈ ox_W := by
            simp only [List.mem_append, List.mem_cons, List.not_mem_nil, or_false] at hw
            rcases hw with (e1 | e1 | e1 | e1) | e1 | e1
            · rw [e1]; exact w1
            · rw [e1]; exact w2
            · rw [e1]; exact w3
            · rw [e1]; exact w4
            · rw [e1]; exact w5
            · exact e1
          exact ⟨hw2, good_of_word (ox_Wg hw2)⟩
        rw [ox_stk st n, hst]
        refine ox_call (Qa := fun _ _ _ => True) (rest := rest.map (ox_cv g)) (va_runV (Ts := ox_W) (As := (st.take n).reverse.map (ox_cv g)) (b := ox_ca g b) ⟨C.1, C.2.1, C.2.2.1, C.2.2.2.1, C.2.2.2.2.1⟩ m2 (cwV n C.2.2.2.2.1 hG rfl rfl rfl hd hR) ⟨ox_blind, ⟨cell, v1, v2, v3⟩, ox_pre C a1 a2⟩ rfl (by rw [List.length_map, List.length_reverse]; exact hln) a3.1 rfl (lv_room (by rw [ox_cs_map]; exact hcs)) d ⟨by omega, by omega⟩) a2 (fun H1 locs1 c1 c2 => ?_)
        have := h2 H1 locs1 ls c1 c2 a3 ⟨by omega, by omega, b3, b4⟩
        rw [ox_tail, show ox_n h - c0 + (ox_n r1.2 - ox_n h) = ox_n r1.2 - c0 by omega, show ox_t h - t0 + (ox_t r1.2 - ox_t h) = ox_t r1.2 - t0 by omega]
        exact this
      · cases e
    · cases e
  · cases e
def o_acopy (k : ox_K) : ox_K := fun lv st h => match st with
  | .int n :: .int dp :: .ref a :: .int sp :: .ref b :: st => if ((ox_sh h a).1 = 1 ∧ (ox_sh h b).1 = 1) ∧ (0 ≤ n.toInt ∧ 0 ≤ dp.toInt ∧ 0 ≤ sp.toInt) ∧ (sp.toInt + n.toInt ≤ ((ox_sh h b).2 : Int) ∧ dp.toInt + n.toInt ≤ ((ox_sh h a).2 : Int)) ∧ ox_cs st ≤ 8 then k lv st (ox_wa h a (va_cpy (h.2.1 b) (h.2.1 a) sp.toNatClampNeg dp.toNatClampNeg n.toNatClampNeg)) else none
  | _ => none
theorem ox_tc {z : Int32} (hz : 0 ≤ z.toInt) : (z.toNatClampNeg : Int) = z.toInt ∧ ¬ z < 0 := by
  refine ⟨?_, fun q => ?_⟩
  · show ((z.toInt.toNat : Nat) : Int) = z.toInt
    omega
  · have := Int32.lt_iff_toInt_lt.mp q
    have e0 : (0 : Int32).toInt = 0 := rfl
    omega
theorem s_acopy {idx : Nat} (C : ox_C p s m args c g nL cc own) (w1 : Cond.methodLink own idx arraycopyName ∈ ox_W) (w2 : Cond.native arraycopyName ∈ ox_W) (w3 : Cond.static arraycopyName ∈ ox_W) (w4 : Cond.initialized "java/lang/System" ∈ ox_W) (hR : 1 ≤ R.frames ∧ 8 + (nativeFrameWords "java/lang/System" "arraycopy" 5 + 11) ≤ R.locals) (d : decode cc pc = .ok (.invokestatic idx, 3)) (hk : ox_S p l e R s m args below meth c g nL c0 t0 Qf (pc + 3) k) : ox_S p l e R s m args below meth c g nL c0 t0 Qf pc (o_acopy k) := by
  intro lv st h r e
  unfold o_acopy at e
  split at e
  · next n dp a sp b st2 =>
    split at e
    · next hc =>
      obtain ⟨⟨ha1, hb1⟩, ⟨hn0, hd0, hs0⟩, ⟨hsn, hdn⟩, hcs⟩ := hc
      obtain ⟨h1, h2⟩ := hk _ _ _ _ e
      refine ⟨h1, fun H locs ls a1 a2 a3 a4 => ?_⟩
      obtain ⟨n1, n2⟩ := ox_tc hn0
      obtain ⟨d1, d2⟩ := ox_tc hd0
      obtain ⟨s1, s2⟩ := ox_tc hs0
      have hsa : ox_sh h a = (1, (ox_sh h a).2) := by rw [← ha1]
      have hsb : ox_sh h b = (1, (ox_sh h b).2) := by rw [← hb1]
      obtain ⟨ha16, -, hca⟩ := ox_arr a1 hsa (Or.inl rfl)
      obtain ⟨hb16, -, hcb⟩ := ox_arr a1 hsb (Or.inl rfl)
      have hAT := (C.2.2.2.2.2.1.2 0 (g.2.2.2 1, .int) rfl).1
      obtain ⟨-, k0, hk0, cm0, hkk0⟩ := hAT (ox_sh h b).2 (fun i => .int (h.2.1 b i))
      obtain ⟨-, k1, hk1, cm1, hkk1⟩ := hAT (ox_sh h a).2 (fun i => .int (h.2.1 a i))
      intro T hT X
      obtain ⟨vm', X', step⟩ := X.arraycopy C.1 C.2.2.2.1 (C.2.2.2.2.1 _ w1) (C.2.2.2.2.1 _ w2) (C.2.2.2.2.1 _ w3) (C.2.2.2.2.1 _ w4) (src := ox_ca g b) (dst := ox_ca g a) (cs := arrV (g.2.2.2 1) (ox_sh h b).2 (fun i => .int (h.2.1 b i))) (cd := arrV (g.2.2.2 1) (ox_sh h a).2 (fun i => .int (h.2.1 a i))) (srcPos := sp) (destPos := dp) (n := n) (by rw [hT]; exact hcb) (by rw [hT]; exact hca)
        (fun _ h => by cases h) (fun _ h => by cases h) (fun h => by cases h) (fun h => by cases h) hk0 hk1 hkk0 hkk1 (by simp [refKind]) s2 d2 n2
        (by rw [arrV_size]; omega) (by rw [arrV_size]; omega)
        (fun vm₁ _ i hi => by
          have e9 : (arrV (g.2.2.2 1) (ox_sh h b).2 (fun i => Value.int (h.2.1 b i))).slots.getD (sp.toNatClampNeg + i) .null = .int (h.2.1 b (sp.toNatClampNeg + i)) := by
            rw [Array.getD_eq_getD_getElem?, arrV_read _ _ (by omega)]
            rfl
          refine ⟨?_, ?_⟩
          · rw [e9]
            rfl
          · rw [e9]
            exact trivial)
        (g := F0 m pc ls (.int n :: .int dp :: .ref (ox_ca g a) :: .int sp :: .ref (ox_ca g b) :: st2.map (ox_cv g))) rfl (by rw [C.2.2.1]; exact a3.1) (rest := st2.map (ox_cv g)) rfl (by rw [C.2.1]; exact d) hR.1 (by have := ox_cs_map (g := g) st2; show 2 * 0 + _ + _ ≤ _; omega)
      have e1 : copied (arrV (g.2.2.2 1) (ox_sh h b).2 (fun i => Value.int (h.2.1 b i))) (arrV (g.2.2.2 1) (ox_sh h a).2 (fun i => Value.int (h.2.1 a i))) sp dp n = arrV (g.2.2.2 1) (ox_sh h a).2 (fun i => .int (va_cpy (h.2.1 b) (h.2.1 a) sp.toNatClampNeg dp.toNatClampNeg n.toNatClampNeg i)) := va_copied (fun z => .int z) _ _ (h.2.1 b) (h.2.1 a) (by omega)
      rw [e1] at X' step
      have hl : ox_ca g a < H.size := (Array.getElem?_eq_some_iff.mp hca).1
      generalize hcv : arrV (g.2.2.2 1) (ox_sh h a).2 (fun i => .int (va_cpy (h.2.1 b) (h.2.1 a) sp.toNatClampNeg dp.toNatClampNeg n.toNatClampNeg i)) = cv at X' step
      have hheap : ((T.setVm vm').setCell (ox_ca g a) cv).heap = H.setIfInBounds (ox_ca g a) cv := by rw [← hT]; rfl
      have oq : ∀ q : Nat, q ≠ ox_ca g a → (H.setIfInBounds (ox_ca g a) cv)[q]? = H[q]? := fun q hq => by simp [Array.getElem?_setIfInBounds, Ne.symm hq]
      have eq1 : (H.setIfInBounds (ox_ca g a) cv)[ox_ca g a]? = some cv := by simp [Array.getElem?_setIfInBounds, hl]
      have hs2 : ox_sh (ox_wa h a (va_cpy (h.2.1 b) (h.2.1 a) sp.toNatClampNeg dp.toNatClampNeg n.toNatClampNeg)) a = (1, (ox_sh h a).2) := hsa
      have hpic := a1.put (h2 := ox_wa h a (va_cpy (h.2.1 b) (h.2.1 a) sp.toNatClampNeg dp.toNatClampNeg n.toNatClampNeg)) (H1 := H.setIfInBounds (ox_ca g a) cv) ha16 rfl (fun x hx => (show va_up h.2.1 a _ x = h.2.1 x from if_neg hx)) (fun x hx => rfl) (by simp) oq (by
        refine ⟨fun c2 qq => ?_, fun d2 n2 qq hd2 => ?_, fun c2 n2 qq => ?_⟩
        · rw [hs2] at qq
          have := (Prod.mk.inj qq).1
          omega
        · rw [hs2] at qq
          cases qq
          rw [eq1, ← hcv]
          congr 2
          funext i
          show _ = Value.int (va_up h.2.1 a _ a i)
          unfold va_up
          rw [if_pos rfl]
        · rw [hs2] at qq
          have := (Prod.mk.inj qq).1
          omega)
      obtain ⟨t, b1, b2⟩ := h2 (H.setIfInBounds (ox_ca g a) cv) _ ls hpic ⟨by simp; exact a2.1, fun q g1 g2 => by
          rw [oq q (fun e => g2 (by rw [e]; exact ox_A_in ha16))]
          exact a2.2.1 q g1 g2, fun q hq => by
          rcases List.mem_append.mp hq with h | h
          · exact a2.2.2 q h
          · obtain ⟨z, -, hz⟩ := List.mem_map.mp h
            rw [← hz]
            exact ox_A_in ha16⟩ a3 a4 _ hheap X'
      exact ⟨t, step t b1, b2⟩
    · cases e
  · cases e
theorem ox_lv {dp d maxL : Nat} (h : R.frames = dp ∧ R.locals = 60 * dp) (hd : d + 1 ≤ dp) (hm : maxL ≤ 41) : d + 1 ≤ R.frames ∧ 8 + (maxL + 11) + 60 * d ≤ R.locals := by omega
theorem ox_lv1 {dp : Nat} (h : R.frames = dp ∧ R.locals = 60 * dp) (hd : 1 ≤ dp) : 1 ≤ R.frames ∧ 20 ≤ R.locals := by omega
theorem ox_lv2 {dp : Nat} (h : R.frames = dp ∧ R.locals = 60 * dp) (hd : 1 ≤ dp) : 1 ≤ R.frames ∧ 8 + (nativeFrameWords "java/lang/System" "arraycopy" 5 + 11) ≤ R.locals := by
  have : nativeFrameWords "java/lang/System" "arraycopy" 5 ≤ 41 := by decide
  omega
theorem ox_ts {rc : Nat → ox_K} (h : ∀ b, ox_S p l e R s m args below meth c g nL c0 t0 Qf b (rc b)) (ts : List Nat) : ∀ (i t : Nat) (k : ox_K), ts[i]? = some t → (ts.map rc)[i]? = some k → ox_S p l e R s m args below meth c g nL c0 t0 Qf t k := by
  intro i t k h1 h2
  rw [List.getElem?_map, h1] at h2
  cases h2
  exact h t
def o_mmax (k : ox_K) : ox_K := fun lv st h => match st with
  | .int y :: .int x :: st => if ox_cs st ≤ 8 then k lv (.int (if x < y then y else x) :: st) h else none
  | _ => none
theorem s_mmax {idx : Nat} (C : ox_C p s m args c g nL cc own) (w1 : Cond.methodLink own idx Lib.Math.max.name ∈ ox_W) (w2 : Cond.static Lib.Math.max.name ∈ ox_W) (w3 : Cond.initialized "java/lang/Math" ∈ ox_W) (w4 : Cond.code Lib.Math.max.name Lib.Math.max.code 2 (some .int) ∈ ox_W) (hR : 1 ≤ R.frames ∧ 21 ≤ R.locals) (d : decode cc pc = .ok (.invokestatic idx, 3)) (hk : ox_S p l e R s m args below meth c g nL c0 t0 Qf (pc + 3) k) : ox_S p l e R s m args below meth c g nL c0 t0 Qf pc (o_mmax k) := by
  intro lv st h r e
  unfold o_mmax at e
  split at e
  · next y x st2 =>
    split at e
    · next hcs =>
      obtain ⟨h1, h2⟩ := hk _ _ _ _ e
      refine ⟨h1, fun H locs ls a1 a2 a3 a4 => ?_⟩
      obtain ⟨b1, b2, b3, b4⟩ := id a4
      have z1 := h1.1
      have z2 := h1.2
      have z3 := ox_cs_map (g := g) st2
      exact va_mmax C.1 C.2.1 (by rw [C.2.2.1]; exact a3.1.symm) C.2.2.2.1 (C.2.2.2.2.1 _ w1) (C.2.2.2.2.1 _ w2) (C.2.2.2.2.1 _ w3) (C.2.2.2.2.1 _ w4) hR.1 (by omega) (by omega) (by omega) d (h2 H locs ls a1 a2 a3 a4)
    · cases e
  · cases e
def o_mmin (k : ox_K) : ox_K := fun lv st h => match st with
  | .int y :: .int x :: st => if ox_cs st ≤ 8 then k lv (.int (if y < x then y else x) :: st) h else none
  | _ => none
theorem s_mmin {idx : Nat} (C : ox_C p s m args c g nL cc own) (w1 : Cond.methodLink own idx Lib.Math.min.name ∈ ox_W) (w2 : Cond.static Lib.Math.min.name ∈ ox_W) (w3 : Cond.initialized "java/lang/Math" ∈ ox_W) (w4 : Cond.code Lib.Math.min.name Lib.Math.min.code 2 (some .int) ∈ ox_W) (hR : 1 ≤ R.frames ∧ 21 ≤ R.locals) (d : decode cc pc = .ok (.invokestatic idx, 3)) (hk : ox_S p l e R s m args below meth c g nL c0 t0 Qf (pc + 3) k) : ox_S p l e R s m args below meth c g nL c0 t0 Qf pc (o_mmin k) := by
  intro lv st h r e
  unfold o_mmin at e
  split at e
  · next y x st2 =>
    split at e
    · next hcs =>
      obtain ⟨h1, h2⟩ := hk _ _ _ _ e
      refine ⟨h1, fun H locs ls a1 a2 a3 a4 => ?_⟩
      obtain ⟨b1, b2, b3, b4⟩ := id a4
      have z1 := h1.1
      have z2 := h1.2
      have z3 := ox_cs_map (g := g) st2
      exact va_mmin C.1 C.2.1 (by rw [C.2.2.1]; exact a3.1.symm) C.2.2.2.1 (C.2.2.2.2.1 _ w1) (C.2.2.2.2.1 _ w2) (C.2.2.2.2.1 _ w3) (C.2.2.2.2.1 _ w4) hR.1 (by omega) (by omega) (by omega) d (h2 H locs ls a1 a2 a3 a4)
    · cases e
  · cases e
theorem ox_lv3 {dp : Nat} (h : R.frames = dp ∧ R.locals = 60 * dp) (hd : 1 ≤ dp) : 1 ≤ R.frames ∧ 21 ≤ R.locals := by omega
theorem ox_br {b L : Nat} {X Y : ox_K} (h1 : ox_S p l e R s m args below meth c g nL c0 t0 Qf L X) (h2 : ox_S p l e R s m args below meth c g nL c0 t0 Qf b Y) : ox_S p l e R s m args below meth c g nL c0 t0 Qf b (if b = L then X else Y) := by
  by_cases e1 : b = L
  · rw [if_pos e1, e1]
    exact h1
  · rw [if_neg e1]
    exact h2
/-- a static that holds a reference or null: nobody may ask which -/
noncomputable def o_gq (k : ox_K) : ox_K := fun lv st h => @ite _ (k lv (.null :: st) h = k lv (.ref 13 :: st) h) (Classical.propDecidable _) (k lv (.null :: st) h) none
theorem o_gq_eq {lv : ox_L} {st : List Value} {h : ox_HP} (e1 : k lv (.null :: st) h = k lv (.ref 13 :: st) h) : o_gq k lv st h = k lv (.null :: st) h := if_pos e1
theorem s_gq {idx : Nat} (C : ox_C p s m args c g nL cc own) (hw : Cond.fieldLink own idx "jdk/internal/util/Preconditions" "SIOOBE_FORMATTER" "Ljava/util/function/BiFunction;" ∈ ox_W) (d : decode cc pc = .ok (.getstatic idx, 3)) (hk : ox_S p l e R s m args below meth c g nL c0 t0 Qf (pc + 3) k) : ox_S p l e R s m args below meth c g nL c0 t0 Qf pc (o_gq k) := by
  intro lv st h r e
  by_cases hc : k lv (.null :: st) h = k lv (.ref 13 :: st) h
  · rw [o_gq_eq hc] at e
    obtain ⟨h1, h2⟩ := hk _ _ _ _ e
    obtain ⟨h3, h4⟩ := hk _ _ _ _ (hc.symm.trans e)
    refine ⟨h1, fun H locs ls a1 a2 a3 a4 => ?_⟩
    rcases C.2.2.2.2.2.2.2.2.2.2.2.2 with hz | hz
    · exact va_gets C.1 C.2.1 hz a2 C.2.2.2.1 (C.2.2.2.2.1 _ hw) (fun _ z => z) d (h2 H locs ls a1 a2 a3 a4)
    · exact va_gets C.1 C.2.1 hz a2 C.2.2.2.1 (C.2.2.2.2.1 _ hw) (fun _ z => z) d (h4 H locs ls a1 a2 a3 a4)
  · exfalso
    unfold o_gq at e
    rw [if_neg hc] at e
    cases e
end OXU
