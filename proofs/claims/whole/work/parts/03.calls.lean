section OXT
variable {p : Program} {l : Launch} {e : Env} {R : Room} {s : State} {m : MethodId} {args : Array Value} {below : List Frame} {meth : Method} {c : Code}
variable {g : ox_G} {nL c0 t0 : Nat} {Qf : ox_R → State → Prop} {cc : ByteArray} {own : String} {pc : Nat} {k kt kf : ox_K}

/-- a new object, a new array -/
def o_new (ci : Nat) (k : ox_K) : ox_K := fun lv st h => k lv (.ref (ox_n h) :: st) (ox_nw h (0, ci) (fun _ => 0))
theorem ox_nw_i {h : ox_HP} {q : Nat × Nat} {f : Nat → Int32} : (ox_nw h q f).2.1 (ox_n h) = f := if_pos rfl
theorem ox_nw_r {h : ox_HP} {q : Nat × Nat} {f : Nat → Int32} : (ox_nw h q f).2.2 (ox_n h) = fun _ => 0 := if_pos rfl
theorem ox_le_nw {h r : ox_HP} {q : Nat × Nat} {f : Nat → Int32} (e : ox_le (ox_nw h q f) r) : ox_le h r ∧ ox_n h + 1 ≤ ox_n r ∧ ox_t h + ox_sl q ≤ ox_t r := by
  obtain ⟨e1, e2⟩ := e
  rw [ox_n_new] at e1
  rw [ox_t_new] at e2
  exact ⟨⟨by omega, by omega⟩, e1, e2⟩
theorem ox_def {ci j : Nat} {h : ox_HP} (hr : h.2.2 = h.2.2) {a : Nat} (hi : h.2.1 a = fun _ => 0) (hr : h.2.2 a = fun _ => 0) (hty : ∀ t, ox_ty ci j = t → t = .int ∨ t = .boolean ∨ t = .byte ∨ ox_isr t = true) : defaultValue (ox_ty ci j) = ox_fv g h ci a j := by
  unfold ox_fv ox_rv
  rw [hi, hr]
  rcases hty _ rfl with e | e | e | e
  · rw [e]; rfl
  · rw [e]; rfl
  · rw [e]; rfl
  · rw [if_pos e, if_pos rfl]
    cases hT : ox_ty ci j <;> rw [hT] at e <;> first | rfl | (exact absurd e (by decide))
theorem s_new {ci idx : Nat} {q : vw_C} (C : ox_C p s m args c g nL cc own) (hq : ox_cls[ci]? = some q) (hty : ∀ j, j < q.2.2 → ∀ t, ox_ty ci j = t → t = .int ∨ t = .boolean ∨ t = .byte ∨ ox_isr t = true) (w1 : Cond.classLink own idx q.1 ∈ ox_W) (w2 : Cond.instantiable q.1 q.2.2 ∈ ox_W) (w3 : Cond.initialized q.1 ∈ ox_W) (d : decode cc pc = .ok (.new idx, 3)) (hk : ox_S p l e R s m args below meth c g nL c0 t0 Qf (pc + 3) k) : ox_S p l e R s m args below meth c g nL c0 t0 Qf pc (o_new ci k) := by
  intro lv st h r e
  obtain ⟨h1, h2⟩ := hk _ _ _ _ e
  obtain ⟨h3, h4, h5⟩ := ox_le_nw h1
  have hsl : ox_sl (0, ci) = q.2.2 := by unfold ox_sl; rw [if_pos rfl, hq]; rfl
  rw [hsl] at h5
  refine ⟨h3, fun H locs ls a1 a2 a3 a4 => ?_⟩
  obtain ⟨b1, b2, b3, b4⟩ := a4
  have hKn := C.2.2.2.2.2.1.1 ci _ hq
  refine W.newcK C.1 C.2.1 C.2.2.2.1 (C.2.2.2.2.1 _ w1) (C.2.2.2.2.1 _ w2) (C.2.2.2.2.1 _ w3) rfl d (by omega) (by omega) hKn.2.1 rfl fun H1 kC hkC e1 z1 o1 => ?_
  have hca := ox_new_ca a1
  have hpic : ox_Pic g (ox_nw h (0, ci) (fun _ => 0)) s H1 := a1.new z1 o1 (ox_Cel_of hq ox_sh_new (by
    rw [hca]
    refine (u_born (ox_ty ci) C.2.2.2.2.1 (ox_lays hq) hKn hkC e1 (fun k hk => ox_cok1 hq hk)).to (fun j hj => ?_)
    exact ox_def rfl ox_nw_i ox_nw_r (hty j hj)))
  have := h2 H1 locs ls hpic ⟨by have := a2.1; omega, fun x g1 g2 => (o1 x (Nat.lt_of_lt_of_le g1 a2.1)).trans (a2.2.1 x g1 g2), a2.2.2⟩ a3 ⟨by rw [ox_n_new]; omega, by rw [ox_t_new]; omega, b3, b4⟩
  rw [ox_n_new, ox_t_new, hsl, show ox_n h + 1 - c0 = ox_n h - c0 + 1 by omega, show ox_t h + q.2.2 - t0 = ox_t h - t0 + q.2.2 by omega] at this
  rw [List.map_cons, show ox_cv g (.ref (ox_n h)) = .ref (ox_ca g (ox_n h)) from rfl, hca] at this
  exact this
def ox_at (d : Nat) : FieldType := if d = 1 then .int else if d = 2 then .byte else .boolean
def o_newa (d : Nat) (k : ox_K) : ox_K := fun lv st h => match st with
  | .int n :: st => if 0 ≤ n.toInt ∧ n.toInt ≤ 100000 then k lv (.ref (ox_n h) :: st) (ox_nw h (d, n.toNatClampNeg) (fun _ => 0)) else none
  | _ => none
theorem s_newa {dd : Nat} {aty : ArrayType} {ty : FieldType} (C : ox_C p s m args c g nL cc own) (hty : newarray.typeOf aty = ty) (hdd : (dd = 1 ∧ ty = .int) ∨ (dd = 2 ∧ ty = .byte) ∨ (dd = 3 ∧ ty = .boolean)) (w1 : Cond.arrayClass ty ∈ ox_W) (d : decode cc pc = .ok (.newarray aty, 2)) (hk : ox_S p l e R s m args below meth c g nL c0 t0 Qf (pc + 2) k) : ox_S p l e R s m args below meth c g nL c0 t0 Qf pc (o_newa dd k) := by
  intro lv st h r e
  unfold o_newa at e
  split at e
  · next n st2 =>
    split at e
    · next hn =>
      obtain ⟨h1, h2⟩ := hk _ _ _ _ e
      obtain ⟨h3, h4, h5⟩ := ox_le_nw h1
      have hd3 : dd = 1 ∨ dd = 2 ∨ dd = 3 := by omega
      have hsl : ox_sl (dd, n.toNatClampNeg) = n.toNatClampNeg := by unfold ox_sl; rw [if_neg (by omega)]
      rw [hsl] at h5
      refine ⟨h3, fun H locs ls a1 a2 a3 a4 => ?_⟩
      obtain ⟨b1, b2, b3, b4⟩ := a4
      have hn0 : ¬ n < 0 := fun q => by
        have := Int32.lt_iff_toInt_lt.mp q
        have e0 : (0 : Int32).toInt = 0 := rfl
        omega
      have hnN : (n.toNatClampNeg : Int) = n.toInt := by
        show ((n.toInt.toNat : Nat) : Int) = n.toInt
        omega
      subst hty
      have hcb : componentBytes (newarray.typeOf aty) ≤ 8 := by cases aty <;> decide
      refine va_newaK C.1 C.2.1 (C.2.2.2.2.1 _ w1) rfl d rfl hn0 rfl (Nat.le_trans (Nat.mul_le_mul (show n.toNatClampNeg ≤ 100000 by omega) hcb) (by decide)) (by omega) (by omega) rfl fun H1 cA e1 z1 o1 hAr hNm => ?_
      have hca := ox_new_ca a1
      have hcA : cA = g.2.2.2 dd := by
        rcases hdd with ⟨q1, q2⟩ | ⟨q1, q2⟩ | ⟨q1, q2⟩
        · have := (C.2.2.2.2.2.1.2 0 (g.2.2.2 1, .int) rfl).2
          rw [q2] at hNm
          rw [q1]
          exact Option.some.inj (hNm.symm.trans this)
        · have := (C.2.2.2.2.2.1.2 1 (g.2.2.2 2, .byte) rfl).2
          rw [q2] at hNm
          rw [q1]
          exact Option.some.inj (hNm.symm.trans this)
        · have := (C.2.2.2.2.2.1.2 2 (g.2.2.2 3, .boolean) rfl).2
          rw [q2] at hNm
          rw [q1]
          exact Option.some.inj (hNm.symm.trans this)
      have hdv : defaultValue (newarray.typeOf aty) = .int 0 := by
        rcases hdd with ⟨q1, q2⟩ | ⟨q1, q2⟩ | ⟨q1, q2⟩ <;> rw [q2] <;> rfl
      have hpic : ox_Pic g (ox_nw h (dd, n.toNatClampNeg) (fun _ => 0)) s H1 := a1.new z1 o1 (by
        refine ⟨fun ci qq => ?_, fun d2 n2 qq _ => ?_, fun ci n2 qq => ?_⟩
        · rw [ox_sh_new] at qq
          have := (Prod.mk.inj qq).1
          omega
        · rw [ox_sh_new] at qq
          cases qq
          rw [hca, e1, hcA, hdv, ox_nw_i]
        · rw [ox_sh_new] at qq
          have := (Prod.mk.inj qq).1
          omega)
      have := h2 H1 locs ls hpic ⟨by have := a2.1; omega, fun x g1 g2 => (o1 x (Nat.lt_of_lt_of_le g1 a2.1)).trans (a2.2.1 x g1 g2), a2.2.2⟩ a3 ⟨by rw [ox_n_new]; omega, by rw [ox_t_new]; omega, b3, b4⟩
      rw [ox_n_new, ox_t_new, hsl, show ox_n h + 1 - c0 = ox_n h - c0 + 1 by omega, show ox_t h + n.toNatClampNeg - t0 = ox_t h - t0 + n.toNatClampNeg by omega] at this
      rw [List.map_cons, show ox_cv g (.ref (ox_n h)) = .ref (ox_ca g (ox_n h)) from rfl, hca] at this
      exact this
    · cases e
  · cases e
def o_newr (ci : Nat) (k : ox_K) : ox_K := fun lv st h => match st with
  | .int n :: st => if 0 ≤ n.toInt ∧ n.toInt ≤ 100000 then k lv (.ref (ox_n h) :: st) (ox_nw h (10 + ci, n.toNatClampNeg) (fun _ => 0)) else none
  | _ => none
theorem s_newr {ci idx : Nat} {q : vw_C} (t0' : Nat) (C : ox_C p s m args c g nL cc own) (hq : ox_cls[ci]? = some q) (hty : (ox_tys g)[t0']? = some (g.2.2.2 (10 + ci), .object q.1)) (w1 : Cond.classLink own idx q.1 ∈ ox_W) (ho : q.1 ∈ ox_ovs) (d : decode cc pc = .ok (.anewarray idx, 3)) (hk : ox_S p l e R s m args below meth c g nL c0 t0 Qf (pc + 3) k) : ox_S p l e R s m args below meth c g nL c0 t0 Qf pc (o_newr ci k) := by
  intro lv st h r e
  unfold o_newr at e
  split at e
  · next n st2 =>
    split at e
    · next hn =>
      obtain ⟨h1, h2⟩ := hk _ _ _ _ e
      obtain ⟨h3, h4, h5⟩ := ox_le_nw h1
      have hsl : ox_sl (10 + ci, n.toNatClampNeg) = n.toNatClampNeg := by unfold ox_sl; rw [if_neg (by omega)]
      rw [hsl] at h5
      refine ⟨h3, fun H locs ls a1 a2 a3 a4 => ?_⟩
      obtain ⟨b1, b2, b3, b4⟩ := a4
      have hn0 : ¬ n < 0 := fun q => by
        have := Int32.lt_iff_toInt_lt.mp q
        have e0 : (0 : Int32).toInt = 0 := rfl
        omega
      have hnN : (n.toNatClampNeg : Int) = n.toInt := by
        show ((n.toInt.toNat : Nat) : Int) = n.toInt
        omega
      refine W.anew C.1 C.2.1 C.2.2.2.1 (C.2.2.2.2.1 _ w1) ((C.2.2.2.2.2.2.2.2.2.2.1 _ ho).use) rfl d rfl hn0 (by omega) (by omega) (by omega) fun cA kA comp f1 f2 f3 f4 => ?_
      have hca := ox_new_ca a1
      obtain ⟨-, kA2, comp2, r1, r2, r3, r4⟩ := C.2.2.2.2.2.1.2 t0' _ hty
      have hcA : cA = g.2.2.2 (10 + ci) := Option.some.inj (f1.symm.trans r4)
      have hpic : ox_Pic g (ox_nw h (10 + ci, n.toNatClampNeg) (fun _ => 0)) s (H.push { cls := cA, slots := Array.replicate n.toNatClampNeg .null, vm := .none }) := a1.new (by rw [Array.size_push]) (fun b hb => by rw [Array.getElem?_push, if_neg (Nat.ne_of_lt hb)]) (by
        refine ⟨fun c2 qq => ?_, fun d2 n2 qq hd2 => ?_, fun c2 n2 qq => ?_⟩
        · rw [ox_sh_new] at qq
          have := (Prod.mk.inj qq).1
          omega
        · rw [ox_sh_new] at qq
          have := (Prod.mk.inj qq).1
          omega
        · rw [ox_sh_new] at qq
          obtain ⟨qa, qb⟩ := Prod.mk.inj qq
          have qc : c2 = ci := by omega
          subst qc
          subst qb
          rw [hca, Array.getElem?_push_size, arrV_new, hcA, ox_nw_r]
          rfl)
      have := h2 _ locs ls hpic ⟨by have := a2.1; rw [Array.size_push]; omega, fun x g1 g2 => by
        have hx := Nat.lt_of_lt_of_le g1 a2.1
        rw [Array.getElem?_push, if_neg (Nat.ne_of_lt hx)]
        exact a2.2.1 x g1 g2, a2.2.2⟩ a3 ⟨by rw [ox_n_new]; omega, by rw [ox_t_new]; omega, b3, b4⟩
      rw [ox_n_new, ox_t_new, hsl, show ox_n h + 1 - c0 = ox_n h - c0 + 1 by omega, show ox_t h + n.toNatClampNeg - t0 = ox_t h - t0 + n.toNatClampNeg by omega] at this
      rw [List.map_cons, show ox_cv g (.ref (ox_n h)) = .ref (ox_ca g (ox_n h)) from rfl, hca] at this
      exact this
    · cases e
  · cases e
/-- statics, texts -/
def o_gs (a : Nat) (k : ox_K) : ox_K := fun lv st h => k lv (.ref a :: st) h
theorem s_gs {a idx : Nat} {C1 n1 d1 : String} (C : ox_C p s m args c g nL cc own) (hq : (C1, n1, d1, a) ∈ ox_sts) (hw : Cond.fieldLink own idx C1 n1 d1 ∈ ox_W) (d : decode cc pc = .ok (.getstatic idx, 3)) (hk : ox_S p l e R s m args below meth c g nL c0 t0 Qf (pc + 3) k) : ox_S p l e R s m args below meth c g nL c0 t0 Qf pc (o_gs a k) := by
  intro lv st h r e
  obtain ⟨h1, h2⟩ := hk _ _ _ _ e
  exact ⟨h1, fun H locs ls a1 a2 a3 a4 => va_gets C.1 C.2.1 (C.2.2.2.2.2.2.1 _ hq) a2 C.2.2.2.1 (C.2.2.2.2.1 _ hw) (fun _ z => z) d (h2 H locs ls a1 a2 a3 a4)⟩
theorem s_gsc {idx : Nat} (C : ox_C p s m args c g nL cc own) (hw : Cond.fieldLink own idx "java/lang/String" "COMPACT_STRINGS" "Z" ∈ ox_W) (d : decode cc pc = .ok (.getstatic idx, 3)) (hk : ox_S p l e R s m args below meth c g nL c0 t0 Qf (pc + 3) k) : ox_S p l e R s m args below meth c g nL c0 t0 Qf pc (o_ic 1 k) := by
  intro lv st h r e
  obtain ⟨h1, h2⟩ := hk _ _ _ _ e
  exact ⟨h1, fun H locs ls a1 a2 a3 a4 => va_gets C.1 C.2.1 C.2.2.2.2.2.2.2.1 a2 C.2.2.2.1 (C.2.2.2.2.1 _ hw) (fun _ z => z) d (h2 H locs ls a1 a2 a3 a4)⟩
theorem s_str {a idx : Nat} {tx : String} (C : ox_C p s m args c g nL cc own) (hq : (own, idx, tx, a) ∈ ox_strs) (d : decode cc pc = .ok (.ldc idx, 2)) (hk : ox_S p l e R s m args below meth c g nL c0 t0 Qf (pc + 2) k) : ox_S p l e R s m args below meth c g nL c0 t0 Qf pc (o_gs a k) := by
  intro lv st h r e
  obtain ⟨h1, h2⟩ := hk _ _ _ _ e
  exact ⟨h1, fun H locs ls a1 a2 a3 a4 => va_ldcS C.1 C.2.1 C.2.2.2.1 (C.2.2.2.2.2.2.2.2.1 _ hq) d (h2 H locs ls a1 a2 a3 a4)⟩
def o_sv (k : ox_K) : ox_K := fun lv st h => match st with
  | .ref a :: st => if (ox_sh h a).1 = 6 ∧ a < 16 then k lv (.ref (ox_sh h a).2 :: st) h else none
  | _ => none
def o_sc (k : ox_K) : ox_K := fun lv st h => match st with
  | .ref a :: st => if (ox_sh h a).1 = 6 ∧ a < 16 then k lv (.int 0 :: st) h else none
  | _ => none
theorem s_sv {idx : Nat} (C : ox_C p s m args c g nL cc own) (hw : Cond.fieldLink own idx "java/lang/String" "value" "[B" ∈ ox_W) (d : decode cc pc = .ok (.getfield idx, 3)) (hk : ox_S p l e R s m args below meth c g nL c0 t0 Qf (pc + 3) k) : ox_S p l e R s m args below meth c g nL c0 t0 Qf pc (o_sv k) := by
  intro lv st h r e
  unfold o_sv at e
  split at e
  · next a st2 =>
    split at e
    · next hc =>
      obtain ⟨h1, h2⟩ := hk _ _ _ _ e
      refine ⟨h1, fun H locs ls a1 a2 a3 a4 => ?_⟩
      obtain ⟨cf, k1, fi, f, cell, g1, g2, g3, g4, g5, g6⟩ := ((a1.2.2.2 a hc.2).2.2.2 (ox_sh h a).2 (by rw [← hc.1])).2.2
      exact W.getf C.1 C.2.1 C.2.2.2.1 (C.2.2.2.2.1 _ hw) g1 g2 g3 g4 (v := .ref (ox_ca g (ox_sh h a).2)) g5 rfl rfl d (h2 H locs ls a1 a2 a3 a4)
    · cases e
  · cases e
theorem s_sc {idx : Nat} (C : ox_C p s m args c g nL cc own) (hw : Cond.fieldLink own idx "java/lang/String" "coder" "B" ∈ ox_W) (d : decode cc pc = .ok (.getfield idx, 3)) (hk : ox_S p l e R s m args below meth c g nL c0 t0 Qf (pc + 3) k) : ox_S p l e R s m args below meth c g nL c0 t0 Qf pc (o_sc k) := by
  intro lv st h r e
  unfold o_sc at e
  split at e
  · next a st2 =>
    split at e
    · next hc =>
      obtain ⟨h1, h2⟩ := hk _ _ _ _ e
      refine ⟨h1, fun H locs ls a1 a2 a3 a4 => ?_⟩
      obtain ⟨cf, k1, fi, f, cell, g1, g2, g3, g4, g5, g6⟩ := ((a1.2.2.2 a hc.2).2.2.2 (ox_sh h a).2 (by rw [← hc.1])).2.1
      exact W.getf C.1 C.2.1 C.2.2.2.1 (C.2.2.2.2.1 _ hw) g1 g2 g3 g4 (v := .int 0) g5 rfl rfl d (h2 H locs ls a1 a2 a3 a4)
    · cases e
  · cases e
/-! contracts -/
def ox_Q (g : ox_G) (r : ox_R) : Array Value → State → Outcome → State → Prop := fun _ st o t =>
  o = .returned (r.1.map (ox_cv g)) ∧ ox_Pic g r.2 t t.heap ∧ st.heap.size ≤ t.heap.size ∧ ∀ q : Nat, q < st.heap.size → ¬ ox_A g q → t.heap[q]? = st.heap[q]?
def ox_rm (dp : Nat) (h h2 : ox_HP) : Room := { frames := dp, cells := ox_n h2 - ox_n h, slots := ox_t h2 - ox_t h, locals := 60 * dp }
def ox_Pc (g : ox_G) (as : List Value) (h : ox_HP) : Array Value → State → Prop := va_Pc (as.map (ox_cv g)) (fun U => ox_Pic g h U U.heap ∧ ox_Wd g U U.heap)
def ox_Met (l : Launch) (g : ox_G) (y : MethodName) (by_ : ByteArray) (maxL : Nat) (ret : Option FieldType) (dp : Nat) (as : List Value) (h : ox_HP) (r : ox_R) : Prop :=
  Met l y (Cond.code y by_ maxL ret :: ox_W) (ox_rm dp h r.2) (ox_Pc g as h) (ox_Q g r) (ox_n r.2 - ox_n h) (ox_t r.2 - ox_t h) (ox_A g)
def ox_Sem (y : MethodName) (by_ : ByteArray) (maxL : Nat) (ret : Option FieldType) (dp : Nat) (f : ox_F) : Prop :=
  ∀ (l : Launch) (g : ox_G) (as : List Value) (h : ox_HP) (r : ox_R), f as h = some r → ox_le h r.2 ∧ ox_Met l g y by_ maxL ret dp as h r
theorem ox_blind {as : List Value} {h : ox_HP} : FrameBlind (ox_Pc g as h) := by
  intro a U g1 mk q
  obtain ⟨q0, q1, q2⟩ := q
  exact ⟨q0, ox_Pic.moved (u := U) (U := U.calling g1 mk a) (Vm.Alike.refl U.vm) q1, ox_Wd.same (u := U) (U := U.calling g1 mk a) rfl q2⟩
theorem ox_pre {as : List Value} {h : ox_HP} {H : Heap} {locs : List Loc} (C : ox_C p s m args c g nL cc own) (hP : ox_Pic g h s H) (hS : va_S (ox_A g) s.heap H locs) : ∀ U : State, U.heap = H → s.WarmedH U.vm → ox_Pc g as h (as.map (ox_cv g)).toArray U := by
  intro U hU hW
  refine ⟨rfl, ?_, ?_⟩
  · rw [hU]
    exact hP.moved hW.alike
  · rw [hU]
    exact ox_Wd.warm hW hS.2.1 C.2.2.2.2.2
theorem ox_call {Q : State → Prop} {H : Heap} {locs : List Loc} {cells slots mc ms : Nat} {pc : Nat} {ls : Array Slot} {rest st0 : List Value} {Qa : State → Outcome → State → Prop} {r : ox_R} {a : Array Value} (hr : va_Run p l e R s m args below meth c H locs cells slots mc ms (F0 m pc ls st0) rest (ox_Q g r a) (ox_A g)) (hS : va_S (ox_A g) s.heap H locs)
    (kk : ∀ (H1 : Heap) (locs1 : List Loc), ox_Pic g r.2 s H1 → va_S (ox_A g) s.heap H1 locs1 → W p l e R s m args below meth c H1 locs1 (cells + mc) (slots + ms) Q (F0 m (pc + 3) ls ((r.1.map (ox_cv g)).toList ++ rest))) : W p l e R s m args below meth c H locs cells slots Q (F0 m pc ls st0) := by
  intro T hT X
  obtain ⟨v, st₀, t, T', L, h0, X', hL, e1, e2, ⟨hv, hp, hz, hk⟩, st⟩ := hr T hT X
  cases hv
  rw [h0] at hz hk
  have hal : t.vm.Alike s.vm := by rw [← e2]; exact X'.warmed.alike.symm
  obtain ⟨t2, a1, b1⟩ := kk T'.heap (locs ++ L) (by rw [e1]; exact hp.moved hal) ⟨Nat.le_trans hS.1 (by rw [e1]; exact hz), fun q h1 h2 => by rw [e1, hk q (Nat.lt_of_lt_of_le h1 hS.1) h2]; exact hS.2.1 q h1 h2, fun q hq => by
      rcases List.mem_append.mp hq with h | h
      · exact hS.2.2 q h
      · exact hL q h⟩ T' rfl X'
  exact ⟨t2, st t2 a1, b1⟩
/-- a call: so many arguments, the method's meaning f -/
def ox_cs (st : List Value) : Nat := (st.map fun v => v.category).sum
theorem ox_cs_map (st : List Value) : ((st.map (ox_cv g)).map fun v => v.category).sum = ox_cs st := by
  unfold ox_cs
  rw [List.map_map]
  congr 1
  exact List.map_congr_left (fun v _ => ox_cat g v)
def o_cv (f : ox_F) (ci n : Nat) (k : ox_K) : ox_K := fun lv st h => match st.drop n with
  | .ref b :: rest => if ox_sh h b = (0, ci) ∧ ox_cs rest ≤ 8 ∧ (st.take n).length = n then (match f (.ref b :: (st.take n).reverse) h with
    | some r => k lv (r.1.toList ++ rest) r.2
    | none => none) else none
  | _ => none
def o_cn (f : ox_F) (n : Nat) (k : ox_K) : ox_K := fun lv st h => match st.drop n with
  | .ref b :: rest => if ox_cs rest ≤ 8 ∧ (st.take n).length = n then (match f (.ref b :: (st.take n).reverse) h with
    | some r => k lv (r.1.toList ++ rest) r.2
    | none => none) else none
  | _ => none
def o_ct (f : ox_F) (n : Nat) (k : ox_K) : ox_K := fun lv st h => if ox_cs (st.drop n) ≤ 8 ∧ (st.take n).length = n then (match f (st.take n).reverse h with
    | some r => k lv (r.1.toList ++ st.drop n) r.2
    | none => none) else none
theorem ox_stk (st : List Value) (n : Nat) : st.map (ox_cv g) = ((st.take n).reverse.map (ox_cv g)).reverse ++ (st.drop n).map (ox_cv g) := by
  rw [List.map_reverse, List.reverse_reverse, ← List.map_append, List.take_append_drop]
theorem ox_tail {r1 : Option Value} {rest : List Value} : (r1.map (ox_cv g)).toList ++ rest.map (ox_cv g) = (r1.toList ++ rest).map (ox_cv g) := by
  cases r1 <;> simp
theorem s_cv {y : MethodName} {by_ : ByteArray} {maxL dp ci n idx : Nat} {ret : Option FieldType} {f : ox_F} {q : vw_C} (C : ox_C p s m args c g nL cc own) (hf : ox_Sem y by_ maxL ret dp f) (hq : ox_cls[ci]? = some q) (w1 : Cond.methodLink own idx y ∈ ox_W) (w2 : Cond.instanceMethod y ∈ ox_W) (w3 : Cond.selects q.1 y y ∈ ox_W) (w4 : Cond.initialized q.1 ∈ ox_W) (w5 : Cond.code y by_ maxL ret ∈ ox_W) (hd : y.cls = q.1 ∧ y.cls ≠ "java/lang/invoke/MethodHandle" ∧ y.cls ≠ "java/lang/invoke/VarHandle" ∧ (parseMethodDescriptor y.desc).map (fun d => d.parameters.length) = some n) (hR : dp + 1 ≤ R.frames ∧ 8 + (maxL + 11) + 60 * dp ≤ R.locals) (d : decode cc pc = .ok (.invokevirtual idx, 3)) (hk : ox_S p l e R s m args below meth c g nL c0 t0 Qf (pc + 3) k) : ox_S p l e R s m args below meth c g nL c0 t0 Qf pc (o_cv f ci n k) := by
  intro lv st h r e
  unfold o_cv at e
  split at e
  · next b rest hst =>
    split at e
    · next hc =>
      obtain ⟨hsh, hcs, hln⟩ := hc
      split at e
      · next r1 hf1 =>
        obtain ⟨m1, m2⟩ := hf l g _ _ _ hf1
        obtain ⟨h1, h2⟩ := hk _ _ _ _ e
        refine ⟨ox_le.tr m1 h1, fun H locs ls a1 a2 a3 a4 => ?_⟩
        obtain ⟨b1, b2, b3, b4⟩ := a4
        obtain ⟨m3, m4⟩ := m1
        obtain ⟨h3, h4⟩ := h1
        obtain ⟨-, -, q2, hq2, cell, v1, v2, v3, v4⟩ := ox_obj a1 hsh
        cases hq.symm.trans hq2
        have hKn := C.2.2.2.2.2.1.1 ci _ hq
        have hG : GoodIn ox_W (wsV own idx q.1 y (Cond.code y by_ maxL ret :: ox_W)) := by
          intro w hw
          unfold wsV at hw
          have hw2 : w ∈ ox_W := by
            simp only [List.mem_append, List.mem_cons, List.not_mem_nil, or_false] at hw
            rcases hw with (e1 | e1 | e1 | e1) | e1 | e1
            · rw [e1]; exact w1
            · rw [e1]; exact w2
            · rw [e1]; exact w3
            · rw [e1]; exact w4
            · rw [e1]; exact w5
            · exact e1
          exact ⟨hw2, good_of_word (ox_Wg hw2)⟩
        rw [ox_stk st n, hst]
        refine ox_call (Qa := fun _ _ _ => True) (rest := rest.map (ox_cv g)) (va_runV (Ts := ox_W) (As := (st.take n).reverse.map (ox_cv g)) (b := ox_ca g b) ⟨C.1, C.2.1, C.2.2.1, C.2.2.2.1, C.2.2.2.2.1⟩ m2 (cwV n C.2.2.2.2.1 hG rfl rfl rfl hd hR) ⟨ox_blind, ⟨cell, v1, by rw [v3]; rfl, by rw [v2]; exact hKn.2.1⟩, ox_pre C a1 a2⟩ rfl (by rw [List.length_map, List.length_reverse]; exact hln) a3.1 rfl (lv_room (by rw [ox_cs_map]; exact hcs)) d ⟨by omega, by omega⟩) a2 (fun H1 locs1 c1 c2 => ?_)
        have := h2 H1 locs1 ls c1 c2 a3 ⟨by omega, by omega, b3, b4⟩
        rw [ox_tail, show ox_n h - c0 + (ox_n r1.2 - ox_n h) = ox_n r1.2 - c0 by omega, show ox_t h - t0 + (ox_t r1.2 - ox_t h) = ox_t r1.2 - t0 by omega]
        exact this
      · cases e
    · cases e
  · cases e
theorem s_ct {y : MethodName} {by_ : ByteArray} {maxL dp n idx : Nat} {ret : Option FieldType} {f : ox_F} (C : ox_C p s m args c g nL cc own) (hf : ox_Sem y by_ maxL ret dp f) (w1 : Cond.methodLink own idx y ∈ ox_W) (w2 : Cond.static y ∈ ox_W) (w4 : Cond.initialized y.cls ∈ ox_W) (w5 : Cond.code y by_ maxL ret ∈ ox_W) (hd : y.cls ≠ "java/lang/invoke/MethodHandle" ∧ y.cls ≠ "java/lang/invoke/VarHandle" ∧ (parseMethodDescriptor y.desc).map (fun d => d.parameters.length) = some n) (hR : dp + 1 ≤ R.frames ∧ 8 + (maxL + 11) + 60 * dp ≤ R.locals) (d : decode cc pc = .ok (.invokestatic idx, 3)) (hk : ox_S p l e R s m args below meth c g nL c0 t0 Qf (pc + 3) k) : ox_S p l e R s m args below meth c g nL c0 t0 Qf pc (o_ct f n k) := by
  intro lv st h r e
  unfold o_ct at e
  split at e
  · next hc =>
    obtain ⟨hcs, hln⟩ := hc
    split at e
    · next r1 hf1 =>
      obtain ⟨m1, m2⟩ := hf l g _ _ _ hf1
      obtain ⟨h1, h2⟩ := hk _ _ _ _ e
      refine ⟨ox_le.tr m1 h1, fun H locs ls a1 a2 a3 a4 => ?_⟩
      obtain ⟨b1, b2, b3, b4⟩ := a4
      obtain ⟨m3, m4⟩ := m1
      obtain ⟨h3, h4⟩ := h1
      have hG : GoodIn ox_W (va_wsS own idx y (Cond.code y by_ maxL ret :: ox_W)) := by
        intro w hw
        unfold va_wsS at hw
        have hw2 : w ∈ ox_W := by
          simp only [List.mem_append, List.mem_cons, List.not_mem_nil, or_false] at hw
          rcases hw with (e1 | e1 | e1) | e1 | e1
          · rw [e1]; exact w1
          · rw [e1]; exact w2
          · rw [e1]; exact w4
          · rw [e1]; exact w5
          · exact e1
        exact ⟨hw2, good_of_word (ox_Wg hw2)⟩
      rw [ox_stk st n]
      refine ox_call (Qa := fun _ _ _ => True) (rest := (st.drop n).map (ox_cv g)) (va_runS (Ts := ox_W) (As := (st.take n).reverse.map (ox_cv g)) ⟨C.1, C.2.1, C.2.2.1, C.2.2.2.1, C.2.2.2.2.1⟩ m2 (va_cwS n C.2.2.2.2.1 hG rfl rfl rfl hd hR) ⟨ox_blind, ox_pre C a1 a2⟩ rfl (by rw [List.length_map, List.length_reverse]; exact hln) a3.1 rfl (lv_room (by rw [ox_cs_map]; exact hcs)) d ⟨by omega, by omega⟩) a2 (fun H1 locs1 c1 c2 => ?_)
      have := h2 H1 locs1 ls c1 c2 a3 ⟨by omega, by omega, b3, b4⟩
      rw [ox_tail, show ox_n h - c0 + (ox_n r1.2 - ox_n h) = ox_n r1.2 - c0 by omega, show ox_t h - t0 + (ox_t r1.2 - ox_t h) = ox_t r1.2 - t0 by omega]
      exact this
    · cases e
  · cases e
theorem s_ctN {y : MethodName} {by_ : ByteArray} {maxL dp n idx : Nat} {ret : Option FieldType} {f : ox_F} (C : ox_C p s m args c g nL cc own) (hf : ox_Sem y by_ maxL ret dp f) (w1 : (own, idx, y, "SweetLine") ∈ ox_nst) (w2 : Cond.static y ∈ ox_W) (w4 : Cond.initialized y.cls ∈ ox_W) (w5 : Cond.code y by_ maxL ret ∈ ox_W) (hd : y.cls ≠ "java/lang/invoke/MethodHandle" ∧ y.cls ≠ "java/lang/invoke/VarHandle" ∧ (parseMethodDescriptor y.desc).map (fun d => d.parameters.length) = some n) (hR : dp + 1 ≤ R.frames ∧ 8 + (maxL + 11) + 60 * dp ≤ R.locals) (d : decode cc pc = .ok (.invokestatic idx, 3)) (hk : ox_S p l e R s m args below meth c g nL c0 t0 Qf (pc + 3) k) : ox_S p l e R s m args below meth c g nL c0 t0 Qf pc (o_ct f n k) := by
  intro lv st h r e
  unfold o_ct at e
  split at e
  · next hc =>
    obtain ⟨hcs, hln⟩ := hc
    split at e
    · next r1 hf1 =>
      obtain ⟨m1, m2⟩ := hf l g _ _ _ hf1
      obtain ⟨h1, h2⟩ := hk _ _ _ _ e
      refine ⟨ox_le.tr m1 h1, fun H locs ls a1 a2 a3 a4 => ?_⟩
      obtain ⟨b1, b2, b3, b4⟩ := a4
      obtain ⟨m3, m4⟩ := m1
      obtain ⟨h3, h4⟩ := h1
      rw [ox_stk st n]
      refine ox_call (Qa := fun _ _ _ => True) (rest := (st.drop n).map (ox_cv g)) (va_runSN (Ts := ox_W) (host := "SweetLine") (As := (st.take n).reverse.map (ox_cv g)) ⟨C.1, C.2.1, C.2.2.1, C.2.2.2.1, C.2.2.2.2.1⟩ m2 ⟨va_cnB n C.2.2.2.2.1 (ox_goodT w5) rfl rfl rfl (C.2.2.2.2.2.2.2.2.2.1 _ w1) (C.2.2.2.2.1 _ w4) hd hR, C.2.2.2.2.1 _ w2, trivial⟩ ⟨ox_blind, ox_pre C a1 a2⟩ rfl (by rw [List.length_map, List.length_reverse]; exact hln) a3.1 rfl (lv_room (by rw [ox_cs_map]; exact hcs)) d ⟨by omega, by omega⟩) a2 (fun H1 locs1 c1 c2 => ?_)
      have := h2 H1 locs1 ls c1 c2 a3 ⟨by omega, by omega, b3, b4⟩
      rw [ox_tail, show ox_n h - c0 + (ox_n r1.2 - ox_n h) = ox_n r1.2 - c0 by omega, show ox_t h - t0 + (ox_t r1.2 - ox_t h) = ox_t r1.2 - t0 by omega]
      exact this
    · cases e
  · cases e
theorem s_cn {y : MethodName} {by_ : ByteArray} {maxL dp n idx : Nat} {f : ox_F} (C : ox_C p s m args c g nL cc own) (hf : ox_Sem y by_ maxL none dp f) (w1 : Cond.methodLink own idx y ∈ ox_W) (w2 : Cond.instanceMethod y ∈ ox_W) (w4 : Cond.initialized y.cls ∈ ox_W) (w5 : Cond.code y by_ maxL none ∈ ox_W) (hy : y.name = "<init>") (hd : y.cls ≠ "java/lang/invoke/MethodHandle" ∧ y.cls ≠ "java/lang/invoke/VarHandle" ∧ (parseMethodDescriptor y.desc).map (fun d => d.parameters.length) = some n) (hR : dp + 1 ≤ R.frames ∧ 8 + (maxL + 11) + 60 * dp ≤ R.locals) (d : decode cc pc = .ok (.invokespecial idx, 3)) (hk : ox_S p l e R s m args below meth c g nL c0 t0 Qf (pc + 3) k) : ox_S p l e R s m args below meth c g nL c0 t0 Qf pc (o_cn f n k) := by
  intro lv st h r e
  unfold o_cn at e
  split at e
  · next b rest hst =>
    split at e
    · next hc =>
      obtain ⟨hcs, hln⟩ := hc
      split at e
      · next r1 hf1 =>
        obtain ⟨m1, m2⟩ := hf l g _ _ _ hf1
        obtain ⟨h1, h2⟩ := hk _ _ _ _ e
        refine ⟨ox_le.tr m1 h1, fun H locs ls a1 a2 a3 a4 => ?_⟩
        obtain ⟨b1, b2, b3, b4⟩ := a4
        obtain ⟨m3, m4⟩ := m1
        obtain ⟨h3, h4⟩ := h1
        rw [ox_stk st n, hst]
        refine ox_call (Qa := fun _ _ _ => True) (rest := rest.map (ox_cv g)) (va_runI (Ts := ox_W) (As := (st.take n).reverse.map (ox_cv g)) (b := ox_ca g b) ⟨C.1, C.2.1, C.2.2.1, C.2.2.2.1, C.2.2.2.2.1⟩ m2 (cwI n C.2.2.2.2.1 (ox_goodT w5) rfl rfl rfl (C.2.2.2.2.1 _ w4) (C.2.2.2.2.1 _ w1) (C.2.2.2.2.1 _ w2) hy hd hR) ⟨ox_blind, ox_pre C a1 a2⟩ rfl (by rw [List.length_map, List.length_reverse]; exact hln) a3.1 rfl (lv_room (by rw [ox_cs_map]; exact hcs)) d ⟨by omega, by omega⟩) a2 (fun H1 locs1 c1 c2 => ?_)
        have := h2 H1 locs1 ls c1 c2 a3 ⟨by omega, by omega, b3, b4⟩
        rw [ox_tail, show ox_n h - c0 + (ox_n r1.2 - ox_n h) = ox_n r1.2 - c0 by omega, show ox_t h - t0 + (ox_t r1.2 - ox_t h) = ox_t r1.2 - t0 by omega]
        exact this
      · cases e
    · cases e
  · cases e
theorem s_cnN {y : MethodName} {by_ : ByteArray} {maxL dp n idx : Nat} {f : ox_F} (C : ox_C p s m args c g nL cc own) (hf : ox_Sem y by_ maxL none dp f) (w1 : (own, idx, y, "SweetLine") ∈ ox_nst) (w2 : Cond.instanceMethod y ∈ ox_W) (w4 : Cond.initialized y.cls ∈ ox_W) (w5 : Cond.code y by_ maxL none ∈ ox_W) (hy : y.name = "<init>") (hd : y.cls ≠ "java/lang/invoke/MethodHandle" ∧ y.cls ≠ "java/lang/invoke/VarHandle" ∧ (parseMethodDescriptor y.desc).map (fun d => d.parameters.length) = some n) (hR : dp + 1 ≤ R.frames ∧ 8 + (maxL + 11) + 60 * dp ≤ R.locals) (d : decode cc pc = .ok (.invokespecial idx, 3)) (hk : ox_S p l e R s m args below meth c g nL c0 t0 Qf (pc + 3) k) : ox_S p l e R s m args below meth c g nL c0 t0 Qf pc (o_cn f n k) := by
  intro lv st h r e
  unfold o_cn at e
  split at e
  · next b rest hst =>
    split at e
    · next hc =>
      obtain ⟨hcs, hln⟩ := hc
      split at e
      · next r1 hf1 =>
        obtain ⟨m1, m2⟩ := hf l g _ _ _ hf1
        obtain ⟨h1, h2⟩ := hk _ _ _ _ e
        refine ⟨ox_le.tr m1 h1, fun H locs ls a1 a2 a3 a4 => ?_⟩
        obtain ⟨b1, b2, b3, b4⟩ := a4
        obtain ⟨m3, m4⟩ := m1
        obtain ⟨h3, h4⟩ := h1
        rw [ox_stk st n, hst]
        refine ox_call (Qa := fun _ _ _ => True) (rest := rest.map (ox_cv g)) (va_runIN (Ts := ox_W) (host := "SweetLine") (As := (st.take n).reverse.map (ox_cv g)) (b := ox_ca g b) ⟨C.1, C.2.1, C.2.2.1, C.2.2.2.1, C.2.2.2.2.1⟩ m2 ⟨va_cnB n C.2.2.2.2.1 (ox_goodT w5) rfl rfl rfl (C.2.2.2.2.2.2.2.2.2.1 _ w1) (C.2.2.2.2.1 _ w4) hd hR, hy, C.2.2.2.2.1 _ w2⟩ ⟨ox_blind, ox_pre C a1 a2⟩ rfl (by rw [List.length_map, List.length_reverse]; exact hln) a3.1 rfl (lv_room (by rw [ox_cs_map]; exact hcs)) d ⟨by omega, by omega⟩) a2 (fun H1 locs1 c1 c2 => ?_)
        have := h2 H1 locs1 ls c1 c2 a3 ⟨by omega, by omega, b3, b4⟩
        rw [ox_tail, show ox_n h - c0 + (ox_n r1.2 - ox_n h) = ox_n r1.2 - c0 by omega, show ox_t h - t0 + (ox_t r1.2 - ox_t h) = ox_t r1.2 - t0 by omega]
        exact this
      · cases e
    · cases e
  · cases e
/-- Object's constructor -/
def o_obj (k : ox_K) : ox_K := fun lv st h => match st with
  | .ref _ :: st => if ox_cs st ≤ 8 then k lv st h else none
  | _ => none
theorem s_obj {idx : Nat} (C : ox_C p s m args c g nL cc own) (w1 : Cond.methodLink own idx objectInit ∈ ox_W) (w2 : Cond.instanceMethod objectInit ∈ ox_W) (w3 : Cond.code objectInit ⟨#[0xb1]⟩ 1 none ∈ ox_W) (hR : 1 ≤ R.frames ∧ 20 ≤ R.locals) (d : decode cc pc = .ok (.invokespecial idx, 3)) (hk : ox_S p l e R s m args below meth c g nL c0 t0 Qf (pc + 3) k) : ox_S p l e R s m args below meth c g nL c0 t0 Qf pc (o_obj k) := by
  intro lv st h r e
  unfold o_obj at e
  split at e
  · next a st2 =>
    split at e
    · next hc =>
      obtain ⟨h1, h2⟩ := hk _ _ _ _ e
      refine ⟨h1, fun H locs ls a1 a2 a3 a4 => ?_⟩
      refine W.objInit C.1 C.2.1 C.2.2.2.1 (C.2.2.2.2.1 _ w1) (C.2.2.2.2.1 _ w2) (C.2.2.2.2.1 _ w3) rfl (by rw [C.2.2.1]; exact a3.1) rfl d hR.1 ?_ (h2 H locs ls a1 a2 a3 a4)
      have := ox_cs_map (g := g) st2
      show 2 * 0 + ((st2.map (ox_cv g)).map fun v => v.category).sum + 12 ≤ R.locals
      omega
    · cases e
  · cases e
/-! returns -/
def ox_QM (g : ox_G) (below : List Frame) (args : Array Value) (s : State) (c0 t0 : Nat) : ox_R → State → Prop := fun r => MQ below (ox_Q g r) args s (ox_n r.2 - c0) (ox_t r.2 - t0) (ox_A g)
theorem ox_ret {r1 : Option Value} {h : ox_HP} {H : Heap} {locs : List Loc} (a1 : ox_Pic g h s H) (a2 : va_S (ox_A g) s.heap H locs) : ∀ t : State, t.heap = H → s.WarmedH t.vm → ox_Q g (r1, h) args s (.returned (r1.map (ox_cv g))) t := by
  intro t ht hW
  exact ⟨rfl, by rw [ht]; exact a1.moved hW.alike, by rw [ht]; exact a2.1, fun q h1 h2 => by rw [ht]; exact a2.2.1 q h1 h2⟩
def o_ret : ox_K := fun _ st h => match st with
  | [] => some (none, h)
  | _ => none
def o_iret : ox_K := fun _ st h => match st with
  | [.int v] => some (some (.int v), h)
  | _ => none
def o_lret : ox_K := fun _ st h => match st with
  | [.long v] => some (some (.long v), h)
  | _ => none
def o_zret : ox_K := fun _ st h => match st with
  | [.int v] => if v = 0 ∨ v = 1 then some (some (.int v), h) else none
  | _ => none
def o_cret (n : Int32) : ox_K := fun _ st h => match st with
  | [.int v] => if v = v &&& n then some (some (.int v), h) else none
  | _ => none
theorem s_ret (C : ox_C p s m args c g nL cc own) (hr : meth.sig.returnType = none) (hlocks : meth.locks = false) (d : decode cc pc = .ok (.return_, 1)) : ox_S p l e R s m args below meth c g nL c0 t0 (ox_QM g below args s c0 t0) pc o_ret := by
  intro lv st h r e
  unfold o_ret at e
  split at e
  · cases e
    exact ⟨ox_le.rf, fun H locs ls a1 a2 a3 a4 => W.vret C.1 C.2.1 hr (ox_ret (r1 := none) a1 a2) a2.2.2 d⟩
  · cases e
theorem s_iret (C : ox_C p s m args c g nL cc own) (hr : meth.sig.returnType = some .int) (hlocks : meth.locks = false) (d : decode cc pc = .ok (.ireturn, 1)) : ox_S p l e R s m args below meth c g nL c0 t0 (ox_QM g below args s c0 t0) pc o_iret := by
  intro lv st h r e
  unfold o_iret at e
  split at e
  · next v =>
    cases e
    exact ⟨ox_le.rf, fun H locs ls a1 a2 a3 a4 => W.iret C.1 C.2.1 hr (ox_ret (r1 := some (.int v)) a1 a2) a2.2.2 d⟩
  · cases e
theorem s_lret (C : ox_C p s m args c g nL cc own) (hr : meth.sig.returnType = some .long) (hlocks : meth.locks = false) (d : decode cc pc = .ok (.lreturn, 1)) : ox_S p l e R s m args below meth c g nL c0 t0 (ox_QM g below args s c0 t0) pc o_lret := by
  intro lv st h r e
  unfold o_lret at e
  split at e
  · next v =>
    cases e
    exact ⟨ox_le.rf, fun H locs ls a1 a2 a3 a4 => W.lret C.1 C.2.1 hr (ox_ret (r1 := some (.long v)) a1 a2) a2.2.2 d⟩
  · cases e
theorem s_zret {ty : FieldType} (C : ox_C p s m args c g nL cc own) (hr : meth.sig.returnType = some ty) (hty : ty = .boolean ∨ ty = .byte) (hlocks : meth.locks = false) (d : decode cc pc = .ok (.ireturn, 1)) : ox_S p l e R s m args below meth c g nL c0 t0 (ox_QM g below args s c0 t0) pc o_zret := by
  intro lv st h r e
  unfold o_zret at e
  split at e
  · next v =>
    split at e
    · next hv =>
      cases e
      exact ⟨ox_le.rf, fun H locs ls a1 a2 a3 a4 => W.zret C.1 C.2.1 hr (by rcases hty with e1 | e1 <;> rw [e1] <;> rcases hv with hv | hv <;> subst hv <;> rfl) (ox_ret (r1 := some (.int v)) a1 a2) a2.2.2 d⟩
    · cases e
  · cases e
theorem s_cret (C : ox_C p s m args c g nL cc own) (hr : meth.sig.returnType = some .char) (hlocks : meth.locks = false) (d : decode cc pc = .ok (.ireturn, 1)) : ox_S p l e R s m args below meth c g nL c0 t0 (ox_QM g below args s c0 t0) pc (o_cret 255) := by
  intro lv st h r e
  unfold o_cret at e
  split at e
  · next v =>
    split at e
    · next hv =>
      cases e
      exact ⟨ox_le.rf, fun H locs ls a1 a2 a3 a4 => W.zret C.1 C.2.1 hr (by rw [hv]; exact sc_nar v) (ox_ret (r1 := some (.int v)) a1 a2) a2.2.2 d⟩
    · cases e
  · cases e
theorem ox_len_sl : ∀ vs : List Value, (lg_sl vs).length = (vs.map fun v => v.category).sum
  | [] => rfl
  | v :: vs => by
    have ih := ox_len_sl vs
    unfold lg_sl at ih ⊢
    rw [List.flatMap_cons, List.length_append, ih, List.map_cons, List.sum_cons]
    cases v <;> rfl
theorem ox_args (g : ox_G) : ∀ (vs : List Value) (i : Nat), lv_args i (vs.map (ox_cv g)) = ox_cl g (lv_args i vs)
  | [], _ => rfl
  | v :: vs, i => by
    rw [List.map_cons]
    unfold lv_args
    rw [ox_cat, ox_args g vs]
    rfl
/-- a method's contract out of its blocks -/
theorem ox_meth {y : MethodName} {by_ : ByteArray} {maxL : Nat} {ret : Option FieldType} {dp : Nat} {f : ox_F} {bs : Nat → (Nat → ox_K) → ox_K} (hy : plainName y.cls = true) (hf : ∀ as h r, f as h = some r → ox_cs as ≤ maxL ∧ ox_le h r.2 ∧ ∃ n, ox_run bs n 0 (lv_args 0 as) [] h = some r)
    (hbs : ∀ (p : Program) (l : Launch) (e : Env) (R : Room) (s : State) (m : MethodId) (args : Array Value) (below : List Frame) (meth : Method) (c : Code) (g : ox_G) (c0 t0 : Nat), ox_C p s m args c g maxL by_ y.cls → meth.sig.returnType = ret → meth.locks = false → meth.name = y.name → R.frames = dp ∧ R.locals = 60 * dp →
      ∀ rc : Nat → ox_K, (∀ b, ox_S p l e R s m args below meth c g maxL c0 t0 (ox_QM g below args s c0 t0) b (rc b)) → ∀ b, ox_S p l e R s m args below meth c g maxL c0 t0 (ox_QM g below args s c0 t0) b (bs b rc)) : ox_Sem y by_ maxL ret dp f := by
  intro l g as h r hfr
  obtain ⟨hcs, hle, n, hrun⟩ := hf as h r hfr
  refine ⟨hle, ?_⟩
  refine Met.ofW (cc := by_) (maxL := maxL) (ret := ret) hy rfl ?_
  intro p e s m args below meth c s₁ B hml hv
  obtain ⟨rfl, hP, hWd⟩ := hv
  have hts := atoms_spec (ws := Cond.code y by_ maxL ret :: ox_W) B.pre
  have hown : s.vm.findClass y.cls = some m.cls := findClass_of_methodNamed B.named
  have C : ox_C p s m (as.map (ox_cv g)).toArray c g maxL by_ y.cls := ⟨B.exec, B.bytes, hml, hown, fun w hw => hts w (List.mem_cons_of_mem _ hw), hWd⟩
  obtain ⟨-, K⟩ := s_run (hbs p l e (headSpec (Cond.code y by_ maxL ret :: ox_W) (ox_rm dp h r.2)).room s m _ below meth c g (ox_n h) (ox_t h) C B.returns B.notSynchronized (name_of_methodNamed B.named B.method).1 ⟨rfl, rfl⟩) n 0 _ _ _ _ hrun
  have hlen : (lg_sl (as.map (ox_cv g))).length ≤ maxL := by
    rw [ox_len_sl, ox_cs_map]
    exact hcs
  have hl := lv_entry (as.map (ox_cv g)) (n := maxL) hlen
  rw [lg_entry_eq]
  have hla : lv_args 0 (as.map (ox_cv g)) = ox_cl g (lv_args 0 as) := ox_args g as 0
  rw [hla] at hl
  have := K s.heap [] _ hP va_S.rf hl ⟨Nat.le_refl _, Nat.le_refl _, by show ox_n r.2 ≤ (ox_n r.2 - ox_n h) + ox_n h; have := hle.1; omega, by show ox_t r.2 ≤ (ox_t r.2 - ox_t h) + ox_t h; have := hle.2; omega⟩
  rw [Nat.sub_self, Nat.sub_self] at this
  exact this
end OXT
