/-! the start -/
def st_v : List (List Int32) := [[50, 0, 0, 3, 3, 3, 3, 3, 3, 3, 3, 3, 3, 0, 0], [10, 0, 0, 0, 0, 0, 0, 0, 0, 0, 0, 0, 0, (-20), (-5)], [200, 100, 3, 9, 9, 9, 9, 9, 9, 9, 9, 9, 9, 20, 5], [10, 11, 12, 13, 14], [20, 21, 22, 20, 23]]
def st_b : List (List Int32) := [[114, 101, 99, 105, 112, 101], [119, 97, 114, 109], [115, 101, 101, 100]]
def st_h (L : Nat) (xs : Nat → Int32) : ox_HP := ([(9, 0), (5, L), (5, 15), (5, 15), (5, 15), (5, 5), (5, 5), (6, 10), (6, 11), (6, 12), (7, 6), (7, 4), (7, 4), (9, 0), (9, 0), (9, 0)], (fun a j => if a = 1 then xs j else if a < 7 then (st_v.getD (a - 2) []).getD j 0 else (st_b.getD (a - 10) []).getD j 0), fun _ _ => 0)
section STT
variable {p : Program} {e : Env} {s : State} {m : MethodId} {below : List Frame} {meth : Method} {c : Code} {b L : Nat} {xs : Nat → Int32}
theorem st_t {i : Nat} {w : Cond} (hts : ∀ w ∈ lw_tbl, w.before #[Value.ref b] s = true) (h : tables_1[i]? = some w) : w.before #[Value.ref b] s = true := hts w (List.mem_append_right _ (List.mem_of_getElem? h))
/-- a static array of ints, as the Statement gives it -/
theorem st_s (hgv : (Jvm.Cond.and given_1 narrow_1).before #[Value.ref b] s = true) {C1 n1 : String} {v : List Int32} (hN : v.length < 2 ^ 31) (m1 : Cond.arrayOf (.static C1 n1 "[I") .int ∈ flatC (Jvm.Cond.and given_1 narrow_1)) (m2 : Cond.eq (.length (.static C1 n1 "[I")) (.int (Int32.ofNat v.length)) ∈ flatC (Jvm.Cond.and given_1 narrow_1)) (m3 : ∀ j, j < v.length → Cond.eq (.elem (.static C1 n1 "[I") (.int (Int32.ofNat j))) (.int (v.getD j 0)) ∈ flatC (Jvm.Cond.and given_1 narrow_1)) {A : Nat → Prop} (hA : ∀ a : Nat, a < s.heap.size → ¬ A a) : ∃ t : Nat, (Term.static C1 n1 "[I").eval #[Value.ref b] s none [] s = some (.ref t) ∧ va_T .int t v.length (fun j => .int (v.getD j 0)) A s s.heap := by
  have hs := flat_of_before _ hgv
  exact va_Tof hN (hs _ m1) (va_eqt (hs _ m2)) (fun j hj => va_eqt (hs _ (m3 j hj))) hA
theorem st_bm : ∀ i, i < 3 → ∀ j, j < [6, 4, 4].getD i 0 → Cond.eq (.elem (.field (Term.string "SweetLine$Book" ([37, 69, 71].getD i 0)) "java/lang/String" "value" "[B") (.int (Int32.ofNat j))) (.int ((st_b.getD i []).getD j 0)) ∈ flatC (Jvm.Cond.and given_1 narrow_1) := by decide +kernel
theorem st_T {ty : FieldType} {t n : Nat} {f f2 : Nat → Value} {A : Nat → Prop} {U : State} {H : Heap} (h : va_T ty t n f A U H) (e : ∀ j, j < n → f j = f2 j) : va_T ty t n f2 A U H := by
  obtain ⟨cell, h1, h2, h3, h4, h5, h6, h7⟩ := h
  exact ⟨cell, h1, h2, h3, h4, h5, fun j hj => by rw [h6 j hj, e j hj], h7⟩
def st_al : List (Nat × FieldType) := [(1, .int), (2, .byte), (3, .boolean), (10, .object RX0), (15, .object RX5), (16, .object RX6), (18, .object RX8), (19, .object RX9)]
theorem st_ap (hts : ∀ w ∈ lw_tbl, w.before #[Value.ref b] s = true) {i : Nat} {ty : FieldType} (h : tables_1[i]? = some (Cond.arrayClass ty)) (hp : ∀ cA, s.vm.findClass ("[" ++ ty.toString) = some cA → va_RA s cA ty) : ∃ cA, ArrOfT s cA ty ∧ va_RA s cA ty := by
  obtain ⟨cA, k, comp, h1, h2, h3⟩ := Cond.arrayClass_spec (st_t hts h)
  exact ⟨cA, fun n z => ⟨fun k h => (by cases h), k, h2, comp, h3⟩, hp cA h1⟩
theorem st_ao (hts : ∀ w ∈ lw_tbl, w.before #[Value.ref b] s = true) {i : Nat} {C1 : String} (h : tables_1[i]? = some (Cond.arrayOver (.object C1))) : ∃ cA, ArrOfT s cA (.object C1) ∧ va_RA s cA (.object C1) := by
  obtain ⟨comp, cA, k, h1, h2, h3, h4, h5⟩ := Cond.arrayOver_spec (st_t hts h)
  exact ⟨cA, fun n z => ⟨fun k h => (by cases h), k, h3, comp, h4⟩, k, comp, h3, h4, h1, h5⟩
theorem st_arr (hts : ∀ w ∈ lw_tbl, w.before #[Value.ref b] s = true) : ∃ aC : Nat → ClassId, ∀ q ∈ st_al, ArrOfT s (aC q.1) q.2 ∧ va_RA s (aC q.1) q.2 := by
  obtain ⟨a1, q1⟩ := st_ap hts (i := 97) (ty := .int) (by decide +kernel) (fun _ h => h)
  obtain ⟨a2, q2⟩ := st_ap hts (i := 66) (ty := .byte) (by decide +kernel) (fun _ h => h)
  obtain ⟨a3, q3⟩ := st_ap hts (i := 1038) (ty := .boolean) (by decide +kernel) (fun _ h => h)
  obtain ⟨a10, q10⟩ := st_ao hts (i := 233) (C1 := RX0) (by decide +kernel)
  obtain ⟨a15, q15⟩ := st_ao hts (i := 147) (C1 := RX5) (by decide +kernel)
  obtain ⟨a16, q16⟩ := st_ao hts (i := 68) (C1 := RX6) (by decide +kernel)
  obtain ⟨a18, q18⟩ := st_ao hts (i := 30) (C1 := RX8) (by decide +kernel)
  obtain ⟨a19, q19⟩ := st_ao hts (i := 139) (C1 := RX9) (by decide +kernel)
  refine ⟨fun d => if d = 1 then a1 else if d = 2 then a2 else if d = 3 then a3 else if d = 10 then a10 else if d = 15 then a15 else if d = 16 then a16 else if d = 18 then a18 else a19, ?_⟩
  intro q hq
  simp only [st_al, List.mem_cons, List.not_mem_nil, or_false] at hq
  rcases hq with rfl | rfl | rfl | rfl | rfl | rfl | rfl | rfl
  · exact q1
  · exact q2
  · exact q3
  · exact q10
  · exact q15
  · exact q16
  · exact q18
  · exact q19
theorem st_cls (hts : ∀ w ∈ lw_tbl, w.before #[Value.ref b] s = true) : ∃ D : va_G, ∀ (k : Nat) (q : vw_C), ox_cls[k]? = some q → u_Kn s q.1 q.2.1 q.2.2 (D.1 k) (D.2 k) := by
  have hW : ∀ w ∈ ox_W, w.before #[Value.ref b] s = true := fun w hw => hts w (List.mem_filter.mp hw).1
  obtain ⟨c0, i0, k0⟩ := u_known (C := RX0) (T := TX0) (N := 7) (n := 7) hW (ox_lays (ci := 0) rfl) (st_t hts (i := 234) (by decide +kernel))
  obtain ⟨c1, i1, k1⟩ := u_known (C := RX1) (T := TX1) (N := 7) (n := 7) hW (ox_lays (ci := 1) rfl) (st_t hts (i := 227) (by decide +kernel))
  obtain ⟨c2, i2, k2⟩ := u_known (C := RX2) (T := TX2) (N := 6) (n := 6) hW (ox_lays (ci := 2) rfl) (st_t hts (i := 141) (by decide +kernel))
  obtain ⟨c3, i3, k3⟩ := u_known (C := RX3) (T := TX3) (N := 6) (n := 6) hW (ox_lays (ci := 3) rfl) (st_t hts (i := 32) (by decide +kernel))
  obtain ⟨c4, i4, k4⟩ := u_known (C := RX4) (T := TX4) (N := 2) (n := 2) hW (ox_lays (ci := 4) rfl) (st_t hts (i := 123) (by decide +kernel))
  obtain ⟨c5, i5, k5⟩ := u_known (C := RX5) (T := TX5) (N := 8) (n := 8) hW (ox_lays (ci := 5) rfl) (st_t hts (i := 157) (by decide +kernel))
  obtain ⟨c6, i6, k6⟩ := u_known (C := RX6) (T := TX6) (N := 5) (n := 5) hW (ox_lays (ci := 6) rfl) (st_t hts (i := 69) (by decide +kernel))
  obtain ⟨c7, i7, k7⟩ := u_known (C := RX7) (T := TX7) (N := 7) (n := 7) hW (ox_lays (ci := 7) rfl) (st_t hts (i := 296) (by decide +kernel))
  obtain ⟨c8, i8, k8⟩ := u_known (C := RX8) (T := TX8) (N := 4) (n := 4) hW (ox_lays (ci := 8) rfl) (st_t hts (i := 328) (by decide +kernel))
  obtain ⟨c9, i9, k9⟩ := u_known (C := RX9) (T := TX9) (N := 5) (n := 5) hW (ox_lays (ci := 9) rfl) (st_t hts (i := 350) (by decide +kernel))
  obtain ⟨c10, i10, k10⟩ := u_known (C := RX10) (T := TX10) (N := 6) (n := 6) hW (ox_lays (ci := 10) rfl) (st_t hts (i := 38) (by decide +kernel))
  obtain ⟨c11, i11, k11⟩ := u_known (C := RX11) (T := TX11) (N := 13) (n := 13) hW (ox_lays (ci := 11) rfl) (st_t hts (i := 22) (by decide +kernel))
  obtain ⟨c12, i12, k12⟩ := u_known (C := RX12) (T := TX12) (N := 59) (n := 59) hW (ox_lays (ci := 12) rfl) (st_t hts (i := 855) (by decide +kernel))
  refine ⟨(fun k => if k = 0 then c0 else if k = 1 then c1 else if k = 2 then c2 else if k = 3 then c3 else if k = 4 then c4 else if k = 5 then c5 else if k = 6 then c6 else if k = 7 then c7 else if k = 8 then c8 else if k = 9 then c9 else if k = 10 then c10 else if k = 11 then c11 else c12, fun k => if k = 0 then i0 else if k = 1 then i1 else if k = 2 then i2 else if k = 3 then i3 else if k = 4 then i4 else if k = 5 then i5 else if k = 6 then i6 else if k = 7 then i7 else if k = 8 then i8 else if k = 9 then i9 else if k = 10 then i10 else if k = 11 then i11 else i12), ?_⟩
  intro k q hq
  match k, hq with
  | 0, hq => cases hq; exact k0
  | 1, hq => cases hq; exact k1
  | 2, hq => cases hq; exact k2
  | 3, hq => cases hq; exact k3
  | 4, hq => cases hq; exact k4
  | 5, hq => cases hq; exact k5
  | 6, hq => cases hq; exact k6
  | 7, hq => cases hq; exact k7
  | 8, hq => cases hq; exact k8
  | 9, hq => cases hq; exact k9
  | 10, hq => cases hq; exact k10
  | 11, hq => cases hq; exact k11
  | 12, hq => cases hq; exact k12
  | k + 13, hq => simp [ox_cls] at hq
set_option maxHeartbeats 4000000 in
set_option maxRecDepth 100000 in
theorem st_all (C0 : lw_At p s m meth c b L xs) : ∃ g : ox_G, g.1 = s.heap.size ∧ ox_ca g 1 = b ∧ ox_C p s m #[Value.ref b] c g 4 code RL ∧ ox_Pic g (st_h L xs) s s.heap := by
  obtain ⟨hx, hb, hr, hml, hown, hts, hX, hbl, hlocks, hgv⟩ := C0
  have hA : ∀ a : Nat, a < s.heap.size → ¬ (fun q : Nat => s.heap.size ≤ q) a := fun a h => Nat.not_le.mpr h
  have hs := flat_of_before _ hgv
  obtain ⟨D, hD⟩ := st_cls hts
  obtain ⟨aC, haC⟩ := st_arr hts
  obtain ⟨t2, u2, w2⟩ := st_s hgv (C1 := "SweetLine$Belt") (n1 := "GEAR_AT_FIRST") (v := [50, 0, 0, 3, 3, 3, 3, 3, 3, 3, 3, 3, 3, 0, 0]) (by decide) (by decide +kernel) (by decide +kernel) (by decide +kernel) hA
  obtain ⟨t3, u3, w3⟩ := st_s hgv (C1 := "SweetLine$Belt") (n1 := "GEAR_LEAST") (v := [10, 0, 0, 0, 0, 0, 0, 0, 0, 0, 0, 0, 0, (-20), (-5)]) (by decide) (by decide +kernel) (by decide +kernel) (by decide +kernel) hA
  obtain ⟨t4, u4, w4⟩ := st_s hgv (C1 := "SweetLine$Belt") (n1 := "GEAR_MOST") (v := [200, 100, 3, 9, 9, 9, 9, 9, 9, 9, 9, 9, 9, 20, 5]) (by decide) (by decide +kernel) (by decide +kernel) (by decide +kernel) hA
  obtain ⟨t5, u5, w5⟩ := st_s hgv (C1 := "SweetLine") (n1 := "SIZE_BODY") (v := [10, 11, 12, 13, 14]) (by decide) (by decide +kernel) (by decide +kernel) (by decide +kernel) hA
  obtain ⟨t6, u6, w6⟩ := st_s hgv (C1 := "SweetLine") (n1 := "MARK_BODY") (v := [20, 21, 22, 20, 23]) (by decide) (by decide +kernel) (by decide +kernel) (by decide +kernel) hA
  obtain ⟨adK, adV, hK1, hK2⟩ := vk_Sof (args := #[Value.ref b]) (s := s) (N := 3) (tm := fun i => Term.string "SweetLine$Book" ([37, 69, 71].getD i 0)) (len := [6, 4, 4]) (byt := st_b) (A := fun q : Nat => s.heap.size ≤ q)
    (by decide) (fun i hi => hs _ (by revert i; decide +kernel)) (fun i hi => hs _ (by revert i; decide +kernel)) (fun i hi => hs _ (by revert i; decide +kernel)) (fun i hi => hs _ (by revert i; decide +kernel)) (fun i hi j hj => hs _ (st_bm i hi j hj)) (fun i j hi hj hne => by
      have key : ∀ i, i < 3 → ∀ j, j < 3 → i ≠ j → (Cond.not (Cond.eq (Term.string "SweetLine$Book" ([37, 69, 71].getD i 0)) (Term.string "SweetLine$Book" ([37, 69, 71].getD j 0)))) ∈ flatC (Jvm.Cond.and given_1 narrow_1) ∨ (Cond.not (Cond.eq (Term.string "SweetLine$Book" ([37, 69, 71].getD j 0)) (Term.string "SweetLine$Book" ([37, 69, 71].getD i 0)))) ∈ flatC (Jvm.Cond.and given_1 narrow_1) := by decide +kernel
      rcases key i hi j hj hne with q | q
      · exact Or.inl (hs _ q)
      · exact Or.inr (hs _ q)) hA
  obtain ⟨t13, z13⟩ : ∃ t13 : Nat, va_Z "jdk/internal/util/Preconditions" "SIOOBE_FORMATTER" "Ljava/util/function/BiFunction;" .null (fun q : Nat => s.heap.size ≤ q) s s.heap ∨ va_Z "jdk/internal/util/Preconditions" "SIOOBE_FORMATTER" "Ljava/util/function/BiFunction;" (.ref t13) (fun q : Nat => s.heap.size ≤ q) s s.heap := by
    have hq := va_Zqof (C := "jdk/internal/util/Preconditions") (n := "SIOOBE_FORMATTER") (d := "Ljava/util/function/BiFunction;") (A := fun q : Nat => s.heap.size ≤ q) (st_t hts (i := 545) (by decide +kernel)) (st_t hts (i := 18) (by decide +kernel)) (hs _ (by decide +kernel)) hA
    rcases hq with q | ⟨t, q⟩
    · exact ⟨0, Or.inl q⟩
    · exact ⟨t, Or.inr q⟩
  have ex : ∃ ex : Nat → Nat, ex 1 = b ∧ ex 2 = t2 ∧ ex 3 = t3 ∧ ex 4 = t4 ∧ ex 5 = t5 ∧ ex 6 = t6 ∧ ex 7 = adK 0 ∧ ex 8 = adK 1 ∧ ex 9 = adK 2 ∧ ex 10 = adV 0 ∧ ex 11 = adV 1 ∧ ex 12 = adV 2 ∧ ex 13 = t13 :=
    ⟨fun a => if a = 1 then b else if a = 2 then t2 else if a = 3 then t3 else if a = 4 then t4 else if a = 5 then t5 else if a = 6 then t6 else if a = 7 then adK 0 else if a = 8 then adK 1 else if a = 9 then adK 2 else if a = 10 then adV 0 else if a = 11 then adV 1 else if a = 12 then adV 2 else t13, rfl, rfl, rfl, rfl, rfl, rfl, rfl, rfl, rfl, rfl, rfl, rfl, rfl⟩
  obtain ⟨ex, x1, x2, x3, x4, x5, x6, x7, x8, x9, x10, x11, x12, x13⟩ := ex
  refine ⟨(s.heap.size, ex, D, aC), rfl, x1, ⟨hx, hb, hml, hown, fun w hw => hts w (List.mem_filter.mp hw).1, ⟨⟨hD, ?_⟩, ?_, ?_, ?_, ?_, ?_, ?_, ?_⟩⟩, ?_⟩
  · intro k q hk
    have hq := List.mem_of_getElem? hk
    simp only [ox_tys, List.mem_cons, List.not_mem_nil, or_false] at hq
    rcases hq with rfl | rfl | rfl | rfl | rfl | rfl | rfl | rfl
    · exact haC (1, .int) (by decide +kernel)
    · exact haC (2, .byte) (by decide +kernel)
    · exact haC (3, .boolean) (by decide +kernel)
    · exact haC (10, .object RX0) (by decide +kernel)
    · exact haC (15, .object RX5) (by decide +kernel)
    · exact haC (16, .object RX6) (by decide +kernel)
    · exact haC (18, .object RX8) (by decide +kernel)
    · exact haC (19, .object RX9) (by decide +kernel)
  · intro q hq
    simp only [ox_sts, List.mem_cons, List.not_mem_nil, or_false] at hq
    rcases hq with rfl | rfl | rfl | rfl | rfl
    · exact va_Zref (t := ex 2) (st_t hts (i := 149) (by decide +kernel)) (st_t hts (i := 6) (by decide +kernel)) (by rw [x2]; exact u2) hA
    · exact va_Zref (t := ex 3) (st_t hts (i := 681) (by decide +kernel)) (st_t hts (i := 6) (by decide +kernel)) (by rw [x3]; exact u3) hA
    · exact va_Zref (t := ex 4) (st_t hts (i := 683) (by decide +kernel)) (st_t hts (i := 6) (by decide +kernel)) (by rw [x4]; exact u4) hA
    · exact va_Zref (t := ex 5) (st_t hts (i := 831) (by decide +kernel)) (st_t hts (i := 1) (by decide +kernel)) (by rw [x5]; exact u5) hA
    · exact va_Zref (t := ex 6) (st_t hts (i := 833) (by decide +kernel)) (st_t hts (i := 1) (by decide +kernel)) (by rw [x6]; exact u6) hA
  · exact va_Zof (st_t hts (i := 529) (by decide +kernel)) (st_t hts (i := 16) (by decide +kernel)) (va_eqt (hs _ (by decide +kernel))) hA
  · intro q hq
    simp only [ox_strs, List.mem_cons, List.not_mem_nil, or_false] at hq
    rcases hq with rfl | rfl | rfl
    · exact vk_R.of (A := #[Value.ref b]) (st_t hts (i := 515) (by decide +kernel)) (by show _ = some (Value.ref (ex 7)); rw [x7]; exact hK2 0 (by decide))
    · exact vk_R.of (A := #[Value.ref b]) (st_t hts (i := 582) (by decide +kernel)) (by show _ = some (Value.ref (ex 8)); rw [x8]; exact hK2 1 (by decide))
    · exact vk_R.of (A := #[Value.ref b]) (st_t hts (i := 583) (by decide +kernel)) (by show _ = some (Value.ref (ex 9)); rw [x9]; exact hK2 2 (by decide))
  · intro q hq
    simp only [ox_nst, List.mem_cons, List.not_mem_nil, or_false] at hq
    rcases hq with rfl | rfl | rfl | rfl | rfl | rfl | rfl | rfl | rfl | rfl | rfl
    · exact va_Nw.of (A := #[Value.ref b]) rfl (st_t hts (i := 39) (by decide +kernel))
    · exact va_Nw.of (A := #[Value.ref b]) rfl (st_t hts (i := 70) (by decide +kernel))
    · exact va_Nw.of (A := #[Value.ref b]) rfl (st_t hts (i := 124) (by decide +kernel))
    · exact va_Nw.of (A := #[Value.ref b]) rfl (st_t hts (i := 158) (by decide +kernel))
    · exact va_Nw.of (A := #[Value.ref b]) rfl (st_t hts (i := 235) (by decide +kernel))
    · exact va_Nw.of (A := #[Value.ref b]) rfl (st_t hts (i := 297) (by decide +kernel))
    · exact va_Nw.of (A := #[Value.ref b]) rfl (st_t hts (i := 329) (by decide +kernel))
    · exact va_Nw.of (A := #[Value.ref b]) rfl (st_t hts (i := 351) (by decide +kernel))
    · exact va_Nw.of (A := #[Value.ref b]) rfl (st_t hts (i := 356) (by decide +kernel))
    · exact va_Nw.of (A := #[Value.ref b]) rfl (st_t hts (i := 577) (by decide +kernel))
    · exact va_Nw.of (A := #[Value.ref b]) rfl (st_t hts (i := 620) (by decide +kernel))
  · intro q hq
    simp only [ox_ovs, List.mem_cons, List.not_mem_nil, or_false] at hq
    rcases hq with rfl | rfl | rfl | rfl | rfl
    · exact va_AO.of (A := #[Value.ref b]) (st_t hts (i := 30) (by decide +kernel))
    · exact va_AO.of (A := #[Value.ref b]) (st_t hts (i := 139) (by decide +kernel))
    · exact va_AO.of (A := #[Value.ref b]) (st_t hts (i := 68) (by decide +kernel))
    · exact va_AO.of (A := #[Value.ref b]) (st_t hts (i := 147) (by decide +kernel))
    · exact va_AO.of (A := #[Value.ref b]) (st_t hts (i := 233) (by decide +kernel))
  · exact va_Nw.of (A := #[Value.ref b]) rfl (st_t hts (i := 155) (by decide +kernel))
  · rcases z13 with q | q
    · exact Or.inl q
    · refine Or.inr ?_
      show va_Z "jdk/internal/util/Preconditions" "SIOOBE_FORMATTER" "Ljava/util/function/BiFunction;" (.ref (ex 13)) _ _ _
      rw [x13]
      exact q
  · obtain ⟨scr, y1, y2, y3, y4, y5⟩ := hX
    have wb : va_T .int b L (fun j => .int (xs j)) (fun q : Nat => s.heap.size ≤ q) s s.heap := ⟨scr, y1, y2, y3, by rw [y4]; exact Nat.le_refl _, by rw [y4], y5, hA b hbl⟩
    refine ⟨rfl, by show 16 ≤ 16; exact Nat.le_refl _, fun a h1 h2 => ?_, fun a ha => ?_⟩
    · have : a < 16 := h2
      omega
    · have k0 := hK1.1 0 (by decide)
      have k1 := hK1.1 1 (by decide)
      have k2 := hK1.1 2 (by decide)
      match a, ha with
      | 0, _ => exact ⟨⟨Nat.le_of_ble_eq_true rfl, Nat.le_of_ble_eq_true rfl⟩, fun n q => (by cases q), fun n q => (by cases q), fun n q => (by cases q)⟩
      | 1, _ => exact ⟨⟨by show 5 ≤ 5; decide, by show 5 ≤ 9; decide⟩, fun n q => (by cases q; show va_T .int (ex 1) L _ _ _ _; rw [x1]; exact wb), fun n q => (by cases q), fun n q => (by cases q)⟩
      | 2, _ => exact ⟨⟨Nat.le_of_ble_eq_true rfl, Nat.le_of_ble_eq_true rfl⟩, fun n q => (by cases q; show va_T .int (ex 2) 15 _ _ _ _; rw [x2]; exact w2), fun n q => (by cases q), fun n q => (by cases q)⟩
      | 3, _ => exact ⟨⟨Nat.le_of_ble_eq_true rfl, Nat.le_of_ble_eq_true rfl⟩, fun n q => (by cases q; show va_T .int (ex 3) 15 _ _ _ _; rw [x3]; exact w3), fun n q => (by cases q), fun n q => (by cases q)⟩
      | 4, _ => exact ⟨⟨Nat.le_of_ble_eq_true rfl, Nat.le_of_ble_eq_true rfl⟩, fun n q => (by cases q; show va_T .int (ex 4) 15 _ _ _ _; rw [x4]; exact w4), fun n q => (by cases q), fun n q => (by cases q)⟩
      | 5, _ => exact ⟨⟨Nat.le_of_ble_eq_true rfl, Nat.le_of_ble_eq_true rfl⟩, fun n q => (by cases q; show va_T .int (ex 5) 5 _ _ _ _; rw [x5]; exact w5), fun n q => (by cases q), fun n q => (by cases q)⟩
      | 6, _ => exact ⟨⟨Nat.le_of_ble_eq_true rfl, Nat.le_of_ble_eq_true rfl⟩, fun n q => (by cases q; show va_T .int (ex 6) 5 _ _ _ _; rw [x6]; exact w6), fun n q => (by cases q), fun n q => (by cases q)⟩
      | 7, _ => exact ⟨⟨Nat.le_of_ble_eq_true rfl, Nat.le_of_ble_eq_true rfl⟩, fun n q => (by cases q), fun n q => (by cases q), fun n q => (by cases q; show va_O _ (ex 7) _ _ _ ∧ va_OF _ _ _ _ (ex 7) _ _ _ ∧ va_OF _ _ _ (.ref (ex 10)) (ex 7) _ _ _; rw [x7, x10]; exact ⟨k0.1, k0.2.1, k0.2.2.1⟩)⟩
      | 8, _ => exact ⟨⟨Nat.le_of_ble_eq_true rfl, Nat.le_of_ble_eq_true rfl⟩, fun n q => (by cases q), fun n q => (by cases q), fun n q => (by cases q; show va_O _ (ex 8) _ _ _ ∧ va_OF _ _ _ _ (ex 8) _ _ _ ∧ va_OF _ _ _ (.ref (ex 11)) (ex 8) _ _ _; rw [x8, x11]; exact ⟨k1.1, k1.2.1, k1.2.2.1⟩)⟩
      | 9, _ => exact ⟨⟨Nat.le_of_ble_eq_true rfl, Nat.le_of_ble_eq_true rfl⟩, fun n q => (by cases q), fun n q => (by cases q), fun n q => (by cases q; show va_O _ (ex 9) _ _ _ ∧ va_OF _ _ _ _ (ex 9) _ _ _ ∧ va_OF _ _ _ (.ref (ex 12)) (ex 9) _ _ _; rw [x9, x12]; exact ⟨k2.1, k2.2.1, k2.2.2.1⟩)⟩
      | 10, _ => exact ⟨⟨Nat.le_of_ble_eq_true rfl, Nat.le_of_ble_eq_true rfl⟩, fun n q => (by cases q), fun n q => (by cases q; show va_T .byte (ex 10) 6 _ _ _ _; rw [x10]; exact k0.2.2.2), fun n q => (by cases q)⟩
      | 11, _ => exact ⟨⟨Nat.le_of_ble_eq_true rfl, Nat.le_of_ble_eq_true rfl⟩, fun n q => (by cases q), fun n q => (by cases q; show va_T .byte (ex 11) 4 _ _ _ _; rw [x11]; exact k1.2.2.2), fun n q => (by cases q)⟩
      | 12, _ => exact ⟨⟨Nat.le_of_ble_eq_true rfl, Nat.le_of_ble_eq_true rfl⟩, fun n q => (by cases q), fun n q => (by cases q; show va_T .byte (ex 12) 4 _ _ _ _; rw [x12]; exact k2.2.2.2), fun n q => (by cases q)⟩
      | 13, _ => exact ⟨⟨Nat.le_of_ble_eq_true rfl, Nat.le_of_ble_eq_true rfl⟩, fun n q => (by cases q), fun n q => (by cases q), fun n q => (by cases q)⟩
      | 14, _ => exact ⟨⟨Nat.le_of_ble_eq_true rfl, Nat.le_of_ble_eq_true rfl⟩, fun n q => (by cases q), fun n q => (by cases q), fun n q => (by cases q)⟩
      | 15, _ => exact ⟨⟨Nat.le_of_ble_eq_true rfl, Nat.le_of_ble_eq_true rfl⟩, fun n q => (by cases q), fun n q => (by cases q), fun n q => (by cases q)⟩
      | a + 16, ha => exact absurd ha (by omega)
end STT
set_option maxHeartbeats 4000000 in
set_option maxRecDepth 100000 in
/-- the claim out of a pure run of the law -/
theorem st_go {d1 d2 d3 d4 d5 d6 d7 d8 d9 d10 d11 d12 d13 d14 d15 d16 d17 d18 d19 d20 d21 d22 d23 d24 d25 d26 d27 d28 d29 d30 d31 d32 d33 d34 d35 d36 d37 d38 d39 d40 d41 d42 d43 d44 d45 d46 d47 d48 d49 d50 d51 d52 d53 d54 d55 d56 d57 d58 d59 d60 d61 d62 : Nat} {f1 f2 f3 f4 f5 f6 f7 f8 f9 f10 f11 f12 f13 f14 f15 f16 f17 f18 f19 f20 f21 f22 f23 f24 f25 f26 f27 f28 f29 f30 f31 f32 f33 f34 f35 f36 f37 f38 f39 f40 f41 f42 f43 f44 f45 f46 f47 f48 f49 f50 f51 f52 f53 f54 f55 f56 f57 f58 f59 f60 f61 f62 : ox_F} (h1 : ox_Sem yX11_init cX11_init 2 none d1 f1) (e1 : d1 ≤ 1000) (h2 : ox_Sem yX12_init cX12_init 1 none d2 f2) (e2 : d2 ≤ 1000) (h3 : ox_Sem yX11_sheet cX11_sheet 4 (some .int) d3 f3) (e3 : d3 ≤ 1000) (h4 : ox_Sem yX12_sheet cX12_sheet 5 (some .int) d4 f4) (e4 : d4 ≤ 1000) (h5 : ox_Sem yX11_set cX11_set 6 (some .int) d5 f5) (e5 : d5 ≤ 1000) (h6 : ox_Sem yX12_set cX12_set 4 (some .int) d6 f6) (e6 : d6 ≤ 1000) (h7 : ox_Sem yX11_copy cX11_copy 8 (some .int) d7 f7) (e7 : d7 ≤ 1000) (h8 : ox_Sem yX12_copy cX12_copy 9 (some .int) d8 f8) (e8 : d8 ≤ 1000) (h9 : ox_Sem yX11_drop cX11_drop 3 (some .int) d9 f9) (e9 : d9 ≤ 1000) (h10 : ox_Sem yX12_drop cX12_drop 2 (some .int) d10 f10) (e10 : d10 ≤ 1000) (h11 : ox_Sem yX11_feed cX11_feed 5 (some .int) d11 f11) (e11 : d11 ≤ 1000) (h12 : ox_Sem yX12_feed cX12_feed 5 (some .int) d12 f12) (e12 : d12 ≤ 1000) (h13 : ox_Sem yX11_recipes cX11_recipes 2 (some .int) d13 f13) (e13 : d13 ≤ 1000) (h14 : ox_Sem yX12_recipes cX12_recipes 1 (some .int) d14 f14) (e14 : d14 ≤ 1000) (h15 : ox_Sem yX11_fault cX11_fault 1 (some .int) d15 f15) (e15 : d15 ≤ 1000) (h16 : ox_Sem yX12_fault cX12_fault 1 (some .int) d16 f16) (e16 : d16 ≤ 1000) (h17 : ox_Sem yX11_temper cX11_temper 5 (some .int) d17 f17) (e17 : d17 ≤ 1000) (h18 : ox_Sem yX12_temper cX12_temper 5 (some .int) d18 f18) (e18 : d18 ≤ 1000) (h19 : ox_Sem yX11_fill cX11_fill 10 (some .int) d19 f19) (e19 : d19 ≤ 1000) (h20 : ox_Sem yX12_fill cX12_fill 8 (some .int) d20 f20) (e20 : d20 ≤ 1000) (h21 : ox_Sem yX11_ready cX11_ready 3 (some .int) d21 f21) (e21 : d21 ≤ 1000) (h22 : ox_Sem yX12_ready cX12_ready 2 (some .int) d22 f22) (e22 : d22 ≤ 1000) (h23 : ox_Sem yX11_drain cX11_drain 3 (some .int) d23 f23) (e23 : d23 ≤ 1000) (h24 : ox_Sem yX12_drain cX12_drain 3 (some .int) d24 f24) (e24 : d24 ≤ 1000) (h25 : ox_Sem yX11_tank cX11_tank 5 (some .int) d25 f25) (e25 : d25 ≤ 1000) (h26 : ox_Sem yX12_tank cX12_tank 3 (some .int) d26 f26) (e26 : d26 ≤ 1000) (h27 : ox_Sem yX11_belt cX11_belt 3 (some .int) d27 f27) (e27 : d27 ≤ 1000) (h28 : ox_Sem yX12_belt cX12_belt 3 (some .int) d28 f28) (e28 : d28 ≤ 1000) (h29 : ox_Sem yX11_gear cX11_gear 4 (some .int) d29 f29) (e29 : d29 ≤ 1000) (h30 : ox_Sem yX12_gear cX12_gear 6 (some .int) d30 f30) (e30 : d30 ≤ 1000) (h31 : ox_Sem yX11_beat cX11_beat 4 (some .int) d31 f31) (e31 : d31 ≤ 1000) (h32 : ox_Sem yX12_beat cX12_beat 4 (some .int) d32 f32) (e32 : d32 ≤ 1000) (h33 : ox_Sem yX11_mould cX11_mould 4 (some .int) d33 f33) (e33 : d33 ≤ 1000) (h34 : ox_Sem yX12_mould cX12_mould 4 (some .int) d34 f34) (e34 : d34 ≤ 1000) (h35 : ox_Sem yX11_correct cX11_correct 3 (some .int) d35 f35) (e35 : d35 ≤ 1000) (h36 : ox_Sem yX12_correct cX12_correct 4 (some .int) d36 f36) (e36 : d36 ≤ 1000) (h37 : ox_Sem yX11_bar cX11_bar 4 (some .int) d37 f37) (e37 : d37 ≤ 1000) (h38 : ox_Sem yX12_bar cX12_bar 3 (some .int) d38 f38) (e38 : d38 ≤ 1000) (h39 : ox_Sem yX11_recall cX11_recall 2 (some .int) d39 f39) (e39 : d39 ≤ 1000) (h40 : ox_Sem yX12_recall cX12_recall 4 (some .int) d40 f40) (e40 : d40 ≤ 1000) (h41 : ox_Sem yX11_melt cX11_melt 5 (some .int) d41 f41) (e41 : d41 ≤ 1000) (h42 : ox_Sem yX12_melt cX12_melt 2 (some .int) d42 f42) (e42 : d42 ≤ 1000) (h43 : ox_Sem yX11_bin cX11_bin 2 (some .int) d43 f43) (e43 : d43 ≤ 1000) (h44 : ox_Sem yX12_bin cX12_bin 2 (some .int) d44 f44) (e44 : d44 ≤ 1000) (h45 : ox_Sem yX11_grams cX11_grams 2 (some .int) d45 f45) (e45 : d45 ≤ 1000) (h46 : ox_Sem yX12_grams cX12_grams 4 (some .int) d46 f46) (e46 : d46 ≤ 1000) (h47 : ox_Sem yX11_bloom cX11_bloom 12 (some .int) d47 f47) (e47 : d47 ≤ 1000) (h48 : ox_Sem yX12_bloom cX12_bloom 11 (some .int) d48 f48) (e48 : d48 ≤ 1000) (h49 : ox_Sem yX11_orders cX11_orders 7 (some .int) d49 f49) (e49 : d49 ≤ 1000) (h50 : ox_Sem yX12_orders cX12_orders 11 (some .int) d50 f50) (e50 : d50 ≤ 1000) (h51 : ox_Sem yX11_kind cX11_kind 2 (some .int) d51 f51) (e51 : d51 ≤ 1000) (h52 : ox_Sem yX12_kind cX12_kind 2 (some .int) d52 f52) (e52 : d52 ≤ 1000) (h53 : ox_Sem yX11_as cX11_as 5 (some .int) d53 f53) (e53 : d53 ≤ 1000) (h54 : ox_Sem yX12_as cX12_as 3 (some .int) d54 f54) (e54 : d54 ≤ 1000) (h55 : ox_Sem yX11_ask cX11_ask 5 (some .int) d55 f55) (e55 : d55 ≤ 1000) (h56 : ox_Sem yX12_ask cX12_ask 4 (some .int) d56 f56) (e56 : d56 ≤ 1000) (h57 : ox_Sem yX11_trace cX11_trace 2 (some .int) d57 f57) (e57 : d57 ≤ 1000) (h58 : ox_Sem yX12_trace cX12_trace 2 (some .int) d58 f58) (e58 : d58 ≤ 1000) (h59 : ox_Sem yX11_count cX11_count 2 (some .int) d59 f59) (e59 : d59 ≤ 1000) (h60 : ox_Sem yX12_count cX12_count 4 (some .int) d60 f60) (e60 : d60 ≤ 1000) (h61 : ox_Sem yX11_status cX11_status 1 (some .int) d61 f61) (e61 : d61 ≤ 1000) (h62 : ox_Sem yX12_status cX12_status 1 (some .int) d62 f62) (e62 : d62 ≤ 1000) {p : Program} {e : Env} {s : State} {m : MethodId} {below : List Frame} {meth : Method} {c : Code} (l : Launch) {b L : Nat} {xs : Nat → Int32} (C0 : lw_At p s m meth c b L xs) {n : Nat} {r : ox_R} (hrun : ox_run (bsL_law f1 f2 f3 f4 f5 f6 f7 f8 f9 f10 f11 f12 f13 f14 f15 f16 f17 f18 f19 f20 f21 f22 f23 f24 f25 f26 f27 f28 f29 f30 f31 f32 f33 f34 f35 f36 f37 f38 f39 f40 f41 f42 f43 f44 f45 f46 f47 f48 f49 f50 f51 f52 f53 f54 f55 f56 f57 f58 f59 f60 f61 f62) n 0 [(0, .ref 1)] [] (st_h L xs) = some r) (hn : ox_n r.2 ≤ 600000 + 16) (ht : ox_t r.2 ≤ 7302250 + ox_t (st_h L xs)) : W p l e room_1 s m #[Value.ref b] below meth c s.heap [] 0 0 (lw_Z below #[Value.ref b] s) (entryFrame m ([Value.ref b] : List Value).toArray 4) := by
  obtain ⟨g, hB, hb1, C, hP⟩ := st_all C0
  obtain ⟨hx, hb, hr, hml, hown, hts, hX, hbl, hlocks, hgv⟩ := id C0
  obtain ⟨-, K⟩ := mL_law (l := l) (e := e) (below := below) (c0 := 16) (t0 := ox_t (st_h L xs)) C hr hlocks hB h1 e1 h2 e2 h3 e3 h4 e4 h5 e5 h6 e6 h7 e7 h8 e8 h9 e9 h10 e10 h11 e11 h12 e12 h13 e13 h14 e14 h15 e15 h16 e16 h17 e17 h18 e18 h19 e19 h20 e20 h21 e21 h22 e22 h23 e23 h24 e24 h25 e25 h26 e26 h27 e27 h28 e28 h29 e29 h30 e30 h31 e31 h32 e32 h33 e33 h34 e34 h35 e35 h36 e36 h37 e37 h38 e38 h39 e39 h40 e40 h41 e41 h42 e42 h43 e43 h44 e44 h45 e45 h46 e46 h47 e47 h48 e48 h49 e49 h50 e50 h51 e51 h52 e52 h53 e53 h54 e54 h55 e55 h56 e56 h57 e57 h58 e58 h59 e59 h60 e60 h61 e61 h62 e62 n 0 _ _ _ _ hrun
  have hl := lv_entry ([.ref b]) (n := 4) (Nat.le_of_ble_eq_true rfl)
  rw [lg_entry_eq]
  have hcl : ox_cl g [(0, .ref 1)] = [(0, .ref b)] := by
    show [(0, Value.ref (ox_ca g 1))] = _
    rw [hb1]
  have := K s.heap [] _ hP va_S.rf (by rw [hcl]; exact hl) ⟨Nat.le_refl _, Nat.le_refl _, hn, ht⟩
  rw [show ox_n (st_h L xs) - 16 = 0 from rfl, Nat.sub_self] at this
  exact this
