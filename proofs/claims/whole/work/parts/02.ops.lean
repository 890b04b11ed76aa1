/-! the classes of the system, by number -/
def ox_cls : List vw_C := [(RX0, TX0, 7), (RX1, TX1, 7), (RX2, TX2, 6), (RX3, TX3, 6), (RX4, TX4, 2), (RX5, TX5, 8), (RX6, TX6, 5), (RX7, TX7, 7), (RX8, TX8, 4), (RX9, TX9, 5), (RX10, TX10, 6), (RX11, TX11, 13), (RX12, TX12, 59)]
def ox_ty (ci : Nat) : Nat → FieldType := match ci with
  | 0 => tyX0
  | 1 => tyX1
  | 2 => tyX2
  | 3 => tyX3
  | 4 => tyX4
  | 5 => tyX5
  | 6 => tyX6
  | 7 => tyX7
  | 8 => tyX8
  | 9 => tyX9
  | 10 => tyX10
  | 11 => tyX11
  | _ => tyX12
def ox_isr (t : FieldType) : Bool := match t with
  | .object _ => true
  | .array _ => true
  | _ => false
/-- the words of the tables that last -/
def ox_W : List Cond := lw_tbl.filter goodWord
theorem ox_Wt {w : Cond} (i : Nat) (h : tables_1[i]? = some w) (hg : goodWord w = true) : w ∈ ox_W := List.mem_filter.mpr ⟨List.mem_append_right _ (List.mem_of_getElem? h), hg⟩
theorem ox_Wp {w : Cond} (i : Nat) (h : (k2_sels lw_privs)[i]? = some w) (hg : goodWord w = true) : w ∈ ox_W := List.mem_filter.mpr ⟨List.mem_append_left _ (List.mem_of_getElem? h), hg⟩
theorem ox_Wg {w : Cond} (h : w ∈ ox_W) : goodWord w = true := (List.mem_filter.mp h).2
theorem ox_good {a b : Cond} (h : b ∈ ox_W) : GoodIn (a :: ox_W) (b :: ox_W) := by
  intro w hw
  have hw2 : w ∈ ox_W := by
    rcases List.mem_cons.mp hw with e | e
    · rw [e]; exact h
    · exact e
  exact ⟨List.mem_cons_of_mem _ hw2, good_of_word (ox_Wg hw2)⟩
theorem ox_goodT {b : Cond} (h : b ∈ ox_W) : GoodIn ox_W (b :: ox_W) := by
  intro w hw
  have hw2 : w ∈ ox_W := by
    rcases List.mem_cons.mp hw with e | e
    · rw [e]; exact h
    · exact e
  exact ⟨hw2, good_of_word (ox_Wg hw2)⟩
theorem ox_Wof {w : Cond} (h : w ∈ tables_1 ∧ goodWord w = true) : w ∈ ox_W := List.mem_filter.mpr ⟨List.mem_append_right _ h.1, h.2⟩
theorem ox_ly0 : ∀ w ∈ u_ws RX0 TX0 7, w ∈ tables_1 ∧ goodWord w = true := by decide +kernel
theorem ox_ly1 : ∀ w ∈ u_ws RX1 TX1 7, w ∈ tables_1 ∧ goodWord w = true := by decide +kernel
theorem ox_ly2 : ∀ w ∈ u_ws RX2 TX2 6, w ∈ tables_1 ∧ goodWord w = true := by decide +kernel
theorem ox_ly3 : ∀ w ∈ u_ws RX3 TX3 6, w ∈ tables_1 ∧ goodWord w = true := by decide +kernel
theorem ox_ly4 : ∀ w ∈ u_ws RX4 TX4 2, w ∈ tables_1 ∧ goodWord w = true := by decide +kernel
theorem ox_ly5 : ∀ w ∈ u_ws RX5 TX5 8, w ∈ tables_1 ∧ goodWord w = true := by decide +kernel
theorem ox_ly6 : ∀ w ∈ u_ws RX6 TX6 5, w ∈ tables_1 ∧ goodWord w = true := by decide +kernel
theorem ox_ly7 : ∀ w ∈ u_ws RX7 TX7 7, w ∈ tables_1 ∧ goodWord w = true := by decide +kernel
theorem ox_ly8 : ∀ w ∈ u_ws RX8 TX8 4, w ∈ tables_1 ∧ goodWord w = true := by decide +kernel
theorem ox_ly9 : ∀ w ∈ u_ws RX9 TX9 5, w ∈ tables_1 ∧ goodWord w = true := by decide +kernel
theorem ox_ly10 : ∀ w ∈ u_ws RX10 TX10 6, w ∈ tables_1 ∧ goodWord w = true := by decide +kernel
theorem ox_ly11 : ∀ w ∈ u_ws RX11 TX11 13, w ∈ tables_1 ∧ goodWord w = true := by decide +kernel
theorem ox_ly12 : ∀ w ∈ u_ws RX12 TX12 59, w ∈ tables_1 ∧ goodWord w = true := by decide +kernel
/-! the abstract heap: shapes, numbers, references -/
abbrev ox_HP : Type := List (Nat × Nat) × (Nat → Nat → Int32) × (Nat → Nat → Nat)
abbrev ox_R : Type := Option Value × ox_HP
abbrev ox_L : Type := List (Nat × Value)
abbrev ox_K : Type := ox_L → List Value → ox_HP → Option ox_R
abbrev ox_F : Type := List Value → ox_HP → Option ox_R
/-- the place: where the new cells begin, where the old ones are, the classes' numbers, the array classes' -/
abbrev ox_G : Type := Nat × (Nat → Nat) × va_G × (Nat → ClassId)
def ox_sh (h : ox_HP) (a : Nat) : Nat × Nat := h.1.getD a (9, 0)
def ox_n (h : ox_HP) : Nat := h.1.length
def ox_sl (q : Nat × Nat) : Nat := if q.1 = 0 then ((ox_cls[q.2]?).map (fun z => z.2.2)).getD 0 else q.2
def ox_t (h : ox_HP) : Nat := (h.1.map ox_sl).sum
def ox_le (h h2 : ox_HP) : Prop := ox_n h ≤ ox_n h2 ∧ ox_t h ≤ ox_t h2
theorem ox_le.rf {h : ox_HP} : ox_le h h := ⟨Nat.le_refl _, Nat.le_refl _⟩
theorem ox_le.tr {a b d : ox_HP} (h1 : ox_le a b) (h2 : ox_le b d) : ox_le a d := ⟨Nat.le_trans h1.1 h2.1, Nat.le_trans h1.2 h2.2⟩
def ox_wi (h : ox_HP) (a i : Nat) (x : Int32) : ox_HP := (h.1, va_up h.2.1 a (upd (h.2.1 a) i x), h.2.2)
def ox_wa (h : ox_HP) (a : Nat) (f : Nat → Int32) : ox_HP := (h.1, va_up h.2.1 a f, h.2.2)
def ox_wr (h : ox_HP) (a i r : Nat) : ox_HP := (h.1, h.2.1, va_up h.2.2 a (va_up (h.2.2 a) i r))
def ox_nw (h : ox_HP) (q : Nat × Nat) (f : Nat → Int32) : ox_HP := (h.1 ++ [q], va_up h.2.1 h.1.length f, va_up h.2.2 h.1.length (fun _ => 0))
def ox_ca (g : ox_G) (a : Nat) : Nat := if a < 16 then g.2.1 a else g.1 + (a - 16)
def ox_rv (g : ox_G) (r : Nat) : Value := if r = 0 then .null else .ref (ox_ca g r)
def ox_cv (g : ox_G) (v : Value) : Value := match v with
  | .ref a => .ref (ox_ca g a)
  | v => v
def ox_cl (g : ox_G) (lv : ox_L) : ox_L := lv.map (fun q => (q.1, ox_cv g q.2))
def ox_fv (g : ox_G) (h : ox_HP) (ci a k : Nat) : Value := if ox_isr (ox_ty ci k) = true then ox_rv g (h.2.2 a k) else .int (h.2.1 a k)
def ox_Cel (g : ox_G) (h : ox_HP) (a : Nat) (H : Heap) : Prop :=
  (∀ ci, ox_sh h a = (0, ci) → ∃ q, ox_cls[ci]? = some q ∧ t_OB (ox_ca g a) (g.2.2.1.1 ci) q.2.2 (g.2.2.1.2 ci) H (ox_fv g h ci a)) ∧
  (∀ d n, ox_sh h a = (d, n) → (d = 1 ∨ d = 2 ∨ d = 3) → H[ox_ca g a]? = some (arrV (g.2.2.2 d) n (fun i => .int (h.2.1 a i)))) ∧
  (∀ ci n, ox_sh h a = (10 + ci, n) → H[ox_ca g a]? = some (arrV (g.2.2.2 (10 + ci)) n (fun i => ox_rv g (h.2.2 a i))))
def ox_A (g : ox_G) : Nat → Prop := fun q => g.1 ≤ q
def ox_Ext (g : ox_G) (h : ox_HP) (a : Nat) (U : State) (H : Heap) : Prop :=
  (5 ≤ (ox_sh h a).1 ∧ (ox_sh h a).1 ≤ 9) ∧
  (∀ n, ox_sh h a = (5, n) → va_T .int (ox_ca g a) n (fun i => .int (h.2.1 a i)) (ox_A g) U H) ∧
  (∀ n, ox_sh h a = (7, n) → va_T .byte (ox_ca g a) n (fun i => .int (h.2.1 a i)) (ox_A g) U H) ∧
  (∀ b, ox_sh h a = (6, b) → va_O "java/lang/String" (ox_ca g a) (ox_A g) U H ∧ va_OF "java/lang/String" "coder" "B" (.int 0) (ox_ca g a) (ox_A g) U H ∧ va_OF "java/lang/String" "value" "[B" (.ref (ox_ca g b)) (ox_ca g a) (ox_A g) U H)
def ox_Pic (g : ox_G) (h : ox_HP) (U : State) (H : Heap) : Prop :=
  H.size + 16 = g.1 + ox_n h ∧ 16 ≤ ox_n h ∧ (∀ a, 16 ≤ a → a < ox_n h → ox_Cel g h a H) ∧ ∀ a, a < 16 → ox_Ext g h a U H
/-! what the tables say all the time -/
def ox_tys (g : ox_G) : List (ClassId × FieldType) := [(g.2.2.2 1, .int), (g.2.2.2 2, .byte), (g.2.2.2 3, .boolean), (g.2.2.2 10, .object RX0), (g.2.2.2 15, .object RX5), (g.2.2.2 16, .object RX6), (g.2.2.2 18, .object RX8), (g.2.2.2 19, .object RX9)]
def ox_sts : List (String × String × String × Nat) := [("SweetLine$Belt", "GEAR_AT_FIRST", "[I", 2), ("SweetLine$Belt", "GEAR_LEAST", "[I", 3), ("SweetLine$Belt", "GEAR_MOST", "[I", 4), ("SweetLine", "SIZE_BODY", "[I", 5), ("SweetLine", "MARK_BODY", "[I", 6)]
def ox_strs : List (String × Nat × String × Nat) := [("SweetLine$Book", 37, "recipe", 7), ("SweetLine$Book", 69, "warm", 8), ("SweetLine$Book", 71, "seed", 9)]
def ox_nst : List (String × Nat × MethodName × String) := [("SweetLine$Book", 9, ⟨"SweetLine$Tape", "<init>", "()V"⟩, "SweetLine"), ("SweetLine$Book", 22, ⟨"SweetLine$Recipe", "<init>", "()V"⟩, "SweetLine"), ("SweetLine", 24, ⟨"SweetLine$Heat", "<init>", "()V"⟩, "SweetLine"), ("SweetLine$Belt", 31, ⟨"SweetLine$Mould", "<init>", "()V"⟩, "SweetLine"), ("SweetLine$Bars", 19, ⟨"SweetLine$Bar", "<init>", "()V"⟩, "SweetLine"), ("SweetLine", 55, ⟨"SweetLine$Rows", "<init>", "()V"⟩, "SweetLine"), ("SweetLine", 63, ⟨"SweetLine$Sheet", "<init>", "()V"⟩, "SweetLine"), ("SweetLine", 64, ⟨"SweetLine$Tank", "<init>", "()V"⟩, "SweetLine"), ("SweetLine$Tank", 9, ⟨"SweetLine$Heat", "<init>", "()V"⟩, "SweetLine"), ("SweetLine$Book", 83, ⟨"SweetLine", "within", "(III)Z"⟩, "SweetLine"), ("SweetLine$Heat", 46, ⟨"SweetLine", "within", "(III)Z"⟩, "SweetLine")]
def ox_ovs : List String := [RX8, RX9, RX6, RX5, RX0]
def ox_Wd (g : ox_G) (U : State) (H : Heap) : Prop :=
  va_K g.2.2.1 ox_cls (ox_tys g) U ∧ (∀ q ∈ ox_sts, va_Z q.1 q.2.1 q.2.2.1 (.ref (ox_ca g q.2.2.2)) (ox_A g) U H) ∧ va_Z "java/lang/String" "COMPACT_STRINGS" "Z" (.int 1) (ox_A g) U H ∧
  (∀ q ∈ ox_strs, vk_R q.1 q.2.1 q.2.2.1 (ox_ca g q.2.2.2) U) ∧ (∀ q ∈ ox_nst, va_Nw (.methodLinkNest q.1 q.2.1 q.2.2.1 q.2.2.2) U) ∧ (∀ C ∈ ox_ovs, va_AO C U) ∧ va_Nw (.castable "[I" "java/lang/Cloneable") U ∧ (va_Z "jdk/internal/util/Preconditions" "SIOOBE_FORMATTER" "Ljava/util/function/BiFunction;" .null (ox_A g) U H ∨ va_Z "jdk/internal/util/Preconditions" "SIOOBE_FORMATTER" "Ljava/util/function/BiFunction;" (.ref (ox_ca g 13)) (ox_A g) U H)

/-! moving and keeping -/
theorem ox_cat (g : ox_G) (v : Value) : (ox_cv g v).category = v.category := by cases v <;> rfl
theorem ox_Ext.moved {g : ox_G} {h : ox_HP} {a : Nat} {u U : State} {H : Heap} (hvm : u.vm.Alike U.vm) (q : ox_Ext g h a u H) : ox_Ext g h a U H :=
  ⟨q.1, fun n e => (q.2.1 n e).moved hvm, fun n e => (q.2.2.1 n e).moved hvm, fun b e => ⟨(q.2.2.2 b e).1.moved hvm, (q.2.2.2 b e).2.1.moved hvm, (q.2.2.2 b e).2.2.moved hvm⟩⟩
theorem ox_Pic.moved {g : ox_G} {h : ox_HP} {u U : State} {H : Heap} (hvm : u.vm.Alike U.vm) (q : ox_Pic g h u H) : ox_Pic g h U H :=
  ⟨q.1, q.2.1, q.2.2.1, fun a ha => (q.2.2.2 a ha).moved hvm⟩
theorem ox_Wd.warm {g : ox_G} {u U : State} {H H1 : Heap} (hW : u.WarmedH U.vm) (hq : ∀ a : Nat, a < H.size → ¬ ox_A g a → H1[a]? = H[a]?) (q : ox_Wd g u H) : ox_Wd g U H1 := by
  obtain ⟨h1, h2, h3, h4, h5, h6, h7, h8⟩ := q
  exact ⟨va_K.moved hW.alike h1, fun z hz => ((h2 z hz).kept hq).moved hW.alike, (h3.kept hq).moved hW.alike, fun z hz => (h4 z hz).warm hW, fun z hz => (h5 z hz).warmM hW, fun z hz => (h6 z hz).moved hW.alike, h7.warmC hW, h8.elim (fun z => Or.inl ((z.kept hq).moved hW.alike)) (fun z => Or.inr ((z.kept hq).moved hW.alike))⟩
theorem ox_Wd.same {g : ox_G} {u U : State} {H : Heap} (hv : u.vm = U.vm) (q : ox_Wd g u H) : ox_Wd g U H := by
  obtain ⟨h1, h2, h3, h4, h5, h6, h7, h8⟩ := q
  have ha : u.vm.Alike U.vm := by rw [hv]; exact Vm.Alike.refl _
  exact ⟨va_K.moved ha h1, fun z hz => (h2 z hz).moved ha, h3.moved ha, fun z hz => vk_R.same hv.symm (h4 z hz), fun z hz => (h5 z hz).same rfl hv, fun z hz => (h6 z hz).moved ha, h7.same rfl hv, h8.elim (fun z => Or.inl (z.moved ha)) (fun z => Or.inr (z.moved ha))⟩
theorem ox_sh_lt {h : ox_HP} {a d n : Nat} (e : ox_sh h a = (d, n)) (hd : d ≠ 9) : a < ox_n h := by
  rcases Nat.lt_or_ge a h.1.length with q | q
  · exact q
  · exfalso
    unfold ox_sh at e
    rw [List.getD_eq_getElem?_getD, List.getElem?_eq_none q] at e
    exact hd (congrArg Prod.fst e).symm
theorem ox_in {g : ox_G} {h : ox_HP} {U : State} {H : Heap} (hP : ox_Pic g h U H) {a d n : Nat} (e : ox_sh h a = (d, n)) (hd : d < 5 ∨ 9 < d) : 16 ≤ a ∧ a < ox_n h := by
  have hlt := ox_sh_lt e (by omega)
  refine ⟨?_, hlt⟩
  rcases Nat.lt_or_ge a 16 with q | q
  · have := (hP.2.2.2 a q).1
    rw [e] at this
    dsimp only at this
    omega
  · exact q
theorem ox_ca_in {g : ox_G} {a : Nat} (h : 16 ≤ a) : ox_ca g a = g.1 + (a - 16) := by unfold ox_ca; rw [if_neg (by omega)]
theorem ox_ca_ne {g : ox_G} {a b : Nat} (ha : 16 ≤ a) (hb : 16 ≤ b) (h : a ≠ b) : ox_ca g a ≠ ox_ca g b := by rw [ox_ca_in ha, ox_ca_in hb]; omega
theorem ox_Ext.kept {g : ox_G} {h h2 : ox_HP} {a : Nat} {U : State} {H H1 : Heap} (q : ox_Ext g h a U H) (hs : ox_sh h2 a = ox_sh h a) (hi : h2.2.1 a = h.2.1 a) (hq : ∀ b : Nat, b < H.size → ¬ ox_A g b → H1[b]? = H[b]?) : ox_Ext g h2 a U H1 := by
  unfold ox_Ext
  rw [hs, hi]
  exact ⟨q.1, fun n e => (q.2.1 n e).kept hq, fun n e => (q.2.2.1 n e).kept hq, fun b e => ⟨(q.2.2.2 b e).1.kept hq, (q.2.2.2 b e).2.1.kept hq, (q.2.2.2 b e).2.2.kept hq⟩⟩
theorem ox_Cel.kept {g : ox_G} {h h2 : ox_HP} {a : Nat} {H H1 : Heap} (q : ox_Cel g h a H) (hs : ox_sh h2 a = ox_sh h a) (hi : h2.2.1 a = h.2.1 a) (hr : h2.2.2 a = h.2.2 a) (hq : H1[ox_ca g a]? = H[ox_ca g a]?) : ox_Cel g h2 a H1 := by
  unfold ox_Cel ox_fv
  rw [hs, hi, hr, hq]
  refine ⟨fun ci e => ?_, q.2.1, q.2.2⟩
  obtain ⟨z, h1, h3⟩ := q.1 ci e
  exact ⟨z, h1, h3.kept hq⟩
/-- one cell is written -/
theorem ox_Pic.put {g : ox_G} {h h2 : ox_HP} {U : State} {H H1 : Heap} {a : Nat} (hP : ox_Pic g h U H) (ha : 16 ≤ a) (hs : h2.1 = h.1) (hi : ∀ b, b ≠ a → h2.2.1 b = h.2.1 b) (hr : ∀ b, b ≠ a → h2.2.2 b = h.2.2 b) (z : H1.size = H.size) (oq : ∀ q : Nat, q ≠ ox_ca g a → H1[q]? = H[q]?) (hc : ox_Cel g h2 a H1) : ox_Pic g h2 U H1 := by
  obtain ⟨p1, p2, p3, p4⟩ := hP
  have hn : ox_n h2 = ox_n h := by unfold ox_n; rw [hs]
  have hsh : ∀ b, ox_sh h2 b = ox_sh h b := fun b => by unfold ox_sh; rw [hs]
  refine ⟨by rw [z, hn]; exact p1, by rw [hn]; exact p2, fun b hb1 hb2 => ?_, fun b hb => ?_⟩
  · by_cases e : b = a
    · rw [e]; exact hc
    · exact (p3 b hb1 (by rw [← hn]; exact hb2)).kept (hsh b) (hi b e) (hr b e) (oq _ (ox_ca_ne hb1 ha e))
  · have e : b ≠ a := by omega
    refine (p4 b hb).kept (hsh b) (hi b e) (fun q _ h2 => oq q (fun e2 => h2 ?_))
    rw [e2, ox_ca_in ha]
    exact Nat.le_add_right _ _
theorem ox_sh_app {h : ox_HP} {q : Nat × Nat} {f : Nat → Int32} {b : Nat} (hb : b < ox_n h) : ox_sh (ox_nw h q f) b = ox_sh h b := by
  unfold ox_sh ox_nw
  rw [List.getD_eq_getElem?_getD, List.getD_eq_getElem?_getD]
  dsimp only
  rw [List.getElem?_append_left hb]
theorem ox_sh_new {h : ox_HP} {q : Nat × Nat} {f : Nat → Int32} : ox_sh (ox_nw h q f) (ox_n h) = q := by
  unfold ox_sh ox_nw ox_n
  rw [List.getD_eq_getElem?_getD]
  dsimp only
  rw [List.getElem?_append_right (Nat.le_refl _), Nat.sub_self]
  rfl
theorem ox_n_new {h : ox_HP} {q : Nat × Nat} {f : Nat → Int32} : ox_n (ox_nw h q f) = ox_n h + 1 := by simp [ox_n, ox_nw]
theorem ox_t_new {h : ox_HP} {q : Nat × Nat} {f : Nat → Int32} : ox_t (ox_nw h q f) = ox_t h + ox_sl q := by simp [ox_t, ox_nw]
/-- one cell is made -/
theorem ox_Pic.new {g : ox_G} {h : ox_HP} {q : Nat × Nat} {f : Nat → Int32} {U : State} {H H1 : Heap} (hP : ox_Pic g h U H) (z : H1.size = H.size + 1) (o1 : ∀ b : Nat, b < H.size → H1[b]? = H[b]?) (hc : ox_Cel g (ox_nw h q f) (ox_n h) H1) : ox_Pic g (ox_nw h q f) U H1 := by
  obtain ⟨p1, p2, p3, p4⟩ := hP
  refine ⟨by rw [z, ox_n_new]; omega, by rw [ox_n_new]; omega, fun b hb1 hb2 => ?_, fun b hb => ?_⟩
  · rw [ox_n_new] at hb2
    by_cases e : b = ox_n h
    · rw [e]; exact hc
    · have hb3 : b < ox_n h := by omega
      refine (p3 b hb1 hb3).kept (ox_sh_app hb3) (show va_up h.2.1 (ox_n h) f b = h.2.1 b from if_neg e) (show va_up h.2.2 (ox_n h) (fun _ => 0) b = h.2.2 b from if_neg e) (o1 _ ?_)
      rw [ox_ca_in hb1]
      omega
  · have e : b ≠ ox_n h := by omega
    exact (p4 b hb).kept (ox_sh_app (by omega)) (show va_up h.2.1 (ox_n h) f b = h.2.1 b from if_neg e) (fun q1 h1 _ => o1 q1 h1)
theorem ox_new_ca {g : ox_G} {h : ox_HP} {U : State} {H : Heap} (hP : ox_Pic g h U H) : ox_ca g (ox_n h) = H.size := by
  rw [ox_ca_in hP.2.1]
  have := hP.1
  have := hP.2.1
  omega
/-! locals -/
def ox_lk : ox_L → Nat → Option Value
  | [], _ => none
  | q :: t, i => if q.1 = i then some q.2 else ox_lk t i
def ox_kp (q : Nat × Value) (i : Nat) : Bool := !(q.1 == i) && !(q.1 + 1 == i && q.2.category == 2)
def ox_kp2 (q : Nat × Value) (i : Nat) : Bool := !(q.1 == i) && (!(q.1 == i + 1) && !(q.1 + 1 == i && q.2.category == 2))
def ox_st (i : Nat) (v : Value) (lv : ox_L) : ox_L := (i, v) :: lv.filter (fun q => ox_kp q i)
def ox_st2 (i : Nat) (v : Value) (lv : ox_L) : ox_L := (i, v) :: lv.filter (fun q => ox_kp2 q i)
theorem ox_lk_mem : ∀ {lv : ox_L} {i : Nat} {v : Value}, ox_lk lv i = some v → (i, v) ∈ lv
  | [], i, v, h => by cases h
  | q :: t, i, v, h => by
    unfold ox_lk at h
    split at h
    · next e => cases h; rw [← e]; exact List.mem_cons_self
    · exact List.mem_cons_of_mem _ (ox_lk_mem h)
theorem ox_lk_ls {g : ox_G} {lv : ox_L} {i nL : Nat} {v : Value} {ls : Array Slot} (hl : lv_has ls nL (ox_cl g lv)) (h : ox_lk lv i = some v) : ls[i]? = some (.val (ox_cv g v)) :=
  hl.2.2 (i, ox_cv g v) (List.mem_map.mpr ⟨(i, v), ox_lk_mem h, rfl⟩)
theorem ox_st_eq (g : ox_G) (i : Nat) (v : Value) (lv : ox_L) : (i, ox_cv g v) :: (ox_cl g lv).filter (fun q => !(q.1 == i) && !(q.1 + 1 == i && q.2.category == 2)) = ox_cl g (ox_st i v lv) := by
  unfold ox_st ox_cl
  rw [List.map_cons, List.filter_map]
  rw [show lv.filter ((fun q : Nat × Value => !(q.1 == i) && !(q.1 + 1 == i && q.2.category == 2)) ∘ fun q => (q.1, ox_cv g q.2)) = lv.filter (fun q => ox_kp q i) from List.filter_congr (fun q _ => by simp only [Function.comp, ox_cat, ox_kp])]
theorem ox_st2_eq (g : ox_G) (i : Nat) (v : Value) (lv : ox_L) : (i, ox_cv g v) :: (ox_cl g lv).filter (fun q => !(q.1 == i) && (!(q.1 == i + 1) && !(q.1 + 1 == i && q.2.category == 2))) = ox_cl g (ox_st2 i v lv) := by
  unfold ox_st2 ox_cl
  rw [List.map_cons, List.filter_map]
  rw [show lv.filter ((fun q : Nat × Value => !(q.1 == i) && (!(q.1 == i + 1) && !(q.1 + 1 == i && q.2.category == 2))) ∘ fun q => (q.1, ox_cv g q.2)) = lv.filter (fun q => ox_kp2 q i) from List.filter_congr (fun q _ => by simp only [Function.comp, ox_cat, ox_kp2])]

/-! soundness: at pc, with these locals, this stack and this heap, the machine comes where the shallow program says -/
def ox_Wn (p : Program) (l : Launch) (e : Env) (R : Room) (s : State) (m : MethodId) (args : Array Value) (below : List Frame) (meth : Method) (c : Code) (g : ox_G) (nL c0 t0 : Nat) (Qf : ox_R → State → Prop) (pc : Nat) (lv : ox_L) (st : List Value) (h : ox_HP) (r : ox_R) : Prop :=
  ∀ (H : Heap) (locs : List Loc) (ls : Array Slot), ox_Pic g h s H → va_S (ox_A g) s.heap H locs → lv_has ls nL (ox_cl g lv) → (c0 ≤ ox_n h ∧ t0 ≤ ox_t h ∧ ox_n r.2 ≤ R.cells + c0 ∧ ox_t r.2 ≤ R.slots + t0) → W p l e R s m args below meth c H locs (ox_n h - c0) (ox_t h - t0) (Qf r) (F0 m pc ls (st.map (ox_cv g)))
def ox_S (p : Program) (l : Launch) (e : Env) (R : Room) (s : State) (m : MethodId) (args : Array Value) (below : List Frame) (meth : Method) (c : Code) (g : ox_G) (nL c0 t0 : Nat) (Qf : ox_R → State → Prop) (pc : Nat) (k : ox_K) : Prop :=
  ∀ (lv : ox_L) (st : List Value) (h : ox_HP) (r : ox_R), k lv st h = some r → ox_le h r.2 ∧ ox_Wn p l e R s m args below meth c g nL c0 t0 Qf pc lv st h r
def ox_C (p : Program) (s : State) (m : MethodId) (args : Array Value) (c : Code) (g : ox_G) (nL : Nat) (cc : ByteArray) (own : String) : Prop :=
  p.tables.exec = Jvm.exec ∧ c.code = cc ∧ c.maxLocals = nL ∧ s.vm.findClass own = some m.cls ∧ (∀ w ∈ ox_W, w.before args s = true) ∧ ox_Wd g s s.heap
def ox_no : ox_K := fun _ _ _ => none
def ox_run (bs : Nat → (Nat → ox_K) → ox_K) : Nat → Nat → ox_K
  | 0, _ => ox_no
  | n + 1, b => bs b (ox_run bs n)
section OXS
variable {p : Program} {l : Launch} {e : Env} {R : Room} {s : State} {m : MethodId} {args : Array Value} {below : List Frame} {meth : Method} {c : Code}
variable {g : ox_G} {nL c0 t0 : Nat} {Qf : ox_R → State → Prop} {cc : ByteArray} {own : String} {pc : Nat} {k kt kf : ox_K}

theorem s_no : ox_S p l e R s m args below meth c g nL c0 t0 Qf pc ox_no := fun _ _ _ _ h => by cases h
theorem s_run {bs : Nat → (Nat → ox_K) → ox_K} (h : ∀ rc : Nat → ox_K, (∀ b, ox_S p l e R s m args below meth c g nL c0 t0 Qf b (rc b)) → ∀ b, ox_S p l e R s m args below meth c g nL c0 t0 Qf b (bs b rc)) : ∀ n b, ox_S p l e R s m args below meth c g nL c0 t0 Qf b (ox_run bs n b)
  | 0, b => s_no
  | n + 1, b => h _ (s_run h n) b
/-- at a join: only these locals go on -/
def o_keep (is : List Nat) (k : ox_K) : ox_K := fun lv st h => k (is.filterMap (fun i => (ox_lk lv i).map (fun v => (i, v)))) st h
theorem s_keep {is : List Nat} (hk : ox_S p l e R s m args below meth c g nL c0 t0 Qf pc k) : ox_S p l e R s m args below meth c g nL c0 t0 Qf pc (o_keep is k) := by
  intro lv st h r e
  obtain ⟨h1, h2⟩ := hk _ _ _ _ e
  refine ⟨h1, fun H locs ls a1 a2 a3 a4 => h2 H locs ls a1 a2 ⟨a3.1, a3.2.1, fun q hq => ?_⟩ a4⟩
  obtain ⟨z, hz, rfl⟩ := List.mem_map.mp hq
  obtain ⟨i, -, hi⟩ := List.mem_filterMap.mp hz
  cases hlk : ox_lk lv i with
  | none => rw [hlk] at hi; cases hi
  | some v =>
    rw [hlk] at hi
    cases hi
    exact ox_lk_ls a3 hlk
def o_ic (v : Int32) (k : ox_K) : ox_K := fun lv st h => k lv (.int v :: st) h
def o_lc (v : Int64) (k : ox_K) : ox_K := fun lv st h => k lv (.long v :: st) h
theorem s_iconst {n : Int} {v : Int32} (C : ox_C p s m args c g nL cc own) (d : decode cc pc = .ok (.iconst n, 1)) (hv : Int32.ofInt n = v) (hk : ox_S p l e R s m args below meth c g nL c0 t0 Qf (pc + 1) k) : ox_S p l e R s m args below meth c g nL c0 t0 Qf pc (o_ic v k) := by
  intro lv st h r e
  obtain ⟨h1, h2⟩ := hk _ _ _ _ e
  exact ⟨h1, fun H locs ls a1 a2 a3 a4 => lv_iconst C.1 C.2.1 d hv (h2 H locs ls a1 a2 a3 a4)⟩
theorem s_bipush {n : Int} {v : Int32} (C : ox_C p s m args c g nL cc own) (d : decode cc pc = .ok (.bipush n, 2)) (hv : (Int8.ofInt n).toInt32 = v) (hk : ox_S p l e R s m args below meth c g nL c0 t0 Qf (pc + 2) k) : ox_S p l e R s m args below meth c g nL c0 t0 Qf pc (o_ic v k) := by
  intro lv st h r e
  obtain ⟨h1, h2⟩ := hk _ _ _ _ e
  exact ⟨h1, fun H locs ls a1 a2 a3 a4 => lv_bipush C.1 C.2.1 d hv (h2 H locs ls a1 a2 a3 a4)⟩
theorem s_sipush {n : Int} {v : Int32} (C : ox_C p s m args c g nL cc own) (d : decode cc pc = .ok (.sipush n, 3)) (hv : (Int16.ofInt n).toInt32 = v) (hk : ox_S p l e R s m args below meth c g nL c0 t0 Qf (pc + 3) k) : ox_S p l e R s m args below meth c g nL c0 t0 Qf pc (o_ic v k) := by
  intro lv st h r e
  obtain ⟨h1, h2⟩ := hk _ _ _ _ e
  exact ⟨h1, fun H locs ls a1 a2 a3 a4 => lv_sipush C.1 C.2.1 d hv (h2 H locs ls a1 a2 a3 a4)⟩
theorem s_ldc {idx : Nat} {v : Int32} (C : ox_C p s m args c g nL cc own) (hw : Cond.constant own idx v ∈ ox_W) (d : decode cc pc = .ok (.ldc idx, 2)) (hk : ox_S p l e R s m args below meth c g nL c0 t0 Qf (pc + 2) k) : ox_S p l e R s m args below meth c g nL c0 t0 Qf pc (o_ic v k) := by
  intro lv st h r e
  obtain ⟨h1, h2⟩ := hk _ _ _ _ e
  exact ⟨h1, fun H locs ls a1 a2 a3 a4 => lv_ldc C.1 C.2.1 C.2.2.2.1 (C.2.2.2.2.1 _ hw) d (h2 H locs ls a1 a2 a3 a4)⟩
theorem s_ldcw {idx : Nat} {v : Int32} (C : ox_C p s m args c g nL cc own) (hw : Cond.constant own idx v ∈ ox_W) (d : decode cc pc = .ok (.ldc_w idx, 3)) (hk : ox_S p l e R s m args below meth c g nL c0 t0 Qf (pc + 3) k) : ox_S p l e R s m args below meth c g nL c0 t0 Qf pc (o_ic v k) := by
  intro lv st h r e
  obtain ⟨h1, h2⟩ := hk _ _ _ _ e
  exact ⟨h1, fun H locs ls a1 a2 a3 a4 => lv_ldcw C.1 C.2.1 C.2.2.2.1 (C.2.2.2.2.1 _ hw) d (h2 H locs ls a1 a2 a3 a4)⟩
theorem s_ldc2 {idx : Nat} {v : Int64} (C : ox_C p s m args c g nL cc own) (hw : Cond.constantLong own idx v ∈ ox_W) (d : decode cc pc = .ok (.ldc2_w idx, 3)) (hk : ox_S p l e R s m args below meth c g nL c0 t0 Qf (pc + 3) k) : ox_S p l e R s m args below meth c g nL c0 t0 Qf pc (o_lc v k) := by
  intro lv st h r e
  obtain ⟨h1, h2⟩ := hk _ _ _ _ e
  exact ⟨h1, fun H locs ls a1 a2 a3 a4 => W.ldc2 C.1 C.2.1 C.2.2.2.1 (C.2.2.2.2.1 _ hw) rfl d (h2 H locs ls a1 a2 a3 a4)⟩
theorem s_lconst {n : Fin 2} {v : Int64} (C : ox_C p s m args c g nL cc own) (d : decode cc pc = .ok (.lconst n, 1)) (hv : Int64.ofNat (n : Nat) = v) (hk : ox_S p l e R s m args below meth c g nL c0 t0 Qf (pc + 1) k) : ox_S p l e R s m args below meth c g nL c0 t0 Qf pc (o_lc v k) := by
  intro lv st h r e
  obtain ⟨h1, h2⟩ := hk _ _ _ _ e
  exact ⟨h1, fun H locs ls a1 a2 a3 a4 => lv_lconst C.1 C.2.1 d hv (h2 H locs ls a1 a2 a3 a4)⟩
def o_il (i : Nat) (k : ox_K) : ox_K := fun lv st h => match ox_lk lv i with
  | some (.int x) => k lv (.int x :: st) h
  | _ => none
def o_ll (i : Nat) (k : ox_K) : ox_K := fun lv st h => match ox_lk lv i with
  | some (.long x) => k lv (.long x :: st) h
  | _ => none
def o_al (i : Nat) (k : ox_K) : ox_K := fun lv st h => match ox_lk lv i with
  | some (.ref x) => k lv (.ref x :: st) h
  | _ => none
def o_is (i : Nat) (k : ox_K) : ox_K := fun lv st h => match st with
  | .int x :: st => k (ox_st i (.int x) lv) st h
  | _ => none
def o_ls (i : Nat) (k : ox_K) : ox_K := fun lv st h => match st with
  | .long x :: st => k (ox_st2 i (.long x) lv) st h
  | _ => none
def o_as (i : Nat) (k : ox_K) : ox_K := fun lv st h => match st with
  | .ref x :: st => k (ox_st i (.ref x) lv) st h
  | _ => none
def o_inc (i : Nat) (v : Int32) (k : ox_K) : ox_K := fun lv st h => match ox_lk lv i with
  | some (.int x) => k (ox_st i (.int (x + v)) lv) st h
  | _ => none
theorem s_iload_n {i : Fin 4} {j : Nat} (C : ox_C p s m args c g nL cc own) (d : decode cc pc = .ok (.iload_n i, 1)) (hi : (i : Nat) = j) (hk : ox_S p l e R s m args below meth c g nL c0 t0 Qf (pc + 1) k) : ox_S p l e R s m args below meth c g nL c0 t0 Qf pc (o_il j k) := by
  intro lv st h r e
  unfold o_il at e
  split at e
  · next x hx =>
    obtain ⟨h1, h2⟩ := hk _ _ _ _ e
    exact ⟨h1, fun H locs ls a1 a2 a3 a4 => lv_iload_n C.1 C.2.1 d hi (ox_lk_ls a3 hx) (h2 H locs ls a1 a2 a3 a4)⟩
  · cases e
theorem s_iload {j : Nat} (C : ox_C p s m args c g nL cc own) (d : decode cc pc = .ok (.iload j, 2)) (hk : ox_S p l e R s m args below meth c g nL c0 t0 Qf (pc + 2) k) : ox_S p l e R s m args below meth c g nL c0 t0 Qf pc (o_il j k) := by
  intro lv st h r e
  unfold o_il at e
  split at e
  · next x hx =>
    obtain ⟨h1, h2⟩ := hk _ _ _ _ e
    exact ⟨h1, fun H locs ls a1 a2 a3 a4 => lv_iload C.1 C.2.1 d (ox_lk_ls a3 hx) (h2 H locs ls a1 a2 a3 a4)⟩
  · cases e
theorem s_lload_n {i : Fin 4} {j : Nat} (C : ox_C p s m args c g nL cc own) (d : decode cc pc = .ok (.lload_n i, 1)) (hi : (i : Nat) = j) (hk : ox_S p l e R s m args below meth c g nL c0 t0 Qf (pc + 1) k) : ox_S p l e R s m args below meth c g nL c0 t0 Qf pc (o_ll j k) := by
  intro lv st h r e
  unfold o_ll at e
  split at e
  · next x hx =>
    obtain ⟨h1, h2⟩ := hk _ _ _ _ e
    exact ⟨h1, fun H locs ls a1 a2 a3 a4 => lv_lload_n C.1 C.2.1 d hi (ox_lk_ls a3 hx) (h2 H locs ls a1 a2 a3 a4)⟩
  · cases e
theorem s_lload {j : Nat} (C : ox_C p s m args c g nL cc own) (d : decode cc pc = .ok (.lload j, 2)) (hk : ox_S p l e R s m args below meth c g nL c0 t0 Qf (pc + 2) k) : ox_S p l e R s m args below meth c g nL c0 t0 Qf pc (o_ll j k) := by
  intro lv st h r e
  unfold o_ll at e
  split at e
  · next x hx =>
    obtain ⟨h1, h2⟩ := hk _ _ _ _ e
    exact ⟨h1, fun H locs ls a1 a2 a3 a4 => lv_lload C.1 C.2.1 d (ox_lk_ls a3 hx) (h2 H locs ls a1 a2 a3 a4)⟩
  · cases e
theorem s_aload_n {i : Fin 4} {j : Nat} (C : ox_C p s m args c g nL cc own) (d : decode cc pc = .ok (.aload_n i, 1)) (hi : (i : Nat) = j) (hk : ox_S p l e R s m args below meth c g nL c0 t0 Qf (pc + 1) k) : ox_S p l e R s m args below meth c g nL c0 t0 Qf pc (o_al j k) := by
  intro lv st h r e
  unfold o_al at e
  split at e
  · next x hx =>
    obtain ⟨h1, h2⟩ := hk _ _ _ _ e
    exact ⟨h1, fun H locs ls a1 a2 a3 a4 => lv_aload_n C.1 C.2.1 d hi (ox_lk_ls a3 hx) (h2 H locs ls a1 a2 a3 a4)⟩
  · cases e
theorem s_aload {j : Nat} (C : ox_C p s m args c g nL cc own) (d : decode cc pc = .ok (.aload j, 2)) (hk : ox_S p l e R s m args below meth c g nL c0 t0 Qf (pc + 2) k) : ox_S p l e R s m args below meth c g nL c0 t0 Qf pc (o_al j k) := by
  intro lv st h r e
  unfold o_al at e
  split at e
  · next x hx =>
    obtain ⟨h1, h2⟩ := hk _ _ _ _ e
    exact ⟨h1, fun H locs ls a1 a2 a3 a4 => lv_aload C.1 C.2.1 d (ox_lk_ls a3 hx) (h2 H locs ls a1 a2 a3 a4)⟩
  · cases e
theorem s_istore_n {i : Fin 4} {j : Nat} (C : ox_C p s m args c g nL cc own) (d : decode cc pc = .ok (.istore_n i, 1)) (hi : (i : Nat) = j) (hn : j < nL) (hk : ox_S p l e R s m args below meth c g nL c0 t0 Qf (pc + 1) k) : ox_S p l e R s m args below meth c g nL c0 t0 Qf pc (o_is j k) := by
  intro lv st h r e
  unfold o_is at e
  split at e
  · next x st2 =>
    obtain ⟨h1, h2⟩ := hk _ _ _ _ e
    exact ⟨h1, fun H locs ls a1 a2 a3 a4 => lv_istore_n C.1 C.2.1 d hi a3 hn (ox_st_eq g j (.int x) lv) (fun ls2 a5 => h2 H locs ls2 a1 a2 a5 a4)⟩
  · cases e
theorem s_istore {j : Nat} (C : ox_C p s m args c g nL cc own) (d : decode cc pc = .ok (.istore j, 2)) (hn : j < nL) (hk : ox_S p l e R s m args below meth c g nL c0 t0 Qf (pc + 2) k) : ox_S p l e R s m args below meth c g nL c0 t0 Qf pc (o_is j k) := by
  intro lv st h r e
  unfold o_is at e
  split at e
  · next x st2 =>
    obtain ⟨h1, h2⟩ := hk _ _ _ _ e
    exact ⟨h1, fun H locs ls a1 a2 a3 a4 => lv_istore C.1 C.2.1 d a3 hn (ox_st_eq g j (.int x) lv) (fun ls2 a5 => h2 H locs ls2 a1 a2 a5 a4)⟩
  · cases e
theorem s_lstore_n {i : Fin 4} {j : Nat} (C : ox_C p s m args c g nL cc own) (d : decode cc pc = .ok (.lstore_n i, 1)) (hi : (i : Nat) = j) (hn : j + 1 < nL) (hk : ox_S p l e R s m args below meth c g nL c0 t0 Qf (pc + 1) k) : ox_S p l e R s m args below meth c g nL c0 t0 Qf pc (o_ls j k) := by
  intro lv st h r e
  unfold o_ls at e
  split at e
  · next x st2 =>
    obtain ⟨h1, h2⟩ := hk _ _ _ _ e
    exact ⟨h1, fun H locs ls a1 a2 a3 a4 => lv_lstore_n C.1 C.2.1 d hi a3 hn (ox_st2_eq g j (.long x) lv) (fun ls2 a5 => h2 H locs ls2 a1 a2 a5 a4)⟩
  · cases e
theorem s_lstore {j : Nat} (C : ox_C p s m args c g nL cc own) (d : decode cc pc = .ok (.lstore j, 2)) (hn : j + 1 < nL) (hk : ox_S p l e R s m args below meth c g nL c0 t0 Qf (pc + 2) k) : ox_S p l e R s m args below meth c g nL c0 t0 Qf pc (o_ls j k) := by
  intro lv st h r e
  unfold o_ls at e
  split at e
  · next x st2 =>
    obtain ⟨h1, h2⟩ := hk _ _ _ _ e
    exact ⟨h1, fun H locs ls a1 a2 a3 a4 => lv_lstore C.1 C.2.1 d a3 hn (ox_st2_eq g j (.long x) lv) (fun ls2 a5 => h2 H locs ls2 a1 a2 a5 a4)⟩
  · cases e
theorem s_astore_n {i : Fin 4} {j : Nat} (C : ox_C p s m args c g nL cc own) (d : decode cc pc = .ok (.astore_n i, 1)) (hi : (i : Nat) = j) (hn : j < nL) (hk : ox_S p l e R s m args below meth c g nL c0 t0 Qf (pc + 1) k) : ox_S p l e R s m args below meth c g nL c0 t0 Qf pc (o_as j k) := by
  intro lv st h r e
  unfold o_as at e
  split at e
  · next x st2 =>
    obtain ⟨h1, h2⟩ := hk _ _ _ _ e
    exact ⟨h1, fun H locs ls a1 a2 a3 a4 => lv_astore_n C.1 C.2.1 d hi a3 hn (ox_st_eq g j (.ref x) lv) (fun ls2 a5 => h2 H locs ls2 a1 a2 a5 a4)⟩
  · cases e
theorem s_astore {j : Nat} (C : ox_C p s m args c g nL cc own) (d : decode cc pc = .ok (.astore j, 2)) (hn : j < nL) (hk : ox_S p l e R s m args below meth c g nL c0 t0 Qf (pc + 2) k) : ox_S p l e R s m args below meth c g nL c0 t0 Qf pc (o_as j k) := by
  intro lv st h r e
  unfold o_as at e
  split at e
  · next x st2 =>
    obtain ⟨h1, h2⟩ := hk _ _ _ _ e
    exact ⟨h1, fun H locs ls a1 a2 a3 a4 => lv_astore C.1 C.2.1 d a3 hn (ox_st_eq g j (.ref x) lv) (fun ls2 a5 => h2 H locs ls2 a1 a2 a5 a4)⟩
  · cases e
theorem s_iinc {j : Nat} {n : Int} {v : Int32} (C : ox_C p s m args c g nL cc own) (d : decode cc pc = .ok (.iinc j n, 3)) (hv : Int32.ofInt n = v) (hn : j < nL) (hk : ox_S p l e R s m args below meth c g nL c0 t0 Qf (pc + 3) k) : ox_S p l e R s m args below meth c g nL c0 t0 Qf pc (o_inc j v k) := by
  intro lv st h r e
  unfold o_inc at e
  split at e
  · next x hx =>
    obtain ⟨h1, h2⟩ := hk _ _ _ _ e
    refine ⟨h1, fun H locs ls a1 a2 a3 a4 => ?_⟩
    obtain ⟨z, hz⟩ := List.getElem?_of_mem (List.mem_map.mpr ⟨(j, Value.int x), ox_lk_mem hx, rfl⟩ : (j, Value.int x) ∈ ox_cl g lv)
    exact lv_iinc C.1 C.2.1 d a3 hz (by rw [hv]) hn (ox_st_eq g j (.int (x + v)) lv) (fun ls2 a5 => h2 H locs ls2 a1 a2 a5 a4)
  · cases e
def o_iadd (k : ox_K) : ox_K := fun lv st h => match st with
  | .int y :: .int x :: st => k lv (.int (x + y) :: st) h
  | _ => none
theorem s_iadd (C : ox_C p s m args c g nL cc own) (d : decode cc pc = .ok (.iadd, 1)) (hk : ox_S p l e R s m args below meth c g nL c0 t0 Qf (pc + 1) k) : ox_S p l e R s m args below meth c g nL c0 t0 Qf pc (o_iadd k) := by
  intro lv st h r e
  unfold o_iadd at e
  split at e
  · obtain ⟨h1, h2⟩ := hk _ _ _ _ e
    exact ⟨h1, fun H locs ls a1 a2 a3 a4 => lv_iadd C.1 C.2.1 d (h2 H locs ls a1 a2 a3 a4)⟩
  · cases e
def o_isub (k : ox_K) : ox_K := fun lv st h => match st with
  | .int y :: .int x :: st => k lv (.int (x - y) :: st) h
  | _ => none
theorem s_isub (C : ox_C p s m args c g nL cc own) (d : decode cc pc = .ok (.isub, 1)) (hk : ox_S p l e R s m args below meth c g nL c0 t0 Qf (pc + 1) k) : ox_S p l e R s m args below meth c g nL c0 t0 Qf pc (o_isub k) := by
  intro lv st h r e
  unfold o_isub at e
  split at e
  · obtain ⟨h1, h2⟩ := hk _ _ _ _ e
    exact ⟨h1, fun H locs ls a1 a2 a3 a4 => lv_isub C.1 C.2.1 d (h2 H locs ls a1 a2 a3 a4)⟩
  · cases e
def o_imul (k : ox_K) : ox_K := fun lv st h => match st with
  | .int y :: .int x :: st => k lv (.int (x * y) :: st) h
  | _ => none
theorem s_imul (C : ox_C p s m args c g nL cc own) (d : decode cc pc = .ok (.imul, 1)) (hk : ox_S p l e R s m args below meth c g nL c0 t0 Qf (pc + 1) k) : ox_S p l e R s m args below meth c g nL c0 t0 Qf pc (o_imul k) := by
  intro lv st h r e
  unfold o_imul at e
  split at e
  · obtain ⟨h1, h2⟩ := hk _ _ _ _ e
    exact ⟨h1, fun H locs ls a1 a2 a3 a4 => lv_imul C.1 C.2.1 d (h2 H locs ls a1 a2 a3 a4)⟩
  · cases e
def o_iand (k : ox_K) : ox_K := fun lv st h => match st with
  | .int y :: .int x :: st => k lv (.int (x &&& y) :: st) h
  | _ => none
theorem s_iand (C : ox_C p s m args c g nL cc own) (d : decode cc pc = .ok (.iand, 1)) (hk : ox_S p l e R s m args below meth c g nL c0 t0 Qf (pc + 1) k) : ox_S p l e R s m args below meth c g nL c0 t0 Qf pc (o_iand k) := by
  intro lv st h r e
  unfold o_iand at e
  split at e
  · obtain ⟨h1, h2⟩ := hk _ _ _ _ e
    exact ⟨h1, fun H locs ls a1 a2 a3 a4 => lv_iand C.1 C.2.1 d (h2 H locs ls a1 a2 a3 a4)⟩
  · cases e
def o_ior (k : ox_K) : ox_K := fun lv st h => match st with
  | .int y :: .int x :: st => k lv (.int (x ||| y) :: st) h
  | _ => none
theorem s_ior (C : ox_C p s m args c g nL cc own) (d : decode cc pc = .ok (.ior, 1)) (hk : ox_S p l e R s m args below meth c g nL c0 t0 Qf (pc + 1) k) : ox_S p l e R s m args below meth c g nL c0 t0 Qf pc (o_ior k) := by
  intro lv st h r e
  unfold o_ior at e
  split at e
  · obtain ⟨h1, h2⟩ := hk _ _ _ _ e
    exact ⟨h1, fun H locs ls a1 a2 a3 a4 => lv_ior C.1 C.2.1 d (h2 H locs ls a1 a2 a3 a4)⟩
  · cases e
def o_ixor (k : ox_K) : ox_K := fun lv st h => match st with
  | .int y :: .int x :: st => k lv (.int (x ^^^ y) :: st) h
  | _ => none
theorem s_ixor (C : ox_C p s m args c g nL cc own) (d : decode cc pc = .ok (.ixor, 1)) (hk : ox_S p l e R s m args below meth c g nL c0 t0 Qf (pc + 1) k) : ox_S p l e R s m args below meth c g nL c0 t0 Qf pc (o_ixor k) := by
  intro lv st h r e
  unfold o_ixor at e
  split at e
  · obtain ⟨h1, h2⟩ := hk _ _ _ _ e
    exact ⟨h1, fun H locs ls a1 a2 a3 a4 => lv_ixor C.1 C.2.1 d (h2 H locs ls a1 a2 a3 a4)⟩
  · cases e
def o_ishl (k : ox_K) : ox_K := fun lv st h => match st with
  | .int y :: .int x :: st => k lv (.int (x <<< (y &&& 31)) :: st) h
  | _ => none
theorem s_ishl (C : ox_C p s m args c g nL cc own) (d : decode cc pc = .ok (.ishl, 1)) (hk : ox_S p l e R s m args below meth c g nL c0 t0 Qf (pc + 1) k) : ox_S p l e R s m args below meth c g nL c0 t0 Qf pc (o_ishl k) := by
  intro lv st h r e
  unfold o_ishl at e
  split at e
  · obtain ⟨h1, h2⟩ := hk _ _ _ _ e
    exact ⟨h1, fun H locs ls a1 a2 a3 a4 => lv_ishl C.1 C.2.1 d (h2 H locs ls a1 a2 a3 a4)⟩
  · cases e
def o_ishr (k : ox_K) : ox_K := fun lv st h => match st with
  | .int y :: .int x :: st => k lv (.int (x >>> (y &&& 31)) :: st) h
  | _ => none
theorem s_ishr (C : ox_C p s m args c g nL cc own) (d : decode cc pc = .ok (.ishr, 1)) (hk : ox_S p l e R s m args below meth c g nL c0 t0 Qf (pc + 1) k) : ox_S p l e R s m args below meth c g nL c0 t0 Qf pc (o_ishr k) := by
  intro lv st h r e
  unfold o_ishr at e
  split at e
  · obtain ⟨h1, h2⟩ := hk _ _ _ _ e
    exact ⟨h1, fun H locs ls a1 a2 a3 a4 => lv_ishr C.1 C.2.1 d (h2 H locs ls a1 a2 a3 a4)⟩
  · cases e
def o_idiv (k : ox_K) : ox_K := fun lv st h => match st with
  | .int y :: .int x :: st => if y = 0 then none else k lv (.int (x / y) :: st) h
  | _ => none
theorem s_idiv (C : ox_C p s m args c g nL cc own) (d : decode cc pc = .ok (.idiv, 1)) (hk : ox_S p l e R s m args below meth c g nL c0 t0 Qf (pc + 1) k) : ox_S p l e R s m args below meth c g nL c0 t0 Qf pc (o_idiv k) := by
  intro lv st h r e
  unfold o_idiv at e
  split at e
  · split at e
    · cases e
    · next hy =>
      obtain ⟨h1, h2⟩ := hk _ _ _ _ e
      exact ⟨h1, fun H locs ls a1 a2 a3 a4 => lv_idiv C.1 C.2.1 d hy (h2 H locs ls a1 a2 a3 a4)⟩
  · cases e
def o_irem (k : ox_K) : ox_K := fun lv st h => match st with
  | .int y :: .int x :: st => if y = 0 then none else k lv (.int (x - x / y * y) :: st) h
  | _ => none
theorem s_irem (C : ox_C p s m args c g nL cc own) (d : decode cc pc = .ok (.irem, 1)) (hk : ox_S p l e R s m args below meth c g nL c0 t0 Qf (pc + 1) k) : ox_S p l e R s m args below meth c g nL c0 t0 Qf pc (o_irem k) := by
  intro lv st h r e
  unfold o_irem at e
  split at e
  · split at e
    · cases e
    · next hy =>
      obtain ⟨h1, h2⟩ := hk _ _ _ _ e
      exact ⟨h1, fun H locs ls a1 a2 a3 a4 => lv_irem C.1 C.2.1 d hy (h2 H locs ls a1 a2 a3 a4)⟩
  · cases e
def o_ladd (k : ox_K) : ox_K := fun lv st h => match st with
  | .long y :: .long x :: st => k lv (.long (x + y) :: st) h
  | _ => none
theorem s_ladd (C : ox_C p s m args c g nL cc own) (d : decode cc pc = .ok (.ladd, 1)) (hk : ox_S p l e R s m args below meth c g nL c0 t0 Qf (pc + 1) k) : ox_S p l e R s m args below meth c g nL c0 t0 Qf pc (o_ladd k) := by
  intro lv st h r e
  unfold o_ladd at e
  split at e
  · obtain ⟨h1, h2⟩ := hk _ _ _ _ e
    exact ⟨h1, fun H locs ls a1 a2 a3 a4 => lv_ladd C.1 C.2.1 d (h2 H locs ls a1 a2 a3 a4)⟩
  · cases e
def o_lmul (k : ox_K) : ox_K := fun lv st h => match st with
  | .long y :: .long x :: st => k lv (.long (x * y) :: st) h
  | _ => none
theorem s_lmul (C : ox_C p s m args c g nL cc own) (d : decode cc pc = .ok (.lmul, 1)) (hk : ox_S p l e R s m args below meth c g nL c0 t0 Qf (pc + 1) k) : ox_S p l e R s m args below meth c g nL c0 t0 Qf pc (o_lmul k) := by
  intro lv st h r e
  unfold o_lmul at e
  split at e
  · obtain ⟨h1, h2⟩ := hk _ _ _ _ e
    exact ⟨h1, fun H locs ls a1 a2 a3 a4 => lv_lmul C.1 C.2.1 d (h2 H locs ls a1 a2 a3 a4)⟩
  · cases e
def o_land (k : ox_K) : ox_K := fun lv st h => match st with
  | .long y :: .long x :: st => k lv (.long (x &&& y) :: st) h
  | _ => none
theorem s_land (C : ox_C p s m args c g nL cc own) (d : decode cc pc = .ok (.land, 1)) (hk : ox_S p l e R s m args below meth c g nL c0 t0 Qf (pc + 1) k) : ox_S p l e R s m args below meth c g nL c0 t0 Qf pc (o_land k) := by
  intro lv st h r e
  unfold o_land at e
  split at e
  · obtain ⟨h1, h2⟩ := hk _ _ _ _ e
    exact ⟨h1, fun H locs ls a1 a2 a3 a4 => lv_land C.1 C.2.1 d (h2 H locs ls a1 a2 a3 a4)⟩
  · cases e
def o_lor (k : ox_K) : ox_K := fun lv st h => match st with
  | .long y :: .long x :: st => k lv (.long (x ||| y) :: st) h
  | _ => none
theorem s_lor (C : ox_C p s m args c g nL cc own) (d : decode cc pc = .ok (.lor, 1)) (hk : ox_S p l e R s m args below meth c g nL c0 t0 Qf (pc + 1) k) : ox_S p l e R s m args below meth c g nL c0 t0 Qf pc (o_lor k) := by
  intro lv st h r e
  unfold o_lor at e
  split at e
  · obtain ⟨h1, h2⟩ := hk _ _ _ _ e
    exact ⟨h1, fun H locs ls a1 a2 a3 a4 => lv_lor C.1 C.2.1 d (h2 H locs ls a1 a2 a3 a4)⟩
  · cases e
def o_ldiv (k : ox_K) : ox_K := fun lv st h => match st with
  | .long y :: .long x :: st => if y = 0 then none else k lv (.long (x / y) :: st) h
  | _ => none
theorem s_ldiv (C : ox_C p s m args c g nL cc own) (d : decode cc pc = .ok (.ldiv, 1)) (hk : ox_S p l e R s m args below meth c g nL c0 t0 Qf (pc + 1) k) : ox_S p l e R s m args below meth c g nL c0 t0 Qf pc (o_ldiv k) := by
  intro lv st h r e
  unfold o_ldiv at e
  split at e
  · split at e
    · cases e
    · next hy =>
      obtain ⟨h1, h2⟩ := hk _ _ _ _ e
      exact ⟨h1, fun H locs ls a1 a2 a3 a4 => lv_ldiv C.1 C.2.1 d hy (h2 H locs ls a1 a2 a3 a4)⟩
  · cases e
def o_lcmp (k : ox_K) : ox_K := fun lv st h => match st with
  | .long y :: .long x :: st => k lv (.int (lg_cmp x y) :: st) h
  | _ => none
theorem s_lcmp (C : ox_C p s m args c g nL cc own) (d : decode cc pc = .ok (.lcmp, 1)) (hk : ox_S p l e R s m args below meth c g nL c0 t0 Qf (pc + 1) k) : ox_S p l e R s m args below meth c g nL c0 t0 Qf pc (o_lcmp k) := by
  intro lv st h r e
  unfold o_lcmp at e
  split at e
  · obtain ⟨h1, h2⟩ := hk _ _ _ _ e
    exact ⟨h1, fun H locs ls a1 a2 a3 a4 => W.lcmp C.1 C.2.1 d (h2 H locs ls a1 a2 a3 a4)⟩
  · cases e
def o_lshl (k : ox_K) : ox_K := fun lv st h => match st with
  | .int y :: .long x :: st => k lv (.long (x <<< (y.toInt64 &&& 63)) :: st) h
  | _ => none
theorem s_lshl (C : ox_C p s m args c g nL cc own) (d : decode cc pc = .ok (.lshl, 1)) (hk : ox_S p l e R s m args below meth c g nL c0 t0 Qf (pc + 1) k) : ox_S p l e R s m args below meth c g nL c0 t0 Qf pc (o_lshl k) := by
  intro lv st h r e
  unfold o_lshl at e
  split at e
  · obtain ⟨h1, h2⟩ := hk _ _ _ _ e
    exact ⟨h1, fun H locs ls a1 a2 a3 a4 => lv_lshl C.1 C.2.1 d rfl (h2 H locs ls a1 a2 a3 a4)⟩
  · cases e
def o_lshr (k : ox_K) : ox_K := fun lv st h => match st with
  | .int y :: .long x :: st => k lv (.long (x >>> (y.toInt64 &&& 63)) :: st) h
  | _ => none
theorem s_lshr (C : ox_C p s m args c g nL cc own) (d : decode cc pc = .ok (.lshr, 1)) (hk : ox_S p l e R s m args below meth c g nL c0 t0 Qf (pc + 1) k) : ox_S p l e R s m args below meth c g nL c0 t0 Qf pc (o_lshr k) := by
  intro lv st h r e
  unfold o_lshr at e
  split at e
  · obtain ⟨h1, h2⟩ := hk _ _ _ _ e
    exact ⟨h1, fun H locs ls a1 a2 a3 a4 => lv_lshr C.1 C.2.1 d rfl (h2 H locs ls a1 a2 a3 a4)⟩
  · cases e
def o_lushr (k : ox_K) : ox_K := fun lv st h => match st with
  | .int y :: .long x :: st => k lv (.long ((x.toUInt64 >>> (y.toInt64.toUInt64 &&& Int64.toUInt64 63)).toInt64) :: st) h
  | _ => none
theorem s_lushr (C : ox_C p s m args c g nL cc own) (d : decode cc pc = .ok (.lushr, 1)) (hk : ox_S p l e R s m args below meth c g nL c0 t0 Qf (pc + 1) k) : ox_S p l e R s m args below meth c g nL c0 t0 Qf pc (o_lushr k) := by
  intro lv st h r e
  unfold o_lushr at e
  split at e
  · obtain ⟨h1, h2⟩ := hk _ _ _ _ e
    exact ⟨h1, fun H locs ls a1 a2 a3 a4 => lv_lushr C.1 C.2.1 d rfl (h2 H locs ls a1 a2 a3 a4)⟩
  · cases e
def o_ineg (k : ox_K) : ox_K := fun lv st h => match st with
  | .int x :: st => k lv (.int (-x) :: st) h
  | _ => none
theorem s_ineg (C : ox_C p s m args c g nL cc own) (d : decode cc pc = .ok (.ineg, 1)) (hk : ox_S p l e R s m args below meth c g nL c0 t0 Qf (pc + 1) k) : ox_S p l e R s m args below meth c g nL c0 t0 Qf pc (o_ineg k) := by
  intro lv st h r e
  unfold o_ineg at e
  split at e
  · obtain ⟨h1, h2⟩ := hk _ _ _ _ e
    exact ⟨h1, fun H locs ls a1 a2 a3 a4 => lv_ineg C.1 C.2.1 d (h2 H locs ls a1 a2 a3 a4)⟩
  · cases e
def o_i2l (k : ox_K) : ox_K := fun lv st h => match st with
  | .int x :: st => k lv (.long (x.toInt64) :: st) h
  | _ => none
theorem s_i2l (C : ox_C p s m args c g nL cc own) (d : decode cc pc = .ok (.i2l, 1)) (hk : ox_S p l e R s m args below meth c g nL c0 t0 Qf (pc + 1) k) : ox_S p l e R s m args below meth c g nL c0 t0 Qf pc (o_i2l k) := by
  intro lv st h r e
  unfold o_i2l at e
  split at e
  · obtain ⟨h1, h2⟩ := hk _ _ _ _ e
    exact ⟨h1, fun H locs ls a1 a2 a3 a4 => lv_i2l C.1 C.2.1 d rfl (h2 H locs ls a1 a2 a3 a4)⟩
  · cases e
def o_l2i (k : ox_K) : ox_K := fun lv st h => match st with
  | .long x :: st => k lv (.int (x.toInt32) :: st) h
  | _ => none
theorem s_l2i (C : ox_C p s m args c g nL cc own) (d : decode cc pc = .ok (.l2i, 1)) (hk : ox_S p l e R s m args below meth c g nL c0 t0 Qf (pc + 1) k) : ox_S p l e R s m args below meth c g nL c0 t0 Qf pc (o_l2i k) := by
  intro lv st h r e
  unfold o_l2i at e
  split at e
  · obtain ⟨h1, h2⟩ := hk _ _ _ _ e
    exact ⟨h1, fun H locs ls a1 a2 a3 a4 => lv_l2i C.1 C.2.1 d rfl (h2 H locs ls a1 a2 a3 a4)⟩
  · cases e
def o_i2b (k : ox_K) : ox_K := fun lv st h => match st with
  | .int x :: st => k lv (.int (x.toInt8.toInt32) :: st) h
  | _ => none
theorem s_i2b (C : ox_C p s m args c g nL cc own) (d : decode cc pc = .ok (.i2b, 1)) (hk : ox_S p l e R s m args below meth c g nL c0 t0 Qf (pc + 1) k) : ox_S p l e R s m args below meth c g nL c0 t0 Qf pc (o_i2b k) := by
  intro lv st h r e
  unfold o_i2b at e
  split at e
  · obtain ⟨h1, h2⟩ := hk _ _ _ _ e
    exact ⟨h1, fun H locs ls a1 a2 a3 a4 => lv_i2b C.1 C.2.1 d rfl (h2 H locs ls a1 a2 a3 a4)⟩
  · cases e
def o_i2s (k : ox_K) : ox_K := fun lv st h => match st with
  | .int x :: st => k lv (.int (x.toInt16.toInt32) :: st) h
  | _ => none
theorem s_i2s (C : ox_C p s m args c g nL cc own) (d : decode cc pc = .ok (.i2s, 1)) (hk : ox_S p l e R s m args below meth c g nL c0 t0 Qf (pc + 1) k) : ox_S p l e R s m args below meth c g nL c0 t0 Qf pc (o_i2s k) := by
  intro lv st h r e
  unfold o_i2s at e
  split at e
  · obtain ⟨h1, h2⟩ := hk _ _ _ _ e
    exact ⟨h1, fun H locs ls a1 a2 a3 a4 => lv_i2s C.1 C.2.1 d rfl (h2 H locs ls a1 a2 a3 a4)⟩
  · cases e
def o_i2c (k : ox_K) : ox_K := fun lv st h => match st with
  | .int x :: st => k lv (.int ((x.toUInt32 % 65536).toInt32) :: st) h
  | _ => none
theorem s_i2c (C : ox_C p s m args c g nL cc own) (d : decode cc pc = .ok (.i2c, 1)) (hk : ox_S p l e R s m args below meth c g nL c0 t0 Qf (pc + 1) k) : ox_S p l e R s m args below meth c g nL c0 t0 Qf pc (o_i2c k) := by
  intro lv st h r e
  unfold o_i2c at e
  split at e
  · obtain ⟨h1, h2⟩ := hk _ _ _ _ e
    exact ⟨h1, fun H locs ls a1 a2 a3 a4 => lv_i2c C.1 C.2.1 d rfl (h2 H locs ls a1 a2 a3 a4)⟩
  · cases e
def o_dup (k : ox_K) : ox_K := fun lv st h => match st with
  | v :: st => if v.category = 1 then k lv (v :: v :: st) h else none
  | _ => none
theorem s_dup (C : ox_C p s m args c g nL cc own) (d : decode cc pc = .ok (.dup, 1)) (hk : ox_S p l e R s m args below meth c g nL c0 t0 Qf (pc + 1) k) : ox_S p l e R s m args below meth c g nL c0 t0 Qf pc (o_dup k) := by
  intro lv st h r e
  unfold o_dup at e
  split at e
  · split at e
    · next hv =>
      obtain ⟨h1, h2⟩ := hk _ _ _ _ e
      exact ⟨h1, fun H locs ls a1 a2 a3 a4 => lv_dup C.1 C.2.1 d ((ox_cat g _).trans hv) (h2 H locs ls a1 a2 a3 a4)⟩
    · cases e
  · cases e
def o_dup2 (k : ox_K) : ox_K := fun lv st h => match st with
  | v :: u :: st => if v.category = 1 ∧ u.category = 1 then k lv (v :: u :: v :: u :: st) h else none
  | _ => none
theorem s_dup2 (C : ox_C p s m args c g nL cc own) (d : decode cc pc = .ok (.dup2, 1)) (hk : ox_S p l e R s m args below meth c g nL c0 t0 Qf (pc + 1) k) : ox_S p l e R s m args below meth c g nL c0 t0 Qf pc (o_dup2 k) := by
  intro lv st h r e
  unfold o_dup2 at e
  split at e
  · split at e
    · next hv =>
      obtain ⟨h1, h2⟩ := hk _ _ _ _ e
      exact ⟨h1, fun H locs ls a1 a2 a3 a4 => lv_dup2_11 C.1 C.2.1 d ((ox_cat g _).trans hv.1) ((ox_cat g _).trans hv.2) (h2 H locs ls a1 a2 a3 a4)⟩
    · cases e
  · cases e
def o_pop (k : ox_K) : ox_K := fun lv st h => match st with
  | v :: st => if v.category = 1 then k lv st h else none
  | _ => none
theorem s_pop (C : ox_C p s m args c g nL cc own) (d : decode cc pc = .ok (.pop, 1)) (hk : ox_S p l e R s m args below meth c g nL c0 t0 Qf (pc + 1) k) : ox_S p l e R s m args below meth c g nL c0 t0 Qf pc (o_pop k) := by
  intro lv st h r e
  unfold o_pop at e
  split at e
  · split at e
    · next hv =>
      obtain ⟨h1, h2⟩ := hk _ _ _ _ e
      exact ⟨h1, fun H locs ls a1 a2 a3 a4 => lv_pop C.1 C.2.1 d ((ox_cat g _).trans hv) (h2 H locs ls a1 a2 a3 a4)⟩
    · cases e
  · cases e
def o_ifeq (kt kf : ox_K) : ox_K := fun lv st h => match st with
  | .int x :: st => if x = 0 then kt lv st h else kf lv st h
  | _ => none
theorem s_ifeq {off : Int} (tgt : Nat) (C : ox_C p s m args c g nL cc own) (d : decode cc pc = .ok (.ifCond .eq off, 3)) (ht : (pc : Int) + off = (tgt : Int)) (hk1 : ox_S p l e R s m args below meth c g nL c0 t0 Qf tgt kt) (hk2 : ox_S p l e R s m args below meth c g nL c0 t0 Qf (pc + 3) kf) : ox_S p l e R s m args below meth c g nL c0 t0 Qf pc (o_ifeq kt kf) := by
  intro lv st h r e
  unfold o_ifeq at e
  split at e
  · split at e
    · next hc =>
      obtain ⟨h1, h2⟩ := hk1 _ _ _ _ e
      exact ⟨h1, fun H locs ls a1 a2 a3 a4 => lv_if_eq C.1 C.2.1 d ht (fun q => h2 H locs ls a1 a2 a3 a4) (fun q => absurd hc q)⟩
    · next hc =>
      obtain ⟨h1, h2⟩ := hk2 _ _ _ _ e
      exact ⟨h1, fun H locs ls a1 a2 a3 a4 => lv_if_eq C.1 C.2.1 d ht (fun q => absurd q hc) (fun q => h2 H locs ls a1 a2 a3 a4)⟩
  · cases e
def o_iceq (kt kf : ox_K) : ox_K := fun lv st h => match st with
  | .int y :: .int x :: st => if x = y then kt lv st h else kf lv st h
  | _ => none
theorem s_icmpeq {off : Int} (tgt : Nat) (C : ox_C p s m args c g nL cc own) (d : decode cc pc = .ok (.if_icmp .eq off, 3)) (ht : (pc : Int) + off = (tgt : Int)) (hk1 : ox_S p l e R s m args below meth c g nL c0 t0 Qf tgt kt) (hk2 : ox_S p l e R s m args below meth c g nL c0 t0 Qf (pc + 3) kf) : ox_S p l e R s m args below meth c g nL c0 t0 Qf pc (o_iceq kt kf) := by
  intro lv st h r e
  unfold o_iceq at e
  split at e
  · split at e
    · next hc =>
      obtain ⟨h1, h2⟩ := hk1 _ _ _ _ e
      exact ⟨h1, fun H locs ls a1 a2 a3 a4 => lv_icmp_eq C.1 C.2.1 d ht (fun q => h2 H locs ls a1 a2 a3 a4) (fun q => absurd hc q)⟩
    · next hc =>
      obtain ⟨h1, h2⟩ := hk2 _ _ _ _ e
      exact ⟨h1, fun H locs ls a1 a2 a3 a4 => lv_icmp_eq C.1 C.2.1 d ht (fun q => absurd q hc) (fun q => h2 H locs ls a1 a2 a3 a4)⟩
  · cases e
def o_ifne (kt kf : ox_K) : ox_K := fun lv st h => match st with
  | .int x :: st => if x = 0 then kf lv st h else kt lv st h
  | _ => none
theorem s_ifne {off : Int} (tgt : Nat) (C : ox_C p s m args c g nL cc own) (d : decode cc pc = .ok (.ifCond .ne off, 3)) (ht : (pc : Int) + off = (tgt : Int)) (hk1 : ox_S p l e R s m args below meth c g nL c0 t0 Qf tgt kt) (hk2 : ox_S p l e R s m args below meth c g nL c0 t0 Qf (pc + 3) kf) : ox_S p l e R s m args below meth c g nL c0 t0 Qf pc (o_ifne kt kf) := by
  intro lv st h r e
  unfold o_ifne at e
  split at e
  · split at e
    · next hc =>
      obtain ⟨h1, h2⟩ := hk2 _ _ _ _ e
      exact ⟨h1, fun H locs ls a1 a2 a3 a4 => lv_if_ne C.1 C.2.1 d ht (fun q => absurd hc q) (fun q => h2 H locs ls a1 a2 a3 a4)⟩
    · next hc =>
      obtain ⟨h1, h2⟩ := hk1 _ _ _ _ e
      exact ⟨h1, fun H locs ls a1 a2 a3 a4 => lv_if_ne C.1 C.2.1 d ht (fun q => h2 H locs ls a1 a2 a3 a4) (fun q => absurd q hc)⟩
  · cases e
def o_icne (kt kf : ox_K) : ox_K := fun lv st h => match st with
  | .int y :: .int x :: st => if x = y then kf lv st h else kt lv st h
  | _ => none
theorem s_icmpne {off : Int} (tgt : Nat) (C : ox_C p s m args c g nL cc own) (d : decode cc pc = .ok (.if_icmp .ne off, 3)) (ht : (pc : Int) + off = (tgt : Int)) (hk1 : ox_S p l e R s m args below meth c g nL c0 t0 Qf tgt kt) (hk2 : ox_S p l e R s m args below meth c g nL c0 t0 Qf (pc + 3) kf) : ox_S p l e R s m args below meth c g nL c0 t0 Qf pc (o_icne kt kf) := by
  intro lv st h r e
  unfold o_icne at e
  split at e
  · split at e
    · next hc =>
      obtain ⟨h1, h2⟩ := hk2 _ _ _ _ e
      exact ⟨h1, fun H locs ls a1 a2 a3 a4 => lv_icmp_ne C.1 C.2.1 d ht (fun q => absurd hc q) (fun q => h2 H locs ls a1 a2 a3 a4)⟩
    · next hc =>
      obtain ⟨h1, h2⟩ := hk1 _ _ _ _ e
      exact ⟨h1, fun H locs ls a1 a2 a3 a4 => lv_icmp_ne C.1 C.2.1 d ht (fun q => h2 H locs ls a1 a2 a3 a4) (fun q => absurd q hc)⟩
  · cases e
def o_iflt (kt kf : ox_K) : ox_K := fun lv st h => match st with
  | .int x :: st => if x < 0 then kt lv st h else kf lv st h
  | _ => none
theorem s_iflt {off : Int} (tgt : Nat) (C : ox_C p s m args c g nL cc own) (d : decode cc pc = .ok (.ifCond .lt off, 3)) (ht : (pc : Int) + off = (tgt : Int)) (hk1 : ox_S p l e R s m args below meth c g nL c0 t0 Qf tgt kt) (hk2 : ox_S p l e R s m args below meth c g nL c0 t0 Qf (pc + 3) kf) : ox_S p l e R s m args below meth c g nL c0 t0 Qf pc (o_iflt kt kf) := by
  intro lv st h r e
  unfold o_iflt at e
  split at e
  · split at e
    · next hc =>
      obtain ⟨h1, h2⟩ := hk1 _ _ _ _ e
      exact ⟨h1, fun H locs ls a1 a2 a3 a4 => lv_if_lt C.1 C.2.1 d ht (fun q => h2 H locs ls a1 a2 a3 a4) (fun q => absurd hc q)⟩
    · next hc =>
      obtain ⟨h1, h2⟩ := hk2 _ _ _ _ e
      exact ⟨h1, fun H locs ls a1 a2 a3 a4 => lv_if_lt C.1 C.2.1 d ht (fun q => absurd q hc) (fun q => h2 H locs ls a1 a2 a3 a4)⟩
  · cases e
def o_iclt (kt kf : ox_K) : ox_K := fun lv st h => match st with
  | .int y :: .int x :: st => if x < y then kt lv st h else kf lv st h
  | _ => none
theorem s_icmplt {off : Int} (tgt : Nat) (C : ox_C p s m args c g nL cc own) (d : decode cc pc = .ok (.if_icmp .lt off, 3)) (ht : (pc : Int) + off = (tgt : Int)) (hk1 : ox_S p l e R s m args below meth c g nL c0 t0 Qf tgt kt) (hk2 : ox_S p l e R s m args below meth c g nL c0 t0 Qf (pc + 3) kf) : ox_S p l e R s m args below meth c g nL c0 t0 Qf pc (o_iclt kt kf) := by
  intro lv st h r e
  unfold o_iclt at e
  split at e
  · split at e
    · next hc =>
      obtain ⟨h1, h2⟩ := hk1 _ _ _ _ e
      exact ⟨h1, fun H locs ls a1 a2 a3 a4 => lv_icmp_lt C.1 C.2.1 d ht (fun q => h2 H locs ls a1 a2 a3 a4) (fun q => absurd hc q)⟩
    · next hc =>
      obtain ⟨h1, h2⟩ := hk2 _ _ _ _ e
      exact ⟨h1, fun H locs ls a1 a2 a3 a4 => lv_icmp_lt C.1 C.2.1 d ht (fun q => absurd q hc) (fun q => h2 H locs ls a1 a2 a3 a4)⟩
  · cases e
def o_ifge (kt kf : ox_K) : ox_K := fun lv st h => match st with
  | .int x :: st => if 0 ≤ x then kt lv st h else kf lv st h
  | _ => none
theorem s_ifge {off : Int} (tgt : Nat) (C : ox_C p s m args c g nL cc own) (d : decode cc pc = .ok (.ifCond .ge off, 3)) (ht : (pc : Int) + off = (tgt : Int)) (hk1 : ox_S p l e R s m args below meth c g nL c0 t0 Qf tgt kt) (hk2 : ox_S p l e R s m args below meth c g nL c0 t0 Qf (pc + 3) kf) : ox_S p l e R s m args below meth c g nL c0 t0 Qf pc (o_ifge kt kf) := by
  intro lv st h r e
  unfold o_ifge at e
  split at e
  · split at e
    · next hc =>
      obtain ⟨h1, h2⟩ := hk1 _ _ _ _ e
      exact ⟨h1, fun H locs ls a1 a2 a3 a4 => lv_if_ge C.1 C.2.1 d ht (fun q => h2 H locs ls a1 a2 a3 a4) (fun q => absurd hc q)⟩
    · next hc =>
      obtain ⟨h1, h2⟩ := hk2 _ _ _ _ e
      exact ⟨h1, fun H locs ls a1 a2 a3 a4 => lv_if_ge C.1 C.2.1 d ht (fun q => absurd q hc) (fun q => h2 H locs ls a1 a2 a3 a4)⟩
  · cases e
def o_icge (kt kf : ox_K) : ox_K := fun lv st h => match st with
  | .int y :: .int x :: st => if y ≤ x then kt lv st h else kf lv st h
  | _ => none
theorem s_icmpge {off : Int} (tgt : Nat) (C : ox_C p s m args c g nL cc own) (d : decode cc pc = .ok (.if_icmp .ge off, 3)) (ht : (pc : Int) + off = (tgt : Int)) (hk1 : ox_S p l e R s m args below meth c g nL c0 t0 Qf tgt kt) (hk2 : ox_S p l e R s m args below meth c g nL c0 t0 Qf (pc + 3) kf) : ox_S p l e R s m args below meth c g nL c0 t0 Qf pc (o_icge kt kf) := by
  intro lv st h r e
  unfold o_icge at e
  split at e
  · split at e
    · next hc =>
      obtain ⟨h1, h2⟩ := hk1 _ _ _ _ e
      exact ⟨h1, fun H locs ls a1 a2 a3 a4 => lv_icmp_ge C.1 C.2.1 d ht (fun q => h2 H locs ls a1 a2 a3 a4) (fun q => absurd hc q)⟩
    · next hc =>
      obtain ⟨h1, h2⟩ := hk2 _ _ _ _ e
      exact ⟨h1, fun H locs ls a1 a2 a3 a4 => lv_icmp_ge C.1 C.2.1 d ht (fun q => absurd q hc) (fun q => h2 H locs ls a1 a2 a3 a4)⟩
  · cases e
def o_ifgt (kt kf : ox_K) : ox_K := fun lv st h => match st with
  | .int x :: st => if 0 < x then kt lv st h else kf lv st h
  | _ => none
theorem s_ifgt {off : Int} (tgt : Nat) (C : ox_C p s m args c g nL cc own) (d : decode cc pc = .ok (.ifCond .gt off, 3)) (ht : (pc : Int) + off = (tgt : Int)) (hk1 : ox_S p l e R s m args below meth c g nL c0 t0 Qf tgt kt) (hk2 : ox_S p l e R s m args below meth c g nL c0 t0 Qf (pc + 3) kf) : ox_S p l e R s m args below meth c g nL c0 t0 Qf pc (o_ifgt kt kf) := by
  intro lv st h r e
  unfold o_ifgt at e
  split at e
  · split at e
    · next hc =>
      obtain ⟨h1, h2⟩ := hk1 _ _ _ _ e
      exact ⟨h1, fun H locs ls a1 a2 a3 a4 => lv_if_gt C.1 C.2.1 d ht (fun q => h2 H locs ls a1 a2 a3 a4) (fun q => absurd hc q)⟩
    · next hc =>
      obtain ⟨h1, h2⟩ := hk2 _ _ _ _ e
      exact ⟨h1, fun H locs ls a1 a2 a3 a4 => lv_if_gt C.1 C.2.1 d ht (fun q => absurd q hc) (fun q => h2 H locs ls a1 a2 a3 a4)⟩
  · cases e
def o_icgt (kt kf : ox_K) : ox_K := fun lv st h => match st with
  | .int y :: .int x :: st => if y < x then kt lv st h else kf lv st h
  | _ => none
theorem s_icmpgt {off : Int} (tgt : Nat) (C : ox_C p s m args c g nL cc own) (d : decode cc pc = .ok (.if_icmp .gt off, 3)) (ht : (pc : Int) + off = (tgt : Int)) (hk1 : ox_S p l e R s m args below meth c g nL c0 t0 Qf tgt kt) (hk2 : ox_S p l e R s m args below meth c g nL c0 t0 Qf (pc + 3) kf) : ox_S p l e R s m args below meth c g nL c0 t0 Qf pc (o_icgt kt kf) := by
  intro lv st h r e
  unfold o_icgt at e
  split at e
  · split at e
    · next hc =>
      obtain ⟨h1, h2⟩ := hk1 _ _ _ _ e
      exact ⟨h1, fun H locs ls a1 a2 a3 a4 => lv_icmp_gt C.1 C.2.1 d ht (fun q => h2 H locs ls a1 a2 a3 a4) (fun q => absurd hc q)⟩
    · next hc =>
      obtain ⟨h1, h2⟩ := hk2 _ _ _ _ e
      exact ⟨h1, fun H locs ls a1 a2 a3 a4 => lv_icmp_gt C.1 C.2.1 d ht (fun q => absurd q hc) (fun q => h2 H locs ls a1 a2 a3 a4)⟩
  · cases e
def o_ifle (kt kf : ox_K) : ox_K := fun lv st h => match st with
  | .int x :: st => if x ≤ 0 then kt lv st h else kf lv st h
  | _ => none
theorem s_ifle {off : Int} (tgt : Nat) (C : ox_C p s m args c g nL cc own) (d : decode cc pc = .ok (.ifCond .le off, 3)) (ht : (pc : Int) + off = (tgt : Int)) (hk1 : ox_S p l e R s m args below meth c g nL c0 t0 Qf tgt kt) (hk2 : ox_S p l e R s m args below meth c g nL c0 t0 Qf (pc + 3) kf) : ox_S p l e R s m args below meth c g nL c0 t0 Qf pc (o_ifle kt kf) := by
  intro lv st h r e
  unfold o_ifle at e
  split at e
  · split at e
    · next hc =>
      obtain ⟨h1, h2⟩ := hk1 _ _ _ _ e
      exact ⟨h1, fun H locs ls a1 a2 a3 a4 => lv_if_le C.1 C.2.1 d ht (fun q => h2 H locs ls a1 a2 a3 a4) (fun q => absurd hc q)⟩
    · next hc =>
      obtain ⟨h1, h2⟩ := hk2 _ _ _ _ e
      exact ⟨h1, fun H locs ls a1 a2 a3 a4 => lv_if_le C.1 C.2.1 d ht (fun q => absurd q hc) (fun q => h2 H locs ls a1 a2 a3 a4)⟩
  · cases e
def o_icle (kt kf : ox_K) : ox_K := fun lv st h => match st with
  | .int y :: .int x :: st => if x ≤ y then kt lv st h else kf lv st h
  | _ => none
theorem s_icmple {off : Int} (tgt : Nat) (C : ox_C p s m args c g nL cc own) (d : decode cc pc = .ok (.if_icmp .le off, 3)) (ht : (pc : Int) + off = (tgt : Int)) (hk1 : ox_S p l e R s m args below meth c g nL c0 t0 Qf tgt kt) (hk2 : ox_S p l e R s m args below meth c g nL c0 t0 Qf (pc + 3) kf) : ox_S p l e R s m args below meth c g nL c0 t0 Qf pc (o_icle kt kf) := by
  intro lv st h r e
  unfold o_icle at e
  split at e
  · split at e
    · next hc =>
      obtain ⟨h1, h2⟩ := hk1 _ _ _ _ e
      exact ⟨h1, fun H locs ls a1 a2 a3 a4 => lv_icmp_le C.1 C.2.1 d ht (fun q => h2 H locs ls a1 a2 a3 a4) (fun q => absurd hc q)⟩
    · next hc =>
      obtain ⟨h1, h2⟩ := hk2 _ _ _ _ e
      exact ⟨h1, fun H locs ls a1 a2 a3 a4 => lv_icmp_le C.1 C.2.1 d ht (fun q => absurd q hc) (fun q => h2 H locs ls a1 a2 a3 a4)⟩
  · cases e
theorem s_goto {off : Int} (tgt : Nat) (C : ox_C p s m args c g nL cc own) (d : decode cc pc = .ok (.goto off, 3)) (ht : (pc : Int) + off = (tgt : Int)) (hk : ox_S p l e R s m args below meth c g nL c0 t0 Qf tgt k) : ox_S p l e R s m args below meth c g nL c0 t0 Qf pc k := by
  intro lv st h r e
  obtain ⟨h1, h2⟩ := hk _ _ _ _ e
  exact ⟨h1, fun H locs ls a1 a2 a3 a4 => lv_goto C.1 C.2.1 d ht (h2 H locs ls a1 a2 a3 a4)⟩
def o_tsw (lo : Int) (ks : List ox_K) (kd : ox_K) : ox_K := fun lv st h => match st with
  | .int x :: st => if x.toInt < lo ∨ lo + (ks.length : Int) ≤ x.toInt then kd lv st h else (ks.getD (x.toInt - lo).toNat ox_no) lv st h
  | _ => none
theorem s_tsw {dflt lo hi : Int} {offs : Array Int} {len : Nat} {ks : List ox_K} {kd : ox_K} (td : Nat) (ts : List Nat) (C : ox_C p s m args c g nL cc own) (d : decode cc pc = .ok (.tableswitch dflt lo hi offs, len)) (hd : (pc : Int) + dflt = (td : Int)) (hh : hi + 1 = lo + (ks.length : Int)) (ho : offs.toList = ts.map (fun t : Nat => (t : Int) - (pc : Int))) (hkd : ox_S p l e R s m args below meth c g nL c0 t0 Qf td kd) (hks : ∀ (i t : Nat) (k : ox_K), ts[i]? = some t → ks[i]? = some k → ox_S p l e R s m args below meth c g nL c0 t0 Qf t k) (hn : ts.length = ks.length) : ox_S p l e R s m args below meth c g nL c0 t0 Qf pc (o_tsw lo ks kd) := by
  intro lv st h r e
  unfold o_tsw at e
  split at e
  · next x st2 =>
    split at e
    · next hc =>
      obtain ⟨h1, h2⟩ := hkd _ _ _ _ e
      exact ⟨h1, fun H locs ls a1 a2 a3 a4 => lv_tableOut C.1 C.2.1 d (by omega) hd (h2 H locs ls a1 a2 a3 a4)⟩
    · next hc =>
      have hi : (x.toInt - lo).toNat < ks.length := by omega
      obtain ⟨k1, hk1⟩ : ∃ k1, ks[(x.toInt - lo).toNat]? = some k1 := ⟨_, List.getElem?_eq_getElem hi⟩
      obtain ⟨t1, ht1⟩ : ∃ t1, ts[(x.toInt - lo).toNat]? = some t1 := ⟨_, List.getElem?_eq_getElem (by rw [hn]; exact hi)⟩
      rw [List.getD_eq_getElem?_getD, hk1] at e
      obtain ⟨h1, h2⟩ := hks _ _ _ ht1 hk1 _ _ _ _ e
      refine ⟨h1, fun H locs ls a1 a2 a3 a4 => lv_tableIn (off := (t1 : Int) - (pc : Int)) (tgt := t1) C.1 C.2.1 d (by omega) (by omega) ?_ (by omega) (h2 H locs ls a1 a2 a3 a4)⟩
      rw [← Array.getElem?_toList, ho, List.getElem?_map, ht1]
      rfl
  · cases e
theorem ox_cok1 {ci k : Nat} {q : vw_C} (hq : ox_cls[ci]? = some q) (hk : k < q.2.2) : parseFieldDescriptor (q.2.1 k).2.2.1 = some (ox_ty ci k) := by
  match ci, hq with
  | 0, hq => cases hq; exact tyX0_ok k hk
  | 1, hq => cases hq; exact tyX1_ok k hk
  | 2, hq => cases hq; exact tyX2_ok k hk
  | 3, hq => cases hq; exact tyX3_ok k hk
  | 4, hq => cases hq; exact tyX4_ok k hk
  | 5, hq => cases hq; exact tyX5_ok k hk
  | 6, hq => cases hq; exact tyX6_ok k hk
  | 7, hq => cases hq; exact tyX7_ok k hk
  | 8, hq => cases hq; exact tyX8_ok k hk
  | 9, hq => cases hq; exact tyX9_ok k hk
  | 10, hq => cases hq; exact tyX10_ok k hk
  | 11, hq => cases hq; exact tyX11_ok k hk
  | 12, hq => cases hq; exact tyX12_ok k hk
  | n + 13, hq => simp [ox_cls] at hq
theorem ox_cok2 {ci : Nat} {q : vw_C} (hq : ox_cls[ci]? = some q) : ∀ a, a < q.2.2 → ∀ b, b < q.2.2 → a ≠ b → (q.2.1 a).2.1 ≠ (q.2.1 b).2.1 := by
  match ci, hq with
  | 0, hq => cases hq; exact nmX0
  | 1, hq => cases hq; exact nmX1
  | 2, hq => cases hq; exact nmX2
  | 3, hq => cases hq; exact nmX3
  | 4, hq => cases hq; exact nmX4
  | 5, hq => cases hq; exact nmX5
  | 6, hq => cases hq; exact nmX6
  | 7, hq => cases hq; exact nmX7
  | 8, hq => cases hq; exact nmX8
  | 9, hq => cases hq; exact nmX9
  | 10, hq => cases hq; exact nmX10
  | 11, hq => cases hq; exact nmX11
  | 12, hq => cases hq; exact nmX12
  | n + 13, hq => simp [ox_cls] at hq
theorem ox_obj {h : ox_HP} {U : State} {H : Heap} (hP : ox_Pic g h U H) {a ci : Nat} (e : ox_sh h a = (0, ci)) : 16 ≤ a ∧ a < ox_n h ∧ ∃ q, ox_cls[ci]? = some q ∧ t_OB (ox_ca g a) (g.2.2.1.1 ci) q.2.2 (g.2.2.1.2 ci) H (ox_fv g h ci a) := by
  obtain ⟨h1, h2⟩ := ox_in hP e (by omega)
  exact ⟨h1, h2, (hP.2.2.1 a h1 h2).1 ci e⟩
theorem ox_arr {h : ox_HP} {U : State} {H : Heap} (hP : ox_Pic g h U H) {a d n : Nat} (e : ox_sh h a = (d, n)) (hd : d = 1 ∨ d = 2 ∨ d = 3) : 16 ≤ a ∧ a < ox_n h ∧ H[ox_ca g a]? = some (arrV (g.2.2.2 d) n (fun i => .int (h.2.1 a i))) := by
  obtain ⟨h1, h2⟩ := ox_in hP e (by omega)
  exact ⟨h1, h2, (hP.2.2.1 a h1 h2).2.1 d n e hd⟩
theorem ox_rar {h : ox_HP} {U : State} {H : Heap} (hP : ox_Pic g h U H) {a ci n : Nat} (e : ox_sh h a = (10 + ci, n)) : 16 ≤ a ∧ a < ox_n h ∧ H[ox_ca g a]? = some (arrV (g.2.2.2 (10 + ci)) n (fun i => ox_rv g (h.2.2 a i))) := by
  obtain ⟨h1, h2⟩ := ox_in hP e (by omega)
  exact ⟨h1, h2, (hP.2.2.1 a h1 h2).2.2 ci n e⟩
/-- every class's rows of the tables -/
theorem ox_lays {ci : Nat} {q : vw_C} (hq : ox_cls[ci]? = some q) : ∀ w ∈ u_ws q.1 q.2.1 q.2.2, w ∈ ox_W := by
  match ci, hq with
  | 0, hq => cases hq; exact fun w h => ox_Wof (ox_ly0 w h)
  | 1, hq => cases hq; exact fun w h => ox_Wof (ox_ly1 w h)
  | 2, hq => cases hq; exact fun w h => ox_Wof (ox_ly2 w h)
  | 3, hq => cases hq; exact fun w h => ox_Wof (ox_ly3 w h)
  | 4, hq => cases hq; exact fun w h => ox_Wof (ox_ly4 w h)
  | 5, hq => cases hq; exact fun w h => ox_Wof (ox_ly5 w h)
  | 6, hq => cases hq; exact fun w h => ox_Wof (ox_ly6 w h)
  | 7, hq => cases hq; exact fun w h => ox_Wof (ox_ly7 w h)
  | 8, hq => cases hq; exact fun w h => ox_Wof (ox_ly8 w h)
  | 9, hq => cases hq; exact fun w h => ox_Wof (ox_ly9 w h)
  | 10, hq => cases hq; exact fun w h => ox_Wof (ox_ly10 w h)
  | 11, hq => cases hq; exact fun w h => ox_Wof (ox_ly11 w h)
  | 12, hq => cases hq; exact fun w h => ox_Wof (ox_ly12 w h)
  | n + 13, hq => simp [ox_cls] at hq
def o_geti (ci j : Nat) (k : ox_K) : ox_K := fun lv st h => match st with
  | .ref a :: st => if ox_sh h a = (0, ci) then k lv (.int (h.2.1 a j) :: st) h else none
  | _ => none
def o_getr (ci j : Nat) (k : ox_K) : ox_K := fun lv st h => match st with
  | .ref a :: st => if ox_sh h a = (0, ci) then (if h.2.2 a j = 0 then none else k lv (.ref (h.2.2 a j) :: st) h) else none
  | _ => none
theorem ox_getf {ci j idx : Nat} {q : vw_C} (C : ox_C p s m args c g nL cc own) (hq : ox_cls[ci]? = some q) (hj : j < q.2.2) (hw : Cond.fieldLink own idx (q.2.1 j).1 (q.2.1 j).2.1 (q.2.1 j).2.2.1 ∈ ox_W) (d : decode cc pc = .ok (.getfield idx, 3)) {h : ox_HP} {H : Heap} (hP : ox_Pic g h s H) {a : Nat} (ha : ox_sh h a = (0, ci)) {locs : List Loc} {cells slots : Nat} {Q : State → Prop} {ls : Array Slot} {rest : List Value}
    (kk : W p l e R s m args below meth c H locs cells slots Q (F0 m (pc + 3) ls (ox_fv g h ci a j :: rest))) : W p l e R s m args below meth c H locs cells slots Q (F0 m pc ls (.ref (ox_ca g a) :: rest)) := by
  obtain ⟨-, -, q2, hq2, cell, q1, q3, q4, q5⟩ := ox_obj hP ha
  cases hq.symm.trans hq2
  obtain ⟨hx, hb, -, hown, hts, hWd⟩ := C
  obtain ⟨hS, hfc, kC, hkC, hkind⟩ := hWd.1.1 ci _ hq
  obtain ⟨cf, kf, fi, f, hi, hsl⟩ := hS j hj
  refine W.getf hx hb hown (hts _ hw) hi (u_facts hfc hkC (u_lays hts (ox_lays hq) hj) hi).1 q1 (by rw [q4]; exact fun h => by cases h) (v := ox_fv g h ci a j) ?_ rfl rfl d kk
  rw [hsl, q5 j hj]
theorem s_geti {ci j idx : Nat} {q : vw_C} (C : ox_C p s m args c g nL cc own) (hq : ox_cls[ci]? = some q) (hj : j < q.2.2) (hn : ox_isr (ox_ty ci j) = false) (hw : Cond.fieldLink own idx (q.2.1 j).1 (q.2.1 j).2.1 (q.2.1 j).2.2.1 ∈ ox_W) (d : decode cc pc = .ok (.getfield idx, 3)) (hk : ox_S p l e R s m args below meth c g nL c0 t0 Qf (pc + 3) k) : ox_S p l e R s m args below meth c g nL c0 t0 Qf pc (o_geti ci j k) := by
  intro lv st h r e
  unfold o_geti at e
  split at e
  · next a st2 =>
    split at e
    · next ha =>
      obtain ⟨h1, h2⟩ := hk _ _ _ _ e
      refine ⟨h1, fun H locs ls a1 a2 a3 a4 => ox_getf C hq hj hw d a1 ha ?_⟩
      unfold ox_fv
      rw [if_neg (by rw [hn]; decide)]
      exact h2 H locs ls a1 a2 a3 a4
    · cases e
  · cases e
theorem s_getr {ci j idx : Nat} {q : vw_C} (C : ox_C p s m args c g nL cc own) (hq : ox_cls[ci]? = some q) (hj : j < q.2.2) (hn : ox_isr (ox_ty ci j) = true) (hw : Cond.fieldLink own idx (q.2.1 j).1 (q.2.1 j).2.1 (q.2.1 j).2.2.1 ∈ ox_W) (d : decode cc pc = .ok (.getfield idx, 3)) (hk : ox_S p l e R s m args below meth c g nL c0 t0 Qf (pc + 3) k) : ox_S p l e R s m args below meth c g nL c0 t0 Qf pc (o_getr ci j k) := by
  intro lv st h r e
  unfold o_getr at e
  split at e
  · next a st2 =>
    split at e
    · next ha =>
      split at e
      · cases e
      · next hz =>
        obtain ⟨h1, h2⟩ := hk _ _ _ _ e
        refine ⟨h1, fun H locs ls a1 a2 a3 a4 => ox_getf C hq hj hw d a1 ha ?_⟩
        unfold ox_fv
        rw [if_pos hn]
        unfold ox_rv
        rw [if_neg hz]
        exact h2 H locs ls a1 a2 a3 a4
    · cases e
  · cases e
/-- arrays of ints: own ones, and those that were there -/
def o_ia (k : ox_K) : ox_K := fun lv st h => match st with
  | .int i :: .ref a :: st => if ((ox_sh h a).1 = 1 ∨ ((ox_sh h a).1 = 5 ∧ a < 16)) ∧ 0 ≤ i.toInt ∧ i.toInt < ((ox_sh h a).2 : Int) then k lv (.int (h.2.1 a i.toNatClampNeg) :: st) h else none
  | _ => none
theorem ox_vin {i : Int32} {n : Nat} (h1 : 0 ≤ i.toInt) (h2 : i.toInt < (n : Int)) : vp_in i n := vp_in_iff.mpr ⟨h1, h2⟩
theorem s_ia (C : ox_C p s m args c g nL cc own) (d : decode cc pc = .ok (.iaload, 1)) (hk : ox_S p l e R s m args below meth c g nL c0 t0 Qf (pc + 1) k) : ox_S p l e R s m args below meth c g nL c0 t0 Qf pc (o_ia k) := by
  intro lv st h r e
  unfold o_ia at e
  split at e
  · next i a st2 =>
    split at e
    · next hc =>
      obtain ⟨hc1, hc2, hc3⟩ := hc
      obtain ⟨h1, h2⟩ := hk _ _ _ _ e
      refine ⟨h1, fun H locs ls a1 a2 a3 a4 => ?_⟩
      have hin := ox_vin hc2 hc3
      have hlt : i.toNatClampNeg < (ox_sh h a).2 := Nat.not_le.mp fun q => hin (Or.inr q)
      rcases hc1 with hc1 | hc1
      · obtain ⟨-, -, hcell⟩ := ox_arr a1 (a := a) (d := 1) (n := (ox_sh h a).2) (by rw [← hc1]) (Or.inl rfl)
        have hAT := (C.2.2.2.2.2.1.2 0 (g.2.2.2 1, .int) rfl).1
        exact W.iald (v := .int (h.2.1 a i.toNatClampNeg)) C.1 C.2.1 hcell (hAT _ _) (fun q => by cases q) (by rw [arrV_size]; exact hin) (by rw [arrV_read _ _ hlt]) rfl rfl d (h2 H locs ls a1 a2 a3 a4)
      · obtain ⟨hc1, ha16⟩ := hc1
        obtain ⟨cell, g1, g2, g3, g4, g5, g6, g7⟩ := (a1.2.2.2 a ha16).2.1 (ox_sh h a).2 (by rw [← hc1])
        exact W.iald (v := .int (h.2.1 a i.toNatClampNeg)) C.1 C.2.1 g1 g2 g3 (fun q => by
          rcases q with q | q
          · exact hin (Or.inl q)
          · omega) (by rw [g6 _ hlt]) rfl rfl d (h2 H locs ls a1 a2 a3 a4)
    · cases e
  · cases e
def o_ba (k : ox_K) : ox_K := fun lv st h => match st with
  | .int i :: .ref a :: st => if ((ox_sh h a).1 = 2 ∨ (ox_sh h a).1 = 3 ∨ ((ox_sh h a).1 = 7 ∧ a < 16)) ∧ 0 ≤ i.toInt ∧ i.toInt < ((ox_sh h a).2 : Int) then k lv (.int (h.2.1 a i.toNatClampNeg) :: st) h else none
  | _ => none
theorem s_ba (C : ox_C p s m args c g nL cc own) (d : decode cc pc = .ok (.baload, 1)) (hk : ox_S p l e R s m args below meth c g nL c0 t0 Qf (pc + 1) k) : ox_S p l e R s m args below meth c g nL c0 t0 Qf pc (o_ba k) := by
  intro lv st h r e
  unfold o_ba at e
  split at e
  · next i a st2 =>
    split at e
    · next hc =>
      obtain ⟨hc1, hc2, hc3⟩ := hc
      obtain ⟨h1, h2⟩ := hk _ _ _ _ e
      refine ⟨h1, fun H locs ls a1 a2 a3 a4 => ?_⟩
      have hin := ox_vin hc2 hc3
      have hlt : i.toNatClampNeg < (ox_sh h a).2 := Nat.not_le.mp fun q => hin (Or.inr q)
      rcases hc1 with hc1 | hc1 | ⟨hc1, ha16⟩
      · obtain ⟨-, -, hcell⟩ := ox_arr a1 (a := a) (d := 2) (n := (ox_sh h a).2) (by rw [← hc1]) (Or.inr (Or.inl rfl))
        have hAT := (C.2.2.2.2.2.1.2 1 (g.2.2.2 2, .byte) rfl).1
        exact W.bald (v := .int (h.2.1 a i.toNatClampNeg)) C.1 C.2.1 hcell (hAT _ _) (fun q => by cases q) (by rw [arrV_size]; exact hin) (by rw [arrV_read _ _ hlt]) rfl rfl d (h2 H locs ls a1 a2 a3 a4)
      · obtain ⟨-, -, hcell⟩ := ox_arr a1 (a := a) (d := 3) (n := (ox_sh h a).2) (by rw [← hc1]) (Or.inr (Or.inr rfl))
        have hAT := (C.2.2.2.2.2.1.2 2 (g.2.2.2 3, .boolean) rfl).1
        exact W.zald (v := .int (h.2.1 a i.toNatClampNeg)) C.1 C.2.1 hcell (hAT _ _) (fun q => by cases q) (by rw [arrV_size]; exact hin) (by rw [arrV_read _ _ hlt]) rfl rfl d (h2 H locs ls a1 a2 a3 a4)
      · obtain ⟨cell, g1, g2, g3, g4, g5, g6, g7⟩ := (a1.2.2.2 a ha16).2.2.1 (ox_sh h a).2 (by rw [← hc1])
        exact W.bald (v := .int (h.2.1 a i.toNatClampNeg)) C.1 C.2.1 g1 g2 g3 (fun q => by
          rcases q with q | q
          · exact hin (Or.inl q)
          · omega) (by rw [g6 _ hlt]) rfl rfl d (h2 H locs ls a1 a2 a3 a4)
    · cases e
  · cases e
/-- arrays of references to objects of class ci -/
def o_aa (ci : Nat) (k : ox_K) : ox_K := fun lv st h => match st with
  | .int i :: .ref a :: st => if (ox_sh h a).1 = 10 + ci ∧ 0 ≤ i.toInt ∧ i.toInt < ((ox_sh h a).2 : Int) then (if h.2.2 a i.toNatClampNeg = 0 then none else k lv (.ref (h.2.2 a i.toNatClampNeg) :: st) h) else none
  | _ => none
theorem s_aa {ci : Nat} {q : vw_C} (t0' : Nat) (C : ox_C p s m args c g nL cc own) (hty : (ox_tys g)[t0']? = some (g.2.2.2 (10 + ci), .object q.1)) (d : decode cc pc = .ok (.aaload, 1)) (hk : ox_S p l e R s m args below meth c g nL c0 t0 Qf (pc + 1) k) : ox_S p l e R s m args below meth c g nL c0 t0 Qf pc (o_aa ci k) := by
  intro lv st h r e
  unfold o_aa at e
  split at e
  · next i a st2 =>
    split at e
    · next hc =>
      split at e
      · cases e
      · next hz =>
        obtain ⟨hc1, hc2, hc3⟩ := hc
        obtain ⟨h1, h2⟩ := hk _ _ _ _ e
        refine ⟨h1, fun H locs ls a1 a2 a3 a4 => ?_⟩
        have hin := ox_vin hc2 hc3
        have hlt : i.toNatClampNeg < (ox_sh h a).2 := Nat.not_le.mp fun q => hin (Or.inr q)
        obtain ⟨-, -, hcell⟩ := ox_rar a1 (a := a) (ci := ci) (n := (ox_sh h a).2) (by rw [← hc1])
        have hAT := (C.2.2.2.2.2.1.2 t0' _ hty).1
        refine W.aald (ty := .object q.1) (v := ox_rv g (h.2.2 a i.toNatClampNeg)) C.1 C.2.1 hcell (hAT _ _) rfl (fun q => by cases q) (by rw [arrV_size]; exact hin) (by rw [arrV_read _ _ hlt]) rfl rfl d ?_
        unfold ox_rv
        rw [if_neg hz]
        exact h2 H locs ls a1 a2 a3 a4
    · cases e
  · cases e
def o_len (k : ox_K) : ox_K := fun lv st h => match st with
  | .ref a :: st => if ((ox_sh h a).1 = 5 ∨ (ox_sh h a).1 = 7) ∧ a < 16 then k lv (.int (Int32.ofNat (ox_sh h a).2) :: st) h else none
  | _ => none
theorem s_len (C : ox_C p s m args c g nL cc own) (d : decode cc pc = .ok (.arraylength, 1)) (hk : ox_S p l e R s m args below meth c g nL c0 t0 Qf (pc + 1) k) : ox_S p l e R s m args below meth c g nL c0 t0 Qf pc (o_len k) := by
  intro lv st h r e
  unfold o_len at e
  split at e
  · next a st2 =>
    split at e
    · next hc =>
      obtain ⟨hc1, ha16⟩ := hc
      obtain ⟨h1, h2⟩ := hk _ _ _ _ e
      refine ⟨h1, fun H locs ls a1 a2 a3 a4 => ?_⟩
      rcases hc1 with hc1 | hc1
      · obtain ⟨cell, g1, g2, g3, g4, g5, g6, g7⟩ := (a1.2.2.2 a ha16).2.1 (ox_sh h a).2 (by rw [← hc1])
        exact W.alen (n := Int32.ofNat (ox_sh h a).2) C.1 C.2.1 g1 g2 g5 rfl rfl d (h2 H locs ls a1 a2 a3 a4)
      · obtain ⟨cell, g1, g2, g3, g4, g5, g6, g7⟩ := (a1.2.2.2 a ha16).2.2.1 (ox_sh h a).2 (by rw [← hc1])
        exact W.alen (n := Int32.ofNat (ox_sh h a).2) C.1 C.2.1 g1 g2 g5 rfl rfl d (h2 H locs ls a1 a2 a3 a4)
    · cases e
  · cases e
theorem ox_le_wi {h : ox_HP} {a i : Nat} {x : Int32} {r : ox_HP} (q : ox_le (ox_wi h a i x) r) : ox_le h r := q
theorem ox_le_wr {h : ox_HP} {a i x : Nat} {r : ox_HP} (q : ox_le (ox_wr h a i x) r) : ox_le h r := q
theorem ox_wi_ne {h : ox_HP} {a i : Nat} {x : Int32} {b : Nat} (hb : b ≠ a) : (ox_wi h a i x).2.1 b = h.2.1 b := by
  unfold ox_wi va_up
  exact funext fun _ => by simp [hb]
theorem ox_wr_ne {h : ox_HP} {a i x b : Nat} (hb : b ≠ a) : (ox_wr h a i x).2.2 b = h.2.2 b := by
  unfold ox_wr va_up
  exact funext fun _ => by simp [hb]
theorem ox_A_in {a : Nat} (ha : 16 ≤ a) : ox_A g (ox_ca g a) := by
  rw [ox_ca_in ha]
  exact Nat.le_add_right _ _
/-- an int into a place of an own int array -/
def o_iast (k : ox_K) : ox_K := fun lv st h => match st with
  | .int x :: .int i :: .ref a :: st => if (ox_sh h a).1 = 1 ∧ 0 ≤ i.toInt ∧ i.toInt < ((ox_sh h a).2 : Int) then k lv st (ox_wi h a i.toNatClampNeg x) else none
  | _ => none
theorem ox_Cel_wi {h : ox_HP} {a d n j : Nat} {x : Int32} {H1 : Heap} (hs : ox_sh h a = (d, n)) (hd : d = 1 ∨ d = 2 ∨ d = 3) (e : H1[ox_ca g a]? = some ((arrV (g.2.2.2 d) n (fun i => .int (h.2.1 a i))).setSlot j (.int x))) : ox_Cel g (ox_wi h a j x) a H1 := by
  have hs2 : ox_sh (ox_wi h a j x) a = (d, n) := hs
  refine ⟨fun ci q => ?_, fun d2 n2 q _ => ?_, fun ci n2 q => ?_⟩
  · rw [hs2] at q
    have := (Prod.mk.inj q).1
    omega
  · rw [hs2] at q
    cases q
    rw [e, arrV_store]
    congr 2
    funext i
    unfold ox_wi va_up updV upd
    dsimp only
    rw [if_pos rfl]
    by_cases hij : i = j
    · rw [if_pos hij, if_pos hij]
    · rw [if_neg hij, if_neg hij]
  · rw [hs2] at q
    have := (Prod.mk.inj q).1
    omega
theorem s_iast (C : ox_C p s m args c g nL cc own) (d : decode cc pc = .ok (.iastore, 1)) (hk : ox_S p l e R s m args below meth c g nL c0 t0 Qf (pc + 1) k) : ox_S p l e R s m args below meth c g nL c0 t0 Qf pc (o_iast k) := by
  intro lv st h r e
  unfold o_iast at e
  split at e
  · next x i a st2 =>
    split at e
    · next hc =>
      obtain ⟨hc1, hc2, hc3⟩ := hc
      obtain ⟨h1, h2⟩ := hk _ _ _ _ e
      refine ⟨ox_le_wi h1, fun H locs ls a1 a2 a3 a4 => ?_⟩
      have hin := ox_vin hc2 hc3
      have hsh : ox_sh h a = (1, (ox_sh h a).2) := by rw [← hc1]
      obtain ⟨ha, -, hcell⟩ := ox_arr a1 hsh (Or.inl rfl)
      have hAT := (C.2.2.2.2.2.1.2 0 (g.2.2.2 1, .int) rfl).1
      refine W.iast C.1 C.2.1 hcell (hAT _ _) (fun q => by cases q) (by rw [arrV_size]; exact hin) rfl rfl d fun H1 e1 z oq => ?_
      exact h2 H1 _ ls (a1.put ha rfl (fun b hb => ox_wi_ne hb) (fun b hb => rfl) z oq (ox_Cel_wi hsh (Or.inl rfl) e1)) (a2.put z oq (ox_A_in ha)) a3 a4
    · cases e
  · cases e
/-- a byte into an own byte array, a truth into an own array of truths -/
def o_bast (k : ox_K) : ox_K := fun lv st h => match st with
  | .int x :: .int i :: .ref a :: st => if (ox_sh h a).1 = 2 ∧ 0 ≤ i.toInt ∧ i.toInt < ((ox_sh h a).2 : Int) then k lv st (ox_wi h a i.toNatClampNeg x.toInt8.toInt32) else none
  | _ => none
theorem s_bast (C : ox_C p s m args c g nL cc own) (d : decode cc pc = .ok (.bastore, 1)) (hk : ox_S p l e R s m args below meth c g nL c0 t0 Qf (pc + 1) k) : ox_S p l e R s m args below meth c g nL c0 t0 Qf pc (o_bast k) := by
  intro lv st h r e
  unfold o_bast at e
  split at e
  · next x i a st2 =>
    split at e
    · next hc =>
      obtain ⟨hc1, hc2, hc3⟩ := hc
      obtain ⟨h1, h2⟩ := hk _ _ _ _ e
      refine ⟨ox_le_wi h1, fun H locs ls a1 a2 a3 a4 => ?_⟩
      have hin := ox_vin hc2 hc3
      have hsh : ox_sh h a = (2, (ox_sh h a).2) := by rw [← hc1]
      obtain ⟨ha, -, hcell⟩ := ox_arr a1 hsh (Or.inr (Or.inl rfl))
      have hAT := (C.2.2.2.2.2.1.2 1 (g.2.2.2 2, .byte) rfl).1
      refine W.bast C.1 C.2.1 hcell (hAT _ _) (fun q => by cases q) (by rw [arrV_size]; exact hin) rfl rfl d fun H1 e1 z oq => ?_
      exact h2 H1 _ ls (a1.put ha rfl (fun b hb => ox_wi_ne hb) (fun b hb => rfl) z oq (ox_Cel_wi hsh (Or.inr (Or.inl rfl)) e1)) (a2.put z oq (ox_A_in ha)) a3 a4
    · cases e
  · cases e
def o_zast (k : ox_K) : ox_K := fun lv st h => match st with
  | .int x :: .int i :: .ref a :: st => if (ox_sh h a).1 = 3 ∧ 0 ≤ i.toInt ∧ i.toInt < ((ox_sh h a).2 : Int) then k lv st (ox_wi h a i.toNatClampNeg (x &&& 1)) else none
  | _ => none
theorem s_zast (C : ox_C p s m args c g nL cc own) (d : decode cc pc = .ok (.bastore, 1)) (hk : ox_S p l e R s m args below meth c g nL c0 t0 Qf (pc + 1) k) : ox_S p l e R s m args below meth c g nL c0 t0 Qf pc (o_zast k) := by
  intro lv st h r e
  unfold o_zast at e
  split at e
  · next x i a st2 =>
    split at e
    · next hc =>
      obtain ⟨hc1, hc2, hc3⟩ := hc
      obtain ⟨h1, h2⟩ := hk _ _ _ _ e
      refine ⟨ox_le_wi h1, fun H locs ls a1 a2 a3 a4 => ?_⟩
      have hin := ox_vin hc2 hc3
      have hsh : ox_sh h a = (3, (ox_sh h a).2) := by rw [← hc1]
      obtain ⟨ha, -, hcell⟩ := ox_arr a1 hsh (Or.inr (Or.inr rfl))
      have hAT := (C.2.2.2.2.2.1.2 2 (g.2.2.2 3, .boolean) rfl).1
      refine W.zast C.1 C.2.1 hcell (hAT _ _) (fun q => by cases q) (by rw [arrV_size]; exact hin) rfl rfl d fun H1 e1 z oq => ?_
      exact h2 H1 _ ls (a1.put ha rfl (fun b hb => ox_wi_ne hb) (fun b hb => rfl) z oq (ox_Cel_wi hsh (Or.inr (Or.inr rfl)) e1)) (a2.put z oq (ox_A_in ha)) a3 a4
    · cases e
  · cases e
/-- a reference to an own object of class ci into an own array of such -/
def o_aast (ci : Nat) (k : ox_K) : ox_K := fun lv st h => match st with
  | .ref x :: .int i :: .ref a :: st => if (ox_sh h a).1 = 10 + ci ∧ 0 ≤ i.toInt ∧ i.toInt < ((ox_sh h a).2 : Int) ∧ ox_sh h x = (0, ci) then k lv st (ox_wr h a i.toNatClampNeg x) else none
  | _ => none
theorem s_aast {ci : Nat} {q : vw_C} (t0' : Nat) (hq : ox_cls[ci]? = some q) (C : ox_C p s m args c g nL cc own) (hty : (ox_tys g)[t0']? = some (g.2.2.2 (10 + ci), .object q.1)) (d : decode cc pc = .ok (.aastore, 1)) (hk : ox_S p l e R s m args below meth c g nL c0 t0 Qf (pc + 1) k) : ox_S p l e R s m args below meth c g nL c0 t0 Qf pc (o_aast ci k) := by
  intro lv st h r e
  unfold o_aast at e
  split at e
  · next x i a st2 =>
    split at e
    · next hc =>
      obtain ⟨hc1, hc2, hc3, hx⟩ := hc
      obtain ⟨h1, h2⟩ := hk _ _ _ _ e
      refine ⟨ox_le_wr h1, fun H locs ls a1 a2 a3 a4 => ?_⟩
      have hin := ox_vin hc2 hc3
      have hlt : i.toNatClampNeg < (ox_sh h a).2 := Nat.not_le.mp fun q => hin (Or.inr q)
      have hsh : ox_sh h a = (10 + ci, (ox_sh h a).2) := by rw [← hc1]
      obtain ⟨ha, -, hcell⟩ := ox_rar a1 hsh
      obtain ⟨hx16, -, q2, hq2, cellv, v1, v2, v3, v4⟩ := ox_obj a1 hx
      cases hq.symm.trans hq2
      obtain ⟨-, hRA⟩ := C.2.2.2.2.2.1.2 t0' _ hty
      obtain ⟨kA, comp, r1, r2, r3, r4⟩ := hRA
      obtain ⟨-, hfc, kC, hkC, hkind⟩ := C.2.2.2.2.2.1.1 ci _ hq
      have ecomp : comp = g.2.2.1.1 ci := Option.some.inj (r3.symm.trans hfc)
      subst ecomp
      refine W.aast (t := .object q.1) C.1 C.2.1 hcell (fun q h => by cases h) (fun q => by cases q) r1 r2 rfl hkC ⟨fun h => hin (Or.inl h), by rw [arrV_size]; exact hlt⟩ v1 (fun q h => by rw [v3] at h; cases h) (by rw [v2]; exact hkC) (by rw [v2]; exact va_asg _ _) rfl rfl d fun H1 e1 z oq => ?_
      refine h2 H1 _ ls (a1.put ha rfl (fun b hb => rfl) (fun b hb => ox_wr_ne hb) z oq ?_) (a2.put z oq (ox_A_in ha)) a3 a4
      have hs2 : ox_sh (ox_wr h a i.toNatClampNeg x) a = (10 + ci, (ox_sh h a).2) := hsh
      refine ⟨fun ci2 qq => ?_, fun d2 n2 qq hd2 => ?_, fun ci2 n2 qq => ?_⟩
      · rw [hs2] at qq
        have := (Prod.mk.inj qq).1
        omega
      · rw [hs2] at qq
        have := (Prod.mk.inj qq).1
        omega
      · rw [hs2] at qq
        obtain ⟨qa, qb⟩ := Prod.mk.inj qq
        have qc : ci2 = ci := by omega
        subst qc
        subst qb
        rw [e1, arrV_store]
        congr 2
        funext j
        unfold ox_wr va_up updV
        dsimp only
        rw [if_pos rfl]
        by_cases hij : j = i.toNatClampNeg
        · rw [if_pos hij, if_pos hij]
          unfold ox_rv
          rw [if_neg (by omega)]
        · rw [if_neg hij, if_neg hij]
    · cases e
  · cases e
theorem ox_Cel_of {h2 : ox_HP} {a ci : Nat} {q : vw_C} {H1 : Heap} (hq : ox_cls[ci]? = some q) (hs : ox_sh h2 a = (0, ci)) (hc : t_OB (ox_ca g a) (g.2.2.1.1 ci) q.2.2 (g.2.2.1.2 ci) H1 (ox_fv g h2 ci a)) : ox_Cel g h2 a H1 := by
  refine ⟨fun ci2 qq => ?_, fun d2 n2 qq hd => ?_, fun ci2 n2 qq => ?_⟩
  · rw [hs] at qq
    cases qq
    exact ⟨q, hq, hc⟩
  · rw [hs] at qq
    have := (Prod.mk.inj qq).1
    omega
  · rw [hs] at qq
    have := (Prod.mk.inj qq).1
    omega
/-- a value into a field of an own object: not final, or final and in the constructor -/
theorem ox_putf {ci j idx : Nat} {q : vw_C} (C : ox_C p s m args c g nL cc own) (hq : ox_cls[ci]? = some q) (hj : j < q.2.2) (hw : Cond.fieldLink own idx (q.2.1 j).1 (q.2.1 j).2.1 (q.2.1 j).2.2.1 ∈ ox_W) (hfin : (q.2.1 j).2.2.2 = false ∨ ((q.2.1 j).2.2.2 = true ∧ meth.name = "<init>" ∧ (q.2.1 j).1 = own)) (d : decode cc pc = .ok (.putfield idx, 3)) {h h2 : ox_HP} {H : Heap} (hP : ox_Pic g h s H) {a : Nat} (ha : ox_sh h a = (0, ci)) {v : Value} (hn : narrow (ox_ty ci j) v = v) (hfit : fits (ox_ty ci j) v = true)
    (hs : h2.1 = h.1) (hi : ∀ b, b ≠ a → h2.2.1 b = h.2.1 b) (hr : ∀ b, b ≠ a → h2.2.2 b = h.2.2 b) (hv : ∀ t, t < q.2.2 → ox_fv g h2 ci a t = updV (ox_fv g h ci a) j v t) {locs : List Loc} {cells slots : Nat} {Q : State → Prop} {ls : Array Slot} {rest : List Value} (hS0 : va_S (ox_A g) s.heap H locs)
    (kk : ∀ (H1 : Heap) (locs1 : List Loc), ox_Pic g h2 s H1 → va_S (ox_A g) s.heap H1 locs1 → W p l e R s m args below meth c H1 locs1 cells slots Q (F0 m (pc + 3) ls rest)) : W p l e R s m args below meth c H locs cells slots Q (F0 m pc ls (v :: .ref (ox_ca g a) :: rest)) := by
  obtain ⟨ha16, -, q2, hq2, cell, q1, q3, q4, q5⟩ := ox_obj hP ha
  cases hq.symm.trans hq2
  have hap := va_apart (own := own) (D := g.2.2.1) (cl := ox_cls) C.2.2.2.2.1 (ox_lays hq) (ox_ty ci) (fun k hk => ox_cok1 hq hk) (ox_cok2 hq) C.2.2.2.2.2.1 hq
  obtain ⟨hx, hb, -, hown, hts, hWd⟩ := C
  obtain ⟨hS, hfc, kC, hkC, hkind⟩ := hWd.1.1 ci _ hq
  obtain ⟨cf, kf, fi, f, hif, hsl⟩ := hS j hj
  have hlay := hts _ (ox_lays hq _ (u_in_lay hj))
  unfold u_lay at hlay
  have hst := (u_facts hfc hkC (u_lays hts (ox_lays hq) hj) hif).1
  have fin : ∀ H' : Heap, H'[ox_ca g a]? = some (cell.setSlot f.slot v) → H'.size = H.size → (∀ x, x ≠ ox_ca g a → H'[x]? = H[x]?) → W p l e R s m args below meth c H' (locs ++ [⟨ox_ca g a, f.slot⟩]) cells slots Q (F0 m (pc + 3) ls rest) := by
    intro H' e1 e2 e3
    refine kk H' _ (hP.put ha16 hs hi hr e2 e3 (ox_Cel_of hq (by unfold ox_sh; rw [hs]; exact ha) ?_)) (hS0.put e2 e3 (ox_A_in ha16))
    rw [hsl] at e1
    exact t_OB.to (V := updV (ox_fv g h ci a) j v) ⟨_, e1, q3, q4, t_set q5 hap hj v⟩ (fun t ht => (hv t ht).symm)
  rcases hfin with hfin | ⟨hfin, hini, hdecl⟩
  · rw [if_neg (by rw [hfin]; decide)] at hlay
    have h6 := u_store hfc hkC hkind hlay hif (ox_cok1 hq hj) hn hfit
    exact W.putK hx hb (f := f) ⟨hown, hts _ hw, ⟨_, _, _, hif⟩, hst⟩ (by rw [q3]; exact h6) q1 q4 (by rw [hsl]; exact k2_hasslot (q5 j hj)) rfl rfl d fin
  · rw [if_pos hfin] at hlay
    have hcf : m.cls = cf := by
      obtain ⟨_, _, c', _, _, _, -, -, hf', -, -, -, hown2, -⟩ := Cond.laysFinal_spec hlay
      have e1 : c' = cf := by have := hif.symm.trans hf'; simp at this; exact this.1.symm
      rw [hdecl] at hown2
      rw [← e1]; exact Option.some.inj (hown.symm.trans hown2)
    have h6 := u_fits hfc hkC hkind (Or.inr hlay) hif (ox_cok1 hq hj) hn hfit
    exact W.putFinK hx hb hown (hts _ hw) hif hst hcf hini (by rw [q3]; exact h6) q1 q4 (by rw [hsl]; exact k2_hasslot (q5 j hj)) rfl rfl d fin
def o_puti (ci j : Nat) (k : ox_K) : ox_K := fun lv st h => match st with
  | .int x :: .ref a :: st => if ox_sh h a = (0, ci) then k lv st (ox_wi h a j x) else none
  | _ => none
def o_putz (ci j : Nat) (k : ox_K) : ox_K := fun lv st h => match st with
  | .int x :: .ref a :: st => if ox_sh h a = (0, ci) ∧ (x = 0 ∨ x = 1) then k lv st (ox_wi h a j x) else none
  | _ => none
def o_putr (ci j : Nat) (k : ox_K) : ox_K := fun lv st h => match st with
  | .ref x :: .ref a :: st => if ox_sh h a = (0, ci) ∧ x ≠ 0 then k lv st (ox_wr h a j x) else none
  | _ => none
theorem ox_fv_wi {h : ox_HP} {a ci j : Nat} {x : Int32} (hn : ox_isr (ox_ty ci j) = false) (t : Nat) : ox_fv g (ox_wi h a j x) ci a t = updV (ox_fv g h ci a) j (.int x) t := by
  unfold ox_fv ox_wi updV va_up upd
  dsimp only
  by_cases e : t = j
  · subst e
    rw [if_neg (by rw [hn]; decide), if_pos rfl, if_pos rfl, if_pos rfl]
  · rw [if_neg e]
    by_cases hr : ox_isr (ox_ty ci t) = true
    · rw [if_pos hr, if_pos hr]
    · rw [if_neg hr, if_neg hr, if_pos rfl, if_neg e]
theorem ox_fv_wr {h : ox_HP} {a ci j x : Nat} (hn : ox_isr (ox_ty ci j) = true) (hx : x ≠ 0) (t : Nat) : ox_fv g (ox_wr h a j x) ci a t = updV (ox_fv g h ci a) j (.ref (ox_ca g x)) t := by
  by_cases e : t = j
  · subst e
    simp [ox_fv, ox_wr, updV, va_up, ox_rv, hn, hx]
  · simp [ox_fv, ox_wr, updV, va_up, ox_rv, e]
theorem s_puti {ci j idx : Nat} {q : vw_C} (C : ox_C p s m args c g nL cc own) (hq : ox_cls[ci]? = some q) (hj : j < q.2.2) (hn : ox_ty ci j = .int) (hfin : (q.2.1 j).2.2.2 = false ∨ ((q.2.1 j).2.2.2 = true ∧ meth.name = "<init>" ∧ (q.2.1 j).1 = own)) (hw : Cond.fieldLink own idx (q.2.1 j).1 (q.2.1 j).2.1 (q.2.1 j).2.2.1 ∈ ox_W) (d : decode cc pc = .ok (.putfield idx, 3)) (hk : ox_S p l e R s m args below meth c g nL c0 t0 Qf (pc + 3) k) : ox_S p l e R s m args below meth c g nL c0 t0 Qf pc (o_puti ci j k) := by
  intro lv st h r e
  unfold o_puti at e
  split at e
  · next x a st2 =>
    split at e
    · next ha =>
      obtain ⟨h1, h2⟩ := hk _ _ _ _ e
      exact ⟨ox_le_wi h1, fun H locs ls a1 a2 a3 a4 => ox_putf C hq hj hw hfin d a1 ha (v := .int x) (h2 := ox_wi h a j x) (by rw [hn]; rfl) (by rw [hn]; rfl) rfl (fun b hb => ox_wi_ne hb) (fun b hb => rfl) (fun t _ => ox_fv_wi (by rw [hn]; rfl) t) a2 (fun H1 locs1 b1 b2 => h2 H1 locs1 ls b1 b2 a3 a4)⟩
    · cases e
  · cases e
theorem s_putz {ci j idx : Nat} {q : vw_C} (C : ox_C p s m args c g nL cc own) (hq : ox_cls[ci]? = some q) (hj : j < q.2.2) (hn : ox_ty ci j = .boolean) (hfin : (q.2.1 j).2.2.2 = false ∨ ((q.2.1 j).2.2.2 = true ∧ meth.name = "<init>" ∧ (q.2.1 j).1 = own)) (hw : Cond.fieldLink own idx (q.2.1 j).1 (q.2.1 j).2.1 (q.2.1 j).2.2.1 ∈ ox_W) (d : decode cc pc = .ok (.putfield idx, 3)) (hk : ox_S p l e R s m args below meth c g nL c0 t0 Qf (pc + 3) k) : ox_S p l e R s m args below meth c g nL c0 t0 Qf pc (o_putz ci j k) := by
  intro lv st h r e
  unfold o_putz at e
  split at e
  · next x a st2 =>
    split at e
    · next hc =>
      obtain ⟨ha, hx⟩ := hc
      obtain ⟨h1, h2⟩ := hk _ _ _ _ e
      exact ⟨ox_le_wi h1, fun H locs ls a1 a2 a3 a4 => ox_putf C hq hj hw hfin d a1 ha (v := .int x) (h2 := ox_wi h a j x) (by rw [hn]; rcases hx with hx | hx <;> subst hx <;> rfl) (by rw [hn]; rcases hx with hx | hx <;> subst hx <;> rfl) rfl (fun b hb => ox_wi_ne hb) (fun b hb => rfl) (fun t _ => ox_fv_wi (by rw [hn]; rfl) t) a2 (fun H1 locs1 b1 b2 => h2 H1 locs1 ls b1 b2 a3 a4)⟩
    · cases e
  · cases e
theorem s_putr {ci j idx : Nat} {q : vw_C} (C : ox_C p s m args c g nL cc own) (hq : ox_cls[ci]? = some q) (hj : j < q.2.2) (hn : ox_isr (ox_ty ci j) = true) (hfin : (q.2.1 j).2.2.2 = false ∨ ((q.2.1 j).2.2.2 = true ∧ meth.name = "<init>" ∧ (q.2.1 j).1 = own)) (hw : Cond.fieldLink own idx (q.2.1 j).1 (q.2.1 j).2.1 (q.2.1 j).2.2.1 ∈ ox_W) (d : decode cc pc = .ok (.putfield idx, 3)) (hk : ox_S p l e R s m args below meth c g nL c0 t0 Qf (pc + 3) k) : ox_S p l e R s m args below meth c g nL c0 t0 Qf pc (o_putr ci j k) := by
  intro lv st h r e
  unfold o_putr at e
  split at e
  · next x a st2 =>
    split at e
    · next hc =>
      obtain ⟨ha, hx⟩ := hc
      obtain ⟨h1, h2⟩ := hk _ _ _ _ e
      exact ⟨ox_le_wr h1, fun H locs ls a1 a2 a3 a4 => ox_putf C hq hj hw hfin d a1 ha (v := .ref (ox_ca g x)) (h2 := ox_wr h a j x) (by cases hT : ox_ty ci j <;> rfl) (by cases hT : ox_ty ci j <;> rw [hT] at hn <;> first | rfl | (exact absurd hn (by decide))) rfl (fun b hb => rfl) (fun b hb => ox_wr_ne hb) (fun t _ => ox_fv_wr hn hx t) a2 (fun H1 locs1 b1 b2 => h2 H1 locs1 ls b1 b2 a3 a4)⟩
    · cases e
  · cases e
end OXS
