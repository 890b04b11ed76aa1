theorem rf_tab : ∀ c ∈ tables_1, rf_look c = true := by
  intro c hc
  have h1 : c ∈ tables_1_1 ++ (tables_1_2 ++ (tables_1_3 ++ (tables_1_4 ++ (tables_1_5 ++ tables_1_6)))) := hc
  rcases List.mem_append.mp h1 with h2 | h1
  · exact List.all_eq_true.mp rf_all_1 c h2
  rcases List.mem_append.mp h1 with h2 | h1
  · exact List.all_eq_true.mp rf_all_2 c h2
  rcases List.mem_append.mp h1 with h2 | h1
  · exact List.all_eq_true.mp rf_all_3 c h2
  rcases List.mem_append.mp h1 with h2 | h1
  · exact List.all_eq_true.mp rf_all_4 c h2
  rcases List.mem_append.mp h1 with h2 | h1
  · exact List.all_eq_true.mp rf_all_5 c h2
  exact List.all_eq_true.mp rf_all_6 c h1
theorem rf_words : ∀ c ∈ (Cond.code x code maxLocals ret :: tables_1), c.before start1.args0 rf_bad = true := by
  intro c hc
  have h0 := start1.words c hc
  rcases List.mem_cons.mp hc with h | h
  · have hl : rf_look (Cond.code x code maxLocals ret) = true := by decide +kernel
    exact rf_word c h0 (h ▸ hl)
  · exact rf_word c h0 (rf_tab c h)
set_option maxRecDepth 16384 in
theorem rf_start : AtStart classFile x code maxLocals ret World_1 tables_1 room_1 Calls_1 rest_1 Pre_1 launch0 start1.p0 start1.e0 rf_bad ⟨0, 0⟩ start1.args0 Lib.HandBits.below0 := by
  obtain ⟨hL, hW, hA, hE, hc, hk, _⟩ := start1.atStart
  refine ⟨hL, hW, hA, hE, hc, hk, rfl, by decide +kernel, by decide +kernel, ?_, trivial, (show rest_1_c.before start1.args0 rf_bad = true by decide +kernel), (show (Cond.and given_1 narrow_1).before start1.args0 rf_bad = true by decide +kernel)⟩
  refine (Spec.applies_iff rfl).mpr ⟨rfl, rfl, rfl, by decide +kernel, by decide +kernel, by decide +kernel, ?_, atoms_intro rf_words⟩
  exact launch0.hasRoom_least _ room_1 (by decide +kernel) (by decide +kernel) (by decide +kernel) (by decide +kernel) (by decide +kernel) (by decide +kernel)
/-- for n steps more than one frame stands, and then the machine has stopped -/
def rf_chk (tb : Tables) (e : Env) : Nat → State → Bool
  | 0, s => decide (s.status ≠ .running)
  | n + 1, s => decide (1 < s.frames.length) && rf_chk tb e n (stepThread tb e s).1
theorem rf_chk_all (tb : Tables) (e : Env) : ∀ (n : Nat) (s : State), rf_chk tb e n s = true → ∀ k, (stepsAlone tb e k s).status = .running → 1 < (stepsAlone tb e k s).frames.length
  | 0, s, h, k, hr => by
    have h0 : s.status ≠ .running := of_decide_eq_true h
    cases k with
    | zero => exact absurd hr h0
    | succ k =>
      unfold stepsAlone at hr
      split at hr
      · next h1 _ _ => exact absurd h1 h0
      · exact absurd hr h0
  | n + 1, s, h, k, hr => by
    have h2 := Bool.and_eq_true_iff.mp h
    have h0 : 1 < s.frames.length := of_decide_eq_true h2.1
    cases k with
    | zero => exact h0
    | succ k =>
      unfold stepsAlone at hr ⊢
      split at hr
      · exact rf_chk_all tb e n _ h2.2 k hr
      · exact h0
set_option maxRecDepth 16384 in
theorem rf_runs : rf_chk start1.p0.tables start1.e0 218 rf_bad = true := by decide +kernel
/-- as it is printed the claim does not hold: at this start all its premises hold, and the law does not return -/
theorem not_claimed : ¬ Claimed_1_1 := by
  intro h
  obtain ⟨hL, hW, hA, _, hc, hk, hf, ha, hh, hp, hca, hr, hP⟩ := rf_start
  obtain ⟨n, o, _, hs, hE, hPost⟩ := h launch0 rfl hL hW start1.p0 start1.e0 hA hc hk rf_bad ⟨0, 0⟩ start1.args0 Lib.HandBits.below0 hf ha hh hp ⟨hca, hr, hP⟩
  have h1 := rf_chk_all _ _ _ _ rf_runs n hs
  cases o with
  | threw a => exact absurd hPost.1 (by
      show ¬ Jvm.D.postC limb_1_1 _ _ _ _ _ _
      simp [Jvm.D.postC, limb_1_1, Cond.after, Cond.holds, Cond.value])
  | returned v =>
    have h2 : (stepsAlone start1.p0.tables start1.e0 n rf_bad).frames.length ≤ 1 := by
      unfold Lib.HandBits.below0 Ended at hE
      rw [hE]; exact Nat.le_refl _
    omega
theorem not_owed : ¬ (Claimed_1_1 ∧ Claimed_1_2) := fun h => not_claimed h.1
