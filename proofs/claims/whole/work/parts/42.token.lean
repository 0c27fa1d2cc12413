/-! The reference's tokens are the spec's. -/
/-- the kind of token that a text is -/
def kj (j : Nat) : Nat := [2, 3, 4, 5, 6, 7, 8, 19, 20, 16, 14, 15, 10, 11, 12, 13, 17, 18].getD j 0
theorem sp_eqs_get {f : Nat → Int32} {p j : Nat} : ∀ (k i : Nat), sp_eqs f p j i k = true → ∀ t, t < k → f (p + (i + t)) = sp_ch j (i + t)
  | 0, i, _, t, ht => by omega
  | k + 1, i, h, t, ht => by
    have h' : (decide (f (p + i) = sp_ch j i) && sp_eqs f p j (i + 1) k) = true := h
    rw [Bool.and_eq_true, decide_eq_true_eq] at h'
    cases t with
    | zero => exact h'.1
    | succ t =>
      have := sp_eqs_get k (i + 1) h'.2 t (by omega)
      rwa [show i + 1 + t = i + (t + 1) by omega] at this
theorem sp_spell_get {f : Nat → Int32} {p e j : Nat} (h : sp_spell f p e j = true) : p + rr_len.getD j 0 = e ∧ ∀ t, t < rr_len.getD j 0 → f (p + t) = sp_ch j t := by
  unfold sp_spell at h
  rw [Bool.and_eq_true, decide_eq_true_eq] at h
  refine ⟨h.1, fun t ht => ?_⟩
  have := sp_eqs_get _ 0 h.2 t ht
  rwa [Nat.zero_add] at this
theorem sp_one : ∀ i, i < 18 → ∀ j, j < 18 → rr_len.getD i 0 = rr_len.getD j 0 → (∀ t, t < 6 → t < rr_len.getD i 0 → sp_ch i t = sp_ch j t) → i = j := by decide +kernel
theorem sp_excl {f : Nat → Int32} {p e i j : Nat} (hi : i < 18) (hj : j < 18) (h1 : sp_spell f p e i = true) (h2 : sp_spell f p e j = true) : i = j := by
  obtain ⟨a1, a2⟩ := sp_spell_get h1
  obtain ⟨b1, b2⟩ := sp_spell_get h2
  have hl : rr_len.getD i 0 = rr_len.getD j 0 := by omega
  exact sp_one i hi j hj hl (fun t _ ht => (a2 t ht).symm.trans (b2 t (by omega)))
theorem kj_ne : ∀ j, j < 18 → kj j ≠ 0 ∧ kj j ≠ 1 ∧ kj j ≠ 9 := by decide +kernel
theorem kj_sg : ∀ j, j < 18 → 7 ≤ j → 9 < kj j := by decide +kernel
theorem kj_wd : ∀ j, j < 7 → kj j ≤ 8 := by decide +kernel
theorem ln_1 : ∀ j, j < 18 → 0 < rr_len.getD j 0 := by decide +kernel
theorem ch_sg : ∀ j, j < 18 → 7 ≤ j → sp_isL (sp_ch j 0) = false := by decide +kernel
theorem ch_wd : ∀ j, j < 7 → sp_isL (sp_ch j 0) = true := by decide +kernel
theorem sp_wk_of {f : Nat → Int32} {p e j : Nat} (hj : j < 7) (h : sp_spell f p e j = true) : sp_wk f p e = kj j := by
  have ex : ∀ i, i < 7 → i ≠ j → ¬ sp_spell f p e i = true := fun i hi hne hs => hne (sp_excl (by omega) (by omega) hs h)
  unfold sp_wk
  rcases (show j = 6 ∨ j = 0 ∨ j = 1 ∨ j = 2 ∨ j = 3 ∨ j = 4 ∨ j = 5 by omega) with rfl | rfl | rfl | rfl | rfl | rfl | rfl
  · rw [if_pos h]; rfl
  · rw [if_neg (ex 6 (by decide) (by decide)), if_pos h]; rfl
  · rw [if_neg (ex 6 (by decide) (by decide)), if_neg (ex 0 (by decide) (by decide)), if_pos h]; rfl
  · rw [if_neg (ex 6 (by decide) (by decide)), if_neg (ex 0 (by decide) (by decide)), if_neg (ex 1 (by decide) (by decide)), if_pos h]; rfl
  · rw [if_neg (ex 6 (by decide) (by decide)), if_neg (ex 0 (by decide) (by decide)), if_neg (ex 1 (by decide) (by decide)), if_neg (ex 2 (by decide) (by decide)), if_pos h]; rfl
  · rw [if_neg (ex 6 (by decide) (by decide)), if_neg (ex 0 (by decide) (by decide)), if_neg (ex 1 (by decide) (by decide)), if_neg (ex 2 (by decide) (by decide)), if_neg (ex 3 (by decide) (by decide)), if_pos h]; rfl
  · rw [if_neg (ex 6 (by decide) (by decide)), if_neg (ex 0 (by decide) (by decide)), if_neg (ex 1 (by decide) (by decide)), if_neg (ex 2 (by decide) (by decide)), if_neg (ex 3 (by decide) (by decide)), if_neg (ex 4 (by decide) (by decide)), if_pos h]; rfl
theorem sp_wk_inv {f : Nat → Int32} {p e j : Nat} (hj : j < 7) (h : sp_wk f p e = kj j) : sp_spell f p e j = true := by
  have kinj : ∀ a, a < 7 → ∀ b, b < 7 → kj a = kj b → a = b := by decide +kernel
  have k1 : ∀ a, a < 7 → 1 ≠ kj a := by decide +kernel
  have cs : sp_wk f p e = 1 ∨ ∃ i, i < 7 ∧ sp_wk f p e = kj i ∧ sp_spell f p e i = true := by
    by_cases b6 : sp_spell f p e 6 = true
    · exact Or.inr ⟨6, by decide, sp_wk_of (by decide) b6, b6⟩
    by_cases b0 : sp_spell f p e 0 = true
    · exact Or.inr ⟨0, by decide, sp_wk_of (by decide) b0, b0⟩
    by_cases b1 : sp_spell f p e 1 = true
    · exact Or.inr ⟨1, by decide, sp_wk_of (by decide) b1, b1⟩
    by_cases b2 : sp_spell f p e 2 = true
    · exact Or.inr ⟨2, by decide, sp_wk_of (by decide) b2, b2⟩
    by_cases b3 : sp_spell f p e 3 = true
    · exact Or.inr ⟨3, by decide, sp_wk_of (by decide) b3, b3⟩
    by_cases b4 : sp_spell f p e 4 = true
    · exact Or.inr ⟨4, by decide, sp_wk_of (by decide) b4, b4⟩
    by_cases b5 : sp_spell f p e 5 = true
    · exact Or.inr ⟨5, by decide, sp_wk_of (by decide) b5, b5⟩
    left
    unfold sp_wk
    rw [if_neg b6, if_neg b0, if_neg b1, if_neg b2, if_neg b3, if_neg b4, if_neg b5]
  rcases cs with c1 | ⟨i, hi, h1, h2⟩
  · exact absurd (c1.symm.trans h) (k1 j hj)
  · rw [← kinj i hi j hj (h1.symm.trans h)]
    exact h2
theorem sp_spell_1 {f : Nat → Int32} {p j : Nat} (hl : rr_len.getD j 0 = 1) : sp_spell f p (p + 1) j = decide (f p = sp_ch j 0) := by
  unfold sp_spell
  rw [hl]
  show (decide (p + 1 = p + 1) && (decide (f (p + 0) = sp_ch j 0) && true)) = _
  rw [decide_eq_true rfl, Bool.true_and, Bool.and_true, Nat.add_zero]
theorem sk_iff (x : Int32) : ∀ j, j < 18 → 7 ≤ j → j ≠ 16 → (sp_sk x = kj j ↔ x = sp_ch j 0) := by
  intro j h1 h2 h3
  rcases (show j = 7 ∨ j = 8 ∨ j = 9 ∨ j = 10 ∨ j = 11 ∨ j = 12 ∨ j = 13 ∨ j = 14 ∨ j = 15 ∨ j = 17 by omega) with rfl | rfl | rfl | rfl | rfl | rfl | rfl | rfl | rfl | rfl

  · show sp_sk x = 19 ↔ x = 40
    refine ⟨fun h => ?_, fun h => by rw [h]; decide⟩
    unfold sp_sk at h
    repeat' split at h
    all_goals first | assumption | exact absurd h (by decide)
  · show sp_sk x = 20 ↔ x = 41
    refine ⟨fun h => ?_, fun h => by rw [h]; decide⟩
    unfold sp_sk at h
    repeat' split at h
    all_goals first | assumption | exact absurd h (by decide)
  · show sp_sk x = 16 ↔ x = 42
    refine ⟨fun h => ?_, fun h => by rw [h]; decide⟩
    unfold sp_sk at h
    repeat' split at h
    all_goals first | assumption | exact absurd h (by decide)
  · show sp_sk x = 14 ↔ x = 43
    refine ⟨fun h => ?_, fun h => by rw [h]; decide⟩
    unfold sp_sk at h
    repeat' split at h
    all_goals first | assumption | exact absurd h (by decide)
  · show sp_sk x = 15 ↔ x = 45
    refine ⟨fun h => ?_, fun h => by rw [h]; decide⟩
    unfold sp_sk at h
    repeat' split at h
    all_goals first | assumption | exact absurd h (by decide)
  · show sp_sk x = 10 ↔ x = 61
    refine ⟨fun h => ?_, fun h => by rw [h]; decide⟩
    unfold sp_sk at h
    repeat' split at h
    all_goals first | assumption | exact absurd h (by decide)
  · show sp_sk x = 11 ↔ x = 35
    refine ⟨fun h => ?_, fun h => by rw [h]; decide⟩
    unfold sp_sk at h
    repeat' split at h
    all_goals first | assumption | exact absurd h (by decide)
  · show sp_sk x = 12 ↔ x = 60
    refine ⟨fun h => ?_, fun h => by rw [h]; decide⟩
    unfold sp_sk at h
    repeat' split at h
    all_goals first | assumption | exact absurd h (by decide)
  · show sp_sk x = 13 ↔ x = 62
    refine ⟨fun h => ?_, fun h => by rw [h]; decide⟩
    unfold sp_sk at h
    repeat' split at h
    all_goals first | assumption | exact absurd h (by decide)
  · show sp_sk x = 18 ↔ x = 44
    refine ⟨fun h => ?_, fun h => by rw [h]; decide⟩
    unfold sp_sk at h
    repeat' split at h
    all_goals first | assumption | exact absurd h (by decide)

theorem sp_sk_ge (x : Int32) : sp_sk x = 1 ∨ (10 ≤ sp_sk x ∧ sp_sk x ≠ 17) := by
  unfold sp_sk
  repeat' split
  all_goals decide
theorem mk_word : ∀ k, 2 ≤ k → k ≤ 8 → mk k = 1 := by
  intro k h1 h2
  unfold mk
  rw [if_neg (by omega), if_neg (by omega), if_pos h2]
theorem mk_sign : ∀ k, 10 ≤ k → mk k = 3 := by
  intro k h1
  unfold mk
  rw [if_neg (by omega), if_neg (by omega), if_neg (by omega), if_neg (by omega)]
theorem is_tok {f : Nat → Int32} {n p j : Nat} (hj : j < 18) : (decide (mk (sp_next f n p).1 = 1 ∨ mk (sp_next f n p).1 = 3) && sp_spell f (sp_next f n p).2.2.1 (sp_next f n p).2.2.2 j) = decide ((sp_next f n p).1 = kj j) := by
  obtain ⟨k0, k1, k9⟩ := kj_ne j hj
  unfold sp_next
  dsimp only
  generalize sp_run (fun x => decide (x = 32)) f p (n - p) = q
  by_cases hq : q < n
  · rw [if_pos hq]
    dsimp only
    unfold sp_tok
    by_cases hL : sp_isL (f q) = true
    · rw [if_pos hL]
      dsimp only
      generalize sp_run sp_isL f q (n - q) = e
      by_cases h7 : j < 7
      · by_cases hs : sp_spell f q e j = true
        · have hw := sp_wk_of h7 hs
          rw [hs, Bool.and_true, decide_eq_true hw, wk_some (by omega) hs]
          rfl
        · rw [(Bool.not_eq_true _).mp hs, Bool.and_false]
          exact (decide_eq_false (fun hw => hs (sp_wk_inv h7 hw))).symm
      · have hs : sp_spell f q e j = false := by
          rw [← Bool.not_eq_true]
          intro hs
          have := (sp_spell_get hs).2 0 (ln_1 j hj)
          rw [Nat.add_zero] at this
          rw [this, ch_sg j hj (by omega)] at hL
          cases hL
        rw [hs, Bool.and_false]
        refine (decide_eq_false (fun hw => ?_)).symm
        have h1 := kj_sg j hj (by omega)
        have h2 : sp_wk f q e ≤ 8 := by
          unfold sp_wk
          repeat' split
          all_goals decide
        omega
    · rw [if_neg hL]
      by_cases hD : sp_isD (f q) = true
      · rw [if_pos hD]
        split
        · show (decide (mk 9 = 1 ∨ mk 9 = 3) && _) = decide (9 = kj j)
          rw [show decide (mk 9 = 1 ∨ mk 9 = 3) = false from by decide, Bool.false_and]
          exact (decide_eq_false (fun hw => k9 hw.symm)).symm
        · show (decide (mk 1 = 1 ∨ mk 1 = 3) && _) = decide (1 = kj j)
          rw [show decide (mk 1 = 1 ∨ mk 1 = 3) = false from by decide, Bool.false_and]
          exact (decide_eq_false (fun hw => k1 hw.symm)).symm
      · rw [if_neg hD]
        by_cases hc : f q = 58 ∧ q + 1 < n ∧ f (q + 1) = 61
        · rw [if_pos hc]
          show (decide (mk 17 = 1 ∨ mk 17 = 3) && sp_spell f q (q + 2) j) = decide (17 = kj j)
          rw [show decide (mk 17 = 1 ∨ mk 17 = 3) = true from by decide, Bool.true_and]
          have h16 : sp_spell f q (q + 2) 16 = true := by
            unfold sp_spell
            show (decide (q + 2 = q + 2) && (decide (f q = 58) && (decide (f (q + 1) = 61) && true))) = true
            rw [decide_eq_true rfl, decide_eq_true hc.1, decide_eq_true hc.2.2]
            rfl
          have kinj : ∀ a, a < 18 → 17 = kj a → a = 16 := by decide +kernel
          by_cases hs : sp_spell f q (q + 2) j = true
          · rw [hs, ← sp_excl (by decide) hj h16 hs]
            rfl
          · rw [(Bool.not_eq_true _).mp hs]
            exact (decide_eq_false (fun hw => hs (by rw [kinj j hj hw]; exact h16))).symm
        · rw [if_neg hc]
          show (decide (mk (sp_sk (f q)) = 1 ∨ mk (sp_sk (f q)) = 3) && sp_spell f q (q + 1) j) = decide (sp_sk (f q) = kj j)
          rcases sp_sk_ge (f q) with hk | ⟨hk, hk17⟩
          · rw [hk, show decide (mk 1 = 1 ∨ mk 1 = 3) = false from by decide, Bool.false_and]
            exact (decide_eq_false (fun hw => k1 hw.symm)).symm
          · rw [mk_sign _ hk, show decide ((3 : Nat) = 1 ∨ (3 : Nat) = 3) = true from by decide, Bool.true_and]
            by_cases h7 : j < 7
            · have hs : sp_spell f q (q + 1) j = false := by
                rw [← Bool.not_eq_true]
                intro hs
                have := (sp_spell_get hs).2 0 (ln_1 j hj)
                rw [Nat.add_zero] at this
                rw [this] at hL
                exact hL (ch_wd j h7)
              rw [hs]
              refine (decide_eq_false (fun hw => ?_)).symm
              have := kj_wd j h7
              omega
            · by_cases h16 : j = 16
              · subst h16
                have hs : sp_spell f q (q + 1) 16 = false := by
                  rw [← Bool.not_eq_true]
                  intro hs
                  have := (sp_spell_get hs).1
                  rw [show rr_len.getD 16 0 = 2 from rfl] at this
                  omega
                rw [hs]
                exact (decide_eq_false (fun hw => hk17 hw)).symm
              · have l1 : ∀ a, a < 18 → 7 ≤ a → a ≠ 16 → rr_len.getD a 0 = 1 := by decide +kernel
                rw [sp_spell_1 (l1 j hj (by omega) h16)]
                have := sk_iff (f q) j hj (by omega) h16
                by_cases hx : f q = sp_ch j 0
                · rw [decide_eq_true hx, decide_eq_true (this.mpr hx)]
                · rw [decide_eq_false hx, decide_eq_false (fun z => hx (this.mp z))]
  · rw [if_neg hq]
    show (decide (mk 0 = 1 ∨ mk 0 = 3) && _) = decide (0 = kj j)
    rw [show decide (mk 0 = 1 ∨ mk 0 = 3) = false from by decide, Bool.false_and]
    exact (decide_eq_false (fun hw => k0 hw.symm)).symm
theorem mk_le (k : Nat) : mk k ≤ 4 := by
  unfold mk
  repeat' split
  all_goals decide
theorem sp_next_ord {f : Nat → Int32} {n p : Nat} : (sp_next f n p).2.2.1 ≤ (sp_next f n p).2.2.2 ∧ (sp_next f n p).2.2.2 ≤ n := by
  unfold sp_next
  dsimp only
  split
  · rename_i h
    have := sp_tok_end (f := f) h
    exact ⟨Nat.le_of_lt this.1, this.2⟩
  · exact ⟨Nat.le_refl _, Nat.le_refl _⟩

set_option maxRecDepth 100000 in
set_option maxHeartbeats 4000000 in
theorem t_is {x0 x1 x2 x3 x4 x5 x6 x7 x8 x9 x10 x11 x12 x13 x14 x15 x16 x17 x18 x19 x20 x21 x22 x23 : va_E} {g : rr_H} {tm ru fa pa my pcv : Int32} {lt : Value} {nu : Int64} {f : Nat → Int32} {n t : Nat} (j : Nat) (hj : j < 18) (hn : n ≤ 400) : rr_Spec 4 y_Mo_is c_Mo_is 3 (some .boolean) 0 0 [.ref 24, .ref (rr_K0 + j)] (x0 :: x1 :: x2 :: x3 :: x4 :: x5 :: x6 :: x7 :: x8 :: x9 :: x10 :: x11 :: x12 :: x13 :: x14 :: x15 :: x16 :: x17 :: x18 :: x19 :: x20 :: x21 :: x22 :: x23 :: .inr (6, [.ref 25, .int tm, lt, .ref 26, .int ru, .int (nI (sp_T f n t).2.2.2), .int (nI n), .int (nI (mk (sp_T f n t).1)), .int (nI (sp_T f n t).2.2.1), .int (nI (sp_T f n t).2.2.2), .int fa, .int pa, .long nu, .ref 27, .int my, .ref 28, .ref 29, .ref 30, .ref 31, .int pcv]) :: .inl (1, 400, .inl f) :: g) (fun r h1 => r = some (.int (sp_b (decide (sp_K f n t = kj j)))) ∧ h1 = x0 :: x1 :: x2 :: x3 :: x4 :: x5 :: x6 :: x7 :: x8 :: x9 :: x10 :: x11 :: x12 :: x13 :: x14 :: x15 :: x16 :: x17 :: x18 :: x19 :: x20 :: x21 :: x22 :: x23 :: .inr (6, [.ref 25, .int tm, lt, .ref 26, .int ru, .int (nI (sp_T f n t).2.2.2), .int (nI n), .int (nI (mk (sp_T f n t).1)), .int (nI (sp_T f n t).2.2.1), .int (nI (sp_T f n t).2.2.2), .int fa, .int pa, .long nu, .ref 27, .int my, .ref 28, .ref 29, .ref 30, .ref 31, .int pcv]) :: .inl (1, 400, .inl f) :: g) := by
  have ho := sp_next_ord (f := f) (n := n) (p := sp_pos f n t)
  have := s_Mo_is (x0 := x0) (x1 := x1) (x2 := x2) (x3 := x3) (x4 := x4) (x5 := x5) (x6 := x6) (x7 := x7) (x8 := x8) (x9 := x9) (x10 := x10) (x11 := x11) (x12 := x12) (x13 := x13) (x14 := x14) (x15 := x15) (x16 := x16) (x17 := x17) (x18 := x18) (x19 := x19) (x20 := x20) (x21 := x21) (x22 := x22) (x23 := x23) (g := g) (tm := tm) (ru := ru) (fa := fa) (pa := pa) (my := my) (pcv := pcv) (lt := lt) (nu := nu) (f := f) (at0 := nI (sp_T f n t).2.2.2) (sz := nI n) (kd := mk (sp_T f n t).1) (p := (sp_T f n t).2.2.1) (e := (sp_T f n t).2.2.2) (j := j) hj (mk_le _) ho.1 (by have := ho.2; show (sp_next f n (sp_pos f n t)).2.2.2 ≤ 400; omega)
  rw [show (decide (mk (sp_T f n t).1 = 1 ∨ mk (sp_T f n t).1 = 3) && sp_spell f (sp_T f n t).2.2.1 (sp_T f n t).2.2.2 j) = decide (sp_K f n t = kj j) from is_tok hj] at this
  exact this

set_option maxRecDepth 100000 in
set_option maxHeartbeats 4000000 in
theorem t_step {x0 x1 x2 x3 x4 x5 x6 x7 x8 x9 x10 x11 x12 x13 x14 x15 x16 x17 x18 x19 x20 x21 x22 x23 : va_E} {g : rr_H} {tm ru fa pa my pcv : Int32} {lt : Value} {nu : Int64} {f : Nat → Int32} {n t : Nat} (hn : n ≤ 400) : rr_Spec 5 y_Mo_step c_Mo_step 3 none 0 0 [.ref 24] (x0 :: x1 :: x2 :: x3 :: x4 :: x5 :: x6 :: x7 :: x8 :: x9 :: x10 :: x11 :: x12 :: x13 :: x14 :: x15 :: x16 :: x17 :: x18 :: x19 :: x20 :: x21 :: x22 :: x23 :: .inr (6, [.ref 25, .int tm, lt, .ref 26, .int ru, .int (nI (sp_T f n t).2.2.2), .int (nI n), .int (nI (mk (sp_T f n t).1)), .int (nI (sp_T f n t).2.2.1), .int (nI (sp_T f n t).2.2.2), .int fa, .int pa, .long nu, .ref 27, .int my, .ref 28, .ref 29, .ref 30, .ref 31, .int pcv]) :: .inl (1, 400, .inl f) :: g) (fun r h1 => r = none ∧ ∃ nu2 : Int64, (sp_K f n (t + 1) = 9 → nu2 = (sp_V f n (t + 1)).toInt64) ∧ h1 = x0 :: x1 :: x2 :: x3 :: x4 :: x5 :: x6 :: x7 :: x8 :: x9 :: x10 :: x11 :: x12 :: x13 :: x14 :: x15 :: x16 :: x17 :: x18 :: x19 :: x20 :: x21 :: x22 :: x23 :: .inr (6, [.ref 25, .int tm, lt, .ref 26, .int ru, .int (nI (sp_T f n (t + 1)).2.2.2), .int (nI n), .int (nI (mk (sp_T f n (t + 1)).1)), .int (nI (sp_T f n (t + 1)).2.2.1), .int (nI (sp_T f n (t + 1)).2.2.2), .int fa, .int pa, .long nu2, .ref 27, .int my, .ref 28, .ref 29, .ref 30, .ref 31, .int pcv]) :: .inl (1, 400, .inl f) :: g) := s_Mo_step (p := (sp_T f n t).2.2.2) hn (sp_next_ord (f := f) (n := n) (p := sp_pos f n t)).2

set_option maxRecDepth 100000 in
set_option maxHeartbeats 4000000 in
theorem t_first {x0 x1 x2 x3 x4 x5 x6 x7 x8 x9 x10 x11 x12 x13 x14 x15 x16 x17 x18 x19 x20 x21 x22 x23 : va_E} {g : rr_H} {tm ru fa pa my pcv kd0 fr0 to0 : Int32} {lt : Value} {nu : Int64} {f : Nat → Int32} {n : Nat} (hn : n ≤ 400) : rr_Spec 5 y_Mo_step c_Mo_step 3 none 0 0 [.ref 24] (x0 :: x1 :: x2 :: x3 :: x4 :: x5 :: x6 :: x7 :: x8 :: x9 :: x10 :: x11 :: x12 :: x13 :: x14 :: x15 :: x16 :: x17 :: x18 :: x19 :: x20 :: x21 :: x22 :: x23 :: .inr (6, [.ref 25, .int tm, lt, .ref 26, .int ru, .int 0, .int (nI n), .int kd0, .int fr0, .int to0, .int fa, .int pa, .long nu, .ref 27, .int my, .ref 28, .ref 29, .ref 30, .ref 31, .int pcv]) :: .inl (1, 400, .inl f) :: g) (fun r h1 => r = none ∧ ∃ nu2 : Int64, (sp_K f n 0 = 9 → nu2 = (sp_V f n 0).toInt64) ∧ h1 = x0 :: x1 :: x2 :: x3 :: x4 :: x5 :: x6 :: x7 :: x8 :: x9 :: x10 :: x11 :: x12 :: x13 :: x14 :: x15 :: x16 :: x17 :: x18 :: x19 :: x20 :: x21 :: x22 :: x23 :: .inr (6, [.ref 25, .int tm, lt, .ref 26, .int ru, .int (nI (sp_T f n 0).2.2.2), .int (nI n), .int (nI (mk (sp_T f n 0).1)), .int (nI (sp_T f n 0).2.2.1), .int (nI (sp_T f n 0).2.2.2), .int fa, .int pa, .long nu2, .ref 27, .int my, .ref 28, .ref 29, .ref 30, .ref 31, .int pcv]) :: .inl (1, 400, .inl f) :: g) := s_Mo_step (p := 0) hn (Nat.zero_le _)

set_option maxRecDepth 100000 in
set_option maxHeartbeats 4000000 in
theorem t_bad {x0 x1 x2 x3 x4 x5 x6 x7 x8 x9 x10 x11 x12 x13 x14 x15 x16 x17 x18 x19 x20 x21 x22 x23 : va_E} {g : rr_H} {tm ru pa my pcv : Int32} {lt : Value} {nu : Int64} {f : Nat → Int32} {n t : Nat} : rr_Spec 0 y_Mo_bad c_Mo_bad 1 (some .boolean) 0 0 [.ref 24] (x0 :: x1 :: x2 :: x3 :: x4 :: x5 :: x6 :: x7 :: x8 :: x9 :: x10 :: x11 :: x12 :: x13 :: x14 :: x15 :: x16 :: x17 :: x18 :: x19 :: x20 :: x21 :: x22 :: x23 :: .inr (6, [.ref 25, .int tm, lt, .ref 26, .int ru, .int (nI (sp_T f n t).2.2.2), .int (nI n), .int (nI (mk (sp_T f n t).1)), .int (nI (sp_T f n t).2.2.1), .int (nI (sp_T f n t).2.2.2), .int (-1), .int pa, .long nu, .ref 27, .int my, .ref 28, .ref 29, .ref 30, .ref 31, .int pcv]) :: .inl (1, 400, .inl f) :: g) (fun r h1 => r = some (.int 0) ∧ h1 = x0 :: x1 :: x2 :: x3 :: x4 :: x5 :: x6 :: x7 :: x8 :: x9 :: x10 :: x11 :: x12 :: x13 :: x14 :: x15 :: x16 :: x17 :: x18 :: x19 :: x20 :: x21 :: x22 :: x23 :: .inr (6, [.ref 25, .int tm, lt, .ref 26, .int ru, .int (nI (sp_T f n t).2.2.2), .int (nI n), .int (nI (mk (sp_T f n t).1)), .int (nI (sp_T f n t).2.2.1), .int (nI (sp_T f n t).2.2.2), .int (nI (sp_T f n t).2.2.1), .int pa, .long nu, .ref 27, .int my, .ref 28, .ref 29, .ref 30, .ref 31, .int pcv]) :: .inl (1, 400, .inl f) :: g) := s_Mo_bad
