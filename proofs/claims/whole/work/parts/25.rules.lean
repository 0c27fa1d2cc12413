/-! Rules. -/
abbrev sp_I : Type := List (Nat × Int32)
abbrev sp_C : Type := sp_I × sp_I × Nat
abbrev sp_F : Type := Int32 × sp_I
abbrev sp_U : Type := List sp_C × List sp_F
def fl_c (c : sp_C) : sp_I := c.1 ++ c.2.1 ++ [(c.2.2, 0)]
def fl_f (e : sp_F) : sp_I := e.2 ++ [(17, e.1)]
def fl_u (u : sp_U) : sp_I := u.1.flatMap fl_c ++ u.2.flatMap fl_f
def sp_cs (k : Nat) : Bool := k == 10 || k == 11 || k == 12 || k == 13
def sp_cmp (K : Nat → Nat) (V : Nat → Int32) (a p : Nat) : Bool × Nat × Nat × sp_C :=
  if (sp_sum K V 6 a p).1 = true then
    (if sp_cs (K (sp_sum K V 6 a p).2.1) = true then
      ((sp_sum K V 6 ((sp_sum K V 6 a p).2.1 + 1) (sp_sum K V 6 a p).2.2.1).1, (sp_sum K V 6 ((sp_sum K V 6 a p).2.1 + 1) (sp_sum K V 6 a p).2.2.1).2.1, (sp_sum K V 6 ((sp_sum K V 6 a p).2.1 + 1) (sp_sum K V 6 a p).2.2.1).2.2.1, ((sp_sum K V 6 a p).2.2.2, (sp_sum K V 6 ((sp_sum K V 6 a p).2.1 + 1) (sp_sum K V 6 a p).2.2.1).2.2.2, K (sp_sum K V 6 a p).2.1))
    else (false, (sp_sum K V 6 a p).2.1, (sp_sum K V 6 a p).2.2.1, ([], [], 0)))
  else (false, (sp_sum K V 6 a p).2.1, (sp_sum K V 6 a p).2.2.1, ([], [], 0))
def sp_test (K : Nat → Nat) (V : Nat → Int32) : Nat → Nat → Nat → List sp_C → Bool × Nat × Nat × List sp_C
  | 0, a, p, ts => (false, a, p, ts)
  | n + 1, a, p, ts => if (sp_cmp K V a p).1 = true then
      (if K (sp_cmp K V a p).2.1 = 5 then sp_test K V n ((sp_cmp K V a p).2.1 + 1) (sp_cmp K V a p).2.2.1 (ts ++ [(sp_cmp K V a p).2.2.2])
      else if K (sp_cmp K V a p).2.1 = 3 then (true, (sp_cmp K V a p).2.1 + 1, (sp_cmp K V a p).2.2.1, ts ++ [(sp_cmp K V a p).2.2.2])
      else (false, (sp_cmp K V a p).2.1, (sp_cmp K V a p).2.2.1, ts))
    else (false, (sp_cmp K V a p).2.1, (sp_cmp K V a p).2.2.1, ts)
def sp_eff (K : Nat → Nat) (V : Nat → Int32) (a p : Nat) : Bool × Nat × Nat × sp_F :=
  if K a = 8 then (if K (a + 1) = 9 ∧ V (a + 1) < 32 then (if K (a + 2) = 17 then ((sp_sum K V 6 (a + 3) p).1, (sp_sum K V 6 (a + 3) p).2.1, (sp_sum K V 6 (a + 3) p).2.2.1, (V (a + 1), (sp_sum K V 6 (a + 3) p).2.2.2))
    else (false, a + 2, p, (0, []))) else (false, a + 1, p, (0, []))) else (false, a, p, (0, []))
def sp_effs (K : Nat → Nat) (V : Nat → Int32) : Nat → Nat → Nat → List sp_F → Bool × Nat × Nat × List sp_F
  | 0, a, p, es => (false, a, p, es)
  | n + 1, a, p, es => if (sp_eff K V a p).1 = true then
      (if K (sp_eff K V a p).2.1 = 18 then sp_effs K V n ((sp_eff K V a p).2.1 + 1) (sp_eff K V a p).2.2.1 (es ++ [(sp_eff K V a p).2.2.2])
      else (true, (sp_eff K V a p).2.1, (sp_eff K V a p).2.2.1, es ++ [(sp_eff K V a p).2.2.2]))
    else (false, (sp_eff K V a p).2.1, (sp_eff K V a p).2.2.1, es)
def sp_rule (K : Nat → Nat) (V : Nat → Int32) (a p : Nat) : Bool × Nat × Nat × sp_U :=
  if K a = 2 then
    (if (sp_test K V 80 (a + 1) p []).1 = true then ((sp_effs K V 8 (sp_test K V 80 (a + 1) p []).2.1 (sp_test K V 80 (a + 1) p []).2.2.1 []).1, (sp_effs K V 8 (sp_test K V 80 (a + 1) p []).2.1 (sp_test K V 80 (a + 1) p []).2.2.1 []).2.1, (sp_effs K V 8 (sp_test K V 80 (a + 1) p []).2.1 (sp_test K V 80 (a + 1) p []).2.2.1 []).2.2.1, ((sp_test K V 80 (a + 1) p []).2.2.2, (sp_effs K V 8 (sp_test K V 80 (a + 1) p []).2.1 (sp_test K V 80 (a + 1) p []).2.2.1 []).2.2.2))
    else (false, (sp_test K V 80 (a + 1) p []).2.1, (sp_test K V 80 (a + 1) p []).2.2.1, ([], [])))
  else ((sp_effs K V 8 a p []).1, (sp_effs K V 8 a p []).2.1, (sp_effs K V 8 a p []).2.2.1, ([], (sp_effs K V 8 a p []).2.2.2))
def sp_prog (K : Nat → Nat) (V : Nat → Int32) : Nat → Nat → Nat → List sp_U → Bool × Nat × List sp_U
  | 0, a, _, us => (false, a, us)
  | n + 1, a, p, us => if (sp_rule K V a p).1 = true then
      (if K (sp_rule K V a p).2.1 = 0 then (true, (sp_rule K V a p).2.1, us ++ [(sp_rule K V a p).2.2.2])
      else if K (sp_rule K V a p).2.1 = 4 then sp_prog K V n ((sp_rule K V a p).2.1 + 1) (sp_rule K V a p).2.2.1 (us ++ [(sp_rule K V a p).2.2.2])
      else (false, (sp_rule K V a p).2.1, us))
    else (false, (sp_rule K V a p).2.1, us)
/-- sound, with its steps flattened by fl, at most e beyond twice the parts -/
theorem sp_snd_cmp {K : Nat → Nat} {V : Nat → Int32} {M : Nat} (h0 : K M = 0) {a p : Nat} (ha : a ≤ M) (hp : p ≤ 80) : (sp_cmp K V a p).2.1 ≤ M ∧ ((sp_cmp K V a p).1 = true → p < (sp_cmp K V a p).2.2.1 ∧ (sp_cmp K V a p).2.2.1 ≤ 80 ∧ (fl_c (sp_cmp K V a p).2.2.2).length + 1 = 2 * ((sp_cmp K V a p).2.2.1 - p)) := by
  obtain ⟨i1, i2⟩ := sp_snd_s (V := V) h0 6 a p ha hp
  unfold sp_cmp
  by_cases h : (sp_sum K V 6 a p).1 = true
  · rw [if_pos h]
    obtain ⟨j1, j2, j3⟩ := i2 h
    by_cases hs : sp_cs (K (sp_sum K V 6 a p).2.1) = true
    · rw [if_pos hs]
      have hl : (sp_sum K V 6 a p).2.1 < M := by
        rcases Nat.lt_or_ge (sp_sum K V 6 a p).2.1 M with q | q
        · exact q
        · rw [show (sp_sum K V 6 a p).2.1 = M by omega, h0] at hs
          cases hs
      obtain ⟨k1, k2⟩ := sp_snd_s (V := V) h0 6 ((sp_sum K V 6 a p).2.1 + 1) (sp_sum K V 6 a p).2.2.1 hl j2
      refine ⟨k1, fun q => ?_⟩
      obtain ⟨l1, l2, l3⟩ := k2 q
      refine ⟨by show p < (sp_sum K V 6 ((sp_sum K V 6 a p).2.1 + 1) (sp_sum K V 6 a p).2.2.1).2.2.1; omega, l2, ?_⟩
      unfold fl_c
      simp only [List.length_append, List.length_cons, List.length_nil]
      omega
    · rw [if_neg hs]
      exact ⟨i1, fun q => by cases q⟩
  · rw [if_neg h]
    exact ⟨i1, fun q => by cases q⟩
theorem sp_snd_eff {K : Nat → Nat} {V : Nat → Int32} {M : Nat} (h0 : K M = 0) {a p : Nat} (ha : a ≤ M) (hp : p ≤ 80) : (sp_eff K V a p).2.1 ≤ M ∧ ((sp_eff K V a p).1 = true → p < (sp_eff K V a p).2.2.1 ∧ (sp_eff K V a p).2.2.1 ≤ 80 ∧ (fl_f (sp_eff K V a p).2.2.2).length = 2 * ((sp_eff K V a p).2.2.1 - p)) := by
  unfold sp_eff
  by_cases k8 : K a = 8
  · rw [if_pos k8]
    have l8 := sp_lt h0 ha k8 (by decide)
    by_cases k9 : K (a + 1) = 9 ∧ V (a + 1) < 32
    · rw [if_pos k9]
      have l9 := sp_lt h0 l8 k9.1 (by decide)
      by_cases k17 : K (a + 2) = 17
      · rw [if_pos k17]
        have l17 := sp_lt h0 l9 k17 (by decide)
        obtain ⟨i1, i2⟩ := sp_snd_s (V := V) h0 6 (a + 3) p l17 hp
        refine ⟨i1, fun q => ?_⟩
        obtain ⟨l1, l2, l3⟩ := i2 q
        refine ⟨l1, l2, ?_⟩
        unfold fl_f
        simp only [List.length_append, List.length_cons, List.length_nil]
        omega
      · rw [if_neg k17]
        exact ⟨l9, fun q => by cases q⟩
    · rw [if_neg k9]
      exact ⟨l8, fun q => by cases q⟩
  · rw [if_neg k8]
    exact ⟨ha, fun q => by cases q⟩
theorem sp_snd_test {K : Nat → Nat} {V : Nat → Int32} {M : Nat} (h0 : K M = 0) (p0 : Nat) : ∀ (n a p : Nat) (ts : List sp_C), a ≤ M → p ≤ 80 → p0 ≤ p → (ts.flatMap fl_c).length ≤ 2 * (p - p0) → (sp_test K V n a p ts).2.1 ≤ M ∧ ((sp_test K V n a p ts).1 = true → p ≤ (sp_test K V n a p ts).2.2.1 ∧ (sp_test K V n a p ts).2.2.1 ≤ 80 ∧ ((sp_test K V n a p ts).2.2.2.flatMap fl_c).length ≤ 2 * ((sp_test K V n a p ts).2.2.1 - p0)) := by
  intro n
  induction n with
  | zero =>
    intro a p ts ha hp hp0 hL
    exact ⟨ha, fun q => by cases q⟩
  | succ n ih =>
    intro a p ts ha hp hp0 hL
    obtain ⟨i1, i2⟩ := sp_snd_cmp (V := V) h0 ha hp
    unfold sp_test
    by_cases h : (sp_cmp K V a p).1 = true
    · rw [if_pos h]
      obtain ⟨j1, j2, j3⟩ := i2 h
      have hLn : ((ts ++ [(sp_cmp K V a p).2.2.2]).flatMap fl_c).length ≤ 2 * ((sp_cmp K V a p).2.2.1 - p0) := by
        rw [List.flatMap_append, List.length_append]
        simp only [List.flatMap_cons, List.flatMap_nil, List.append_nil]
        omega
      by_cases k5 : K (sp_cmp K V a p).2.1 = 5
      · rw [if_pos k5]
        have l5 := sp_lt h0 i1 k5 (by decide)
        obtain ⟨g1, g2⟩ := ih ((sp_cmp K V a p).2.1 + 1) (sp_cmp K V a p).2.2.1 (ts ++ [(sp_cmp K V a p).2.2.2]) l5 j2 (by omega) hLn
        exact ⟨g1, fun q => ⟨by have := (g2 q).1; omega, (g2 q).2⟩⟩
      · rw [if_neg k5]
        by_cases k3 : K (sp_cmp K V a p).2.1 = 3
        · rw [if_pos k3]
          exact ⟨sp_lt h0 i1 k3 (by decide), fun _ => ⟨by show p ≤ (sp_cmp K V a p).2.2.1; omega, j2, hLn⟩⟩
        · rw [if_neg k3]
          exact ⟨i1, fun q => by cases q⟩
    · rw [if_neg h]
      exact ⟨i1, fun q => by cases q⟩
theorem sp_snd_effs {K : Nat → Nat} {V : Nat → Int32} {M : Nat} (h0 : K M = 0) (p0 b : Nat) : ∀ (n a p : Nat) (es : List sp_F), a ≤ M → p ≤ 80 → p0 ≤ p → b + (es.flatMap fl_f).length ≤ 2 * (p - p0) → (sp_effs K V n a p es).2.1 ≤ M ∧ ((sp_effs K V n a p es).1 = true → p ≤ (sp_effs K V n a p es).2.2.1 ∧ (sp_effs K V n a p es).2.2.1 ≤ 80 ∧ b + ((sp_effs K V n a p es).2.2.2.flatMap fl_f).length ≤ 2 * ((sp_effs K V n a p es).2.2.1 - p0)) := by
  intro n
  induction n with
  | zero =>
    intro a p es ha hp hp0 hL
    exact ⟨ha, fun q => by cases q⟩
  | succ n ih =>
    intro a p es ha hp hp0 hL
    obtain ⟨i1, i2⟩ := sp_snd_eff (V := V) h0 ha hp
    unfold sp_effs
    by_cases h : (sp_eff K V a p).1 = true
    · rw [if_pos h]
      obtain ⟨j1, j2, j3⟩ := i2 h
      have hLn : b + ((es ++ [(sp_eff K V a p).2.2.2]).flatMap fl_f).length ≤ 2 * ((sp_eff K V a p).2.2.1 - p0) := by
        rw [List.flatMap_append, List.length_append]
        simp only [List.flatMap_cons, List.flatMap_nil, List.append_nil]
        omega
      by_cases k5 : K (sp_eff K V a p).2.1 = 18
      · rw [if_pos k5]
        have l5 := sp_lt h0 i1 k5 (by decide)
        obtain ⟨g1, g2⟩ := ih ((sp_eff K V a p).2.1 + 1) (sp_eff K V a p).2.2.1 (es ++ [(sp_eff K V a p).2.2.2]) l5 j2 (by omega) hLn
        exact ⟨g1, fun q => ⟨by have := (g2 q).1; omega, (g2 q).2⟩⟩
      · rw [if_neg k5]
        exact ⟨i1, fun _ => ⟨by show p ≤ (sp_eff K V a p).2.2.1; omega, j2, hLn⟩⟩
    · rw [if_neg h]
      exact ⟨i1, fun q => by cases q⟩
theorem sp_snd_rule {K : Nat → Nat} {V : Nat → Int32} {M : Nat} (h0 : K M = 0) {a p : Nat} (ha : a ≤ M) (hp : p ≤ 80) : (sp_rule K V a p).2.1 ≤ M ∧ ((sp_rule K V a p).1 = true → p ≤ (sp_rule K V a p).2.2.1 ∧ (sp_rule K V a p).2.2.1 ≤ 80 ∧ (fl_u (sp_rule K V a p).2.2.2).length ≤ 2 * ((sp_rule K V a p).2.2.1 - p)) := by
  unfold sp_rule
  by_cases k2 : K a = 2
  · rw [if_pos k2]
    have l2 := sp_lt h0 ha k2 (by decide)
    obtain ⟨i1, i2⟩ := sp_snd_test (V := V) h0 p 80 (a + 1) p [] l2 hp (Nat.le_refl _) (Nat.zero_le _)
    by_cases h : (sp_test K V 80 (a + 1) p []).1 = true
    · rw [if_pos h]
      obtain ⟨j1, j2, j3⟩ := i2 h
      obtain ⟨k1, k2⟩ := sp_snd_effs (V := V) h0 p ((sp_test K V 80 (a + 1) p []).2.2.2.flatMap fl_c).length 8 _ _ [] i1 j2 j1 j3
      refine ⟨k1, fun q => ?_⟩
      obtain ⟨l1, l2, l3⟩ := k2 q
      refine ⟨by dsimp only; omega, l2, ?_⟩
      unfold fl_u
      rw [List.length_append]
      exact l3
    · rw [if_neg h]
      exact ⟨i1, fun q => by cases q⟩
  · rw [if_neg k2]
    obtain ⟨k1, k2⟩ := sp_snd_effs (V := V) h0 p 0 8 a p [] ha hp (Nat.le_refl _) (by simp)
    refine ⟨k1, fun q => ?_⟩
    obtain ⟨l1, l2, l3⟩ := k2 q
    refine ⟨l1, l2, ?_⟩
    unfold fl_u
    rw [List.length_append]
    exact l3
