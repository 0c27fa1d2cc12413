/-! Reading: what both programs compute. -/
abbrev sp_R : Type := Bool × Nat × Nat × List (Nat × Int32)
def sp_partOf (K : Nat → Nat) (V : Nat → Int32) (S : Option (Nat → Nat → sp_R)) (a p : Nat) : sp_R :=
  if K a = 19 then (match S with
    | none => (false, a, p, [])
    | some F => if (F (a + 1) p).1 = true then (if K (F (a + 1) p).2.1 = 20 then (true, (F (a + 1) p).2.1 + 1, (F (a + 1) p).2.2) else (false, (F (a + 1) p).2.1, (F (a + 1) p).2.2)) else F (a + 1) p)
  else if 80 ≤ p then (false, a, p, [])
  else if K a = 8 then (if K (a + 1) = 9 ∧ V (a + 1) < 32 then (true, a + 2, p + 1, [(8, V (a + 1))]) else (false, a + 1, p + 1, []))
  else if K a = 9 ∨ K a = 6 ∨ K a = 7 then (true, a + 1, p + 1, [(K a, V a)]) else (false, a, p + 1, [])
/-- more of them, with a sign between; o: what was put so far -/
def sp_tl (K : Nat → Nat) (sg : Nat → Bool) (G : Nat → Nat → sp_R) : Nat → Nat → Nat → List (Nat × Int32) → sp_R
  | 0, a, p, o => (false, a, p, o)
  | n + 1, a, p, o => if sg (K a) = true then (if (G (a + 1) p).1 = true then sp_tl K sg G n (G (a + 1) p).2.1 (G (a + 1) p).2.2.1 (o ++ (G (a + 1) p).2.2.2 ++ [(K a, 0)]) else (false, (G (a + 1) p).2.1, (G (a + 1) p).2.2.1, o)) else (true, a, p, o)
def sp_lp (K : Nat → Nat) (sg : Nat → Bool) (G : Nat → Nat → sp_R) (a p : Nat) : sp_R := if (G a p).1 = true then sp_tl K sg G 80 (G a p).2.1 (G a p).2.2.1 (G a p).2.2.2 else G a p
def sp_s1 (k : Nat) : Bool := k == 16
def sp_s2 (k : Nat) : Bool := k == 14 || k == 15
def sp_in (K : Nat → Nat) (V : Nat → Int32) : Nat → Option (Nat → Nat → sp_R)
  | 0 => none
  | d + 1 => some (sp_lp K sp_s2 (sp_lp K sp_s1 (sp_partOf K V (sp_in K V d))))
def sp_part (K : Nat → Nat) (V : Nat → Int32) (d : Nat) : Nat → Nat → sp_R := sp_partOf K V (sp_in K V d)
def sp_term (K : Nat → Nat) (V : Nat → Int32) (d : Nat) : Nat → Nat → sp_R := sp_lp K sp_s1 (sp_part K V d)
def sp_sum (K : Nat → Nat) (V : Nat → Int32) (d : Nat) : Nat → Nat → sp_R := sp_lp K sp_s2 (sp_term K V d)
/-- a reader is sound: it stays at or before M; it counts its parts; twice as many steps, less one -/
def sp_snd (M : Nat) (G : Nat → Nat → sp_R) : Prop := ∀ a p, a ≤ M → p ≤ 80 → (G a p).2.1 ≤ M ∧ ((G a p).1 = true → p < (G a p).2.2.1 ∧ (G a p).2.2.1 ≤ 80 ∧ (G a p).2.2.2.length + 1 = 2 * ((G a p).2.2.1 - p))
theorem sp_lt {K : Nat → Nat} {M a k : Nat} (h0 : K M = 0) (ha : a ≤ M) (hk : K a = k) (hne : k ≠ 0) : a < M := by
  rcases Nat.lt_or_ge a M with h | h
  · exact h
  · obtain rfl : a = M := by omega
    exact absurd (hk.symm.trans h0) hne
theorem sp_snd_part {K : Nat → Nat} {V : Nat → Int32} {M : Nat} (h0 : K M = 0) {S : Option (Nat → Nat → sp_R)} (hS : ∀ F, S = some F → sp_snd M F) : sp_snd M (sp_partOf K V S) := by
  intro a p ha hp
  unfold sp_partOf
  by_cases k19 : K a = 19
  · rw [if_pos k19]
    have hl := sp_lt h0 ha k19 (by decide)
    cases S with
    | none => exact ⟨ha, fun h => by cases h⟩
    | some F =>
      dsimp only
      obtain ⟨i1, i2⟩ := hS F rfl (a + 1) p hl hp
      by_cases ho : (F (a + 1) p).1 = true
      · rw [if_pos ho]
        by_cases k20 : K (F (a + 1) p).2.1 = 20
        · rw [if_pos k20]
          exact ⟨sp_lt h0 i1 k20 (by decide), fun _ => i2 ho⟩
        · rw [if_neg k20]
          exact ⟨i1, fun h => by cases h⟩
      · rw [if_neg ho]
        exact ⟨i1, fun h => absurd h ho⟩
  · rw [if_neg k19]
    by_cases h80 : 80 ≤ p
    · rw [if_pos h80]
      exact ⟨ha, fun h => by cases h⟩
    · rw [if_neg h80]
      by_cases k8 : K a = 8
      · rw [if_pos k8]
        have hl := sp_lt h0 ha k8 (by decide)
        by_cases k9 : K (a + 1) = 9 ∧ V (a + 1) < 32
        · rw [if_pos k9]
          have hl2 := sp_lt h0 hl k9.1 (by decide)
          exact ⟨hl2, fun _ => ⟨by show p < p + 1; omega, by show p + 1 ≤ 80; omega, by show 1 + 1 = 2 * (p + 1 - p); omega⟩⟩
        · rw [if_neg k9]
          exact ⟨hl, fun h => by cases h⟩
      · rw [if_neg k8]
        by_cases k9 : K a = 9 ∨ K a = 6 ∨ K a = 7
        · rw [if_pos k9]
          have hl : a < M := by
            rcases k9 with h | h | h <;> exact sp_lt h0 ha h (by decide)
          exact ⟨hl, fun _ => ⟨by show p < p + 1; omega, by show p + 1 ≤ 80; omega, by show 1 + 1 = 2 * (p + 1 - p); omega⟩⟩
        · rw [if_neg k9]
          exact ⟨ha, fun h => by cases h⟩
theorem sp_snd_tl {K : Nat → Nat} {M : Nat} (h0 : K M = 0) {sg : Nat → Bool} (hsg : sg 0 = false) {G : Nat → Nat → sp_R} (hG : sp_snd M G) (p0 : Nat) : ∀ (n a p : Nat) (o : List (Nat × Int32)), a ≤ M → p ≤ 80 → p0 < p → o.length + 1 = 2 * (p - p0) → (sp_tl K sg G n a p o).2.1 ≤ M ∧ ((sp_tl K sg G n a p o).1 = true → p ≤ (sp_tl K sg G n a p o).2.2.1 ∧ (sp_tl K sg G n a p o).2.2.1 ≤ 80 ∧ (sp_tl K sg G n a p o).2.2.2.length + 1 = 2 * ((sp_tl K sg G n a p o).2.2.1 - p0)) := by
  intro n
  induction n with
  | zero =>
    intro a p o ha hp hp0 ho
    exact ⟨ha, fun h => by cases h⟩
  | succ n ih =>
    intro a p o ha hp hp0 ho
    unfold sp_tl
    by_cases hs : sg (K a) = true
    · rw [if_pos hs]
      have hl : a < M := by
        rcases Nat.lt_or_ge a M with h | h
        · exact h
        · obtain rfl : a = M := by omega
          rw [h0, hsg] at hs
          cases hs
      obtain ⟨i1, i2⟩ := hG (a + 1) p hl hp
      by_cases hk : (G (a + 1) p).1 = true
      · rw [if_pos hk]
        obtain ⟨j1, j2, j3⟩ := i2 hk
        obtain ⟨g1, g2⟩ := ih (G (a + 1) p).2.1 (G (a + 1) p).2.2.1 (o ++ (G (a + 1) p).2.2.2 ++ [(K a, 0)]) i1 j2 (by omega) (by simp; omega)
        exact ⟨g1, fun h => ⟨by have := (g2 h).1; omega, (g2 h).2⟩⟩
      · rw [if_neg hk]
        exact ⟨i1, fun h => by cases h⟩
    · rw [if_neg hs]
      exact ⟨ha, fun _ => ⟨Nat.le_refl _, hp, ho⟩⟩
theorem sp_snd_lp {K : Nat → Nat} {M : Nat} (h0 : K M = 0) {sg : Nat → Bool} (hsg : sg 0 = false) {G : Nat → Nat → sp_R} (hG : sp_snd M G) : sp_snd M (sp_lp K sg G) := by
  intro a p ha hp
  obtain ⟨i1, i2⟩ := hG a p ha hp
  unfold sp_lp
  by_cases hk : (G a p).1 = true
  · rw [if_pos hk]
    obtain ⟨j1, j2, j3⟩ := i2 hk
    obtain ⟨g1, g2⟩ := sp_snd_tl h0 hsg hG p 80 (G a p).2.1 (G a p).2.2.1 (G a p).2.2.2 i1 j2 j1 j3
    exact ⟨g1, fun h => ⟨by have := (g2 h).1; omega, (g2 h).2.1, (g2 h).2.2⟩⟩
  · rw [if_neg hk]
    exact ⟨i1, fun h => absurd h hk⟩
theorem sp_snd_in {K : Nat → Nat} {V : Nat → Int32} {M : Nat} (h0 : K M = 0) : ∀ d F, sp_in K V d = some F → sp_snd M F
  | 0, F, h => by cases h
  | d + 1, F, h => by
    cases h
    exact sp_snd_lp h0 rfl (sp_snd_lp h0 rfl (sp_snd_part h0 (sp_snd_in h0 d)))
theorem sp_snd_p {K : Nat → Nat} {V : Nat → Int32} {M : Nat} (h0 : K M = 0) (d : Nat) : sp_snd M (sp_part K V d) := sp_snd_part h0 (sp_snd_in h0 d)
theorem sp_snd_t {K : Nat → Nat} {V : Nat → Int32} {M : Nat} (h0 : K M = 0) (d : Nat) : sp_snd M (sp_term K V d) := sp_snd_lp h0 rfl (sp_snd_p h0 d)
theorem sp_snd_s {K : Nat → Nat} {V : Nat → Int32} {M : Nat} (h0 : K M = 0) (d : Nat) : sp_snd M (sp_sum K V d) := sp_snd_lp h0 rfl (sp_snd_t h0 d)
/-- a list written into a row from place s on -/
def sp_wr (f : Nat → Int32) (s : Nat) : List Int32 → (Nat → Int32)
  | [] => f
  | x :: l => sp_wr (upd f s x) (s + 1) l
theorem sp_wr_app : ∀ (a b : List Int32) (f : Nat → Int32) (s : Nat), sp_wr f s (a ++ b) = sp_wr (sp_wr f s a) (s + a.length) b
  | [], b, f, s => rfl
  | x :: a, b, f, s => by
    show sp_wr (upd f s x) (s + 1) (a ++ b) = sp_wr (sp_wr (upd f s x) (s + 1) a) (s + (a.length + 1)) b
    rw [sp_wr_app a b, show s + 1 + a.length = s + (a.length + 1) by omega]
def co_k (f : Nat → Int32) (s : Nat) (l : List (Nat × Int32)) : Nat → Int32 := sp_wr f s (l.map fun q => nI q.1)
def co_v (f : Nat → Int32) (s : Nat) (l : List (Nat × Int32)) : Nat → Int32 := sp_wr f s (l.map fun q => q.2)
theorem co_k_app (f : Nat → Int32) (s : Nat) (a b : List (Nat × Int32)) : co_k f s (a ++ b) = co_k (co_k f s a) (s + a.length) b := by
  unfold co_k
  rw [List.map_append, sp_wr_app, List.length_map]
theorem co_v_app (f : Nat → Int32) (s : Nat) (a b : List (Nat × Int32)) : co_v f s (a ++ b) = co_v (co_v f s a) (s + a.length) b := by
  unfold co_v
  rw [List.map_append, sp_wr_app, List.length_map]
/-- the rows hold the tokens K, V up to the end at M -/
def tq (K : Nat → Nat) (V : Nat → Int32) (M : Nat) (fk fv : Nat → Int32) : Prop := K M = 0 ∧ M ≤ 400 ∧ (∀ k, k ≤ M → fk k = nI (K k) ∧ fv k = V k) ∧ ∀ k, K k ≤ 20
theorem tq_k {K : Nat → Nat} {V : Nat → Int32} {M : Nat} {fk fv : Nat → Int32} (h : tq K V M fk fv) {a : Nat} (ha : a ≤ M) {k : Nat} (hk : k ≤ 20) : fk a = nI k ↔ K a = k := by
  rw [(h.2.2.1 a ha).1]
  exact nI_eq (by have := h.2.2.2 a; omega) (by omega)
