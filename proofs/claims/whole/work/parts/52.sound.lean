/-! What is read is good. -/
def gd (G : Nat → Nat → sp_R) : Prop := ∀ a p, (G a p).1 = true → gi (G a p).2.2.2 ∧ p + sp_np (G a p).2.2.2 = (G a p).2.2.1
def vnn (K : Nat → Nat) (V : Nat → Int32) : Prop := ∀ a, K a = 9 → ∃ k : Nat, k < 2 ^ 31 ∧ V a = nI k
theorem vnn_32 {K : Nat → Nat} {V : Nat → Int32} (hV : vnn K V) {a : Nat} (h : K a = 9 ∧ V a < 32) : ∃ c : Nat, c < 32 ∧ V a = nI c := by
  obtain ⟨k, hk, e⟩ := hV a h.1
  have := h.2
  rw [e] at this
  exact ⟨k, (nI_ltI (b := 32) hk (by decide)).mp this, e⟩
theorem gi_1 {q : Nat × Int32} (h : sp_psh q.1 = true) (hc : q.1 = 8 → ∃ c : Nat, c < 32 ∧ q.2 = nI c) : gi [q] := by
  refine ⟨?_, fun r hr => ?_⟩
  · unfold sp_ht
    rw [if_pos h]
    rfl
  · rw [List.mem_singleton.mp hr]
    exact hc
theorem np_1 {q : Nat × Int32} (h : sp_psh q.1 = true) : sp_np [q] = 1 := by
  unfold sp_np
  rw [if_pos h]
  rfl
theorem gd_part {K : Nat → Nat} {V : Nat → Int32} (hV : vnn K V) {S : Option (Nat → Nat → sp_R)} (hS : ∀ F, S = some F → gd F) : gd (sp_partOf K V S) := by
  intro a p
  unfold sp_partOf
  by_cases k19 : K a = 19
  · rw [if_pos k19]
    cases S with
    | none => intro h; cases h
    | some F =>
      dsimp only
      by_cases ho : (F (a + 1) p).1 = true
      · rw [if_pos ho]
        by_cases k20 : K (F (a + 1) p).2.1 = 20
        · rw [if_pos k20]
          intro _
          exact hS F rfl (a + 1) p ho
        · rw [if_neg k20]
          intro h; cases h
      · rw [if_neg ho]
        intro h
        exact absurd h ho
  · rw [if_neg k19]
    by_cases h80 : 80 ≤ p
    · rw [if_pos h80]
      intro h; cases h
    · rw [if_neg h80]
      by_cases k8 : K a = 8
      · rw [if_pos k8]
        by_cases k9 : K (a + 1) = 9 ∧ V (a + 1) < 32
        · rw [if_pos k9]
          intro _
          exact ⟨gi_1 (q := (8, V (a + 1))) rfl (fun _ => vnn_32 hV k9), rfl⟩
        · rw [if_neg k9]
          intro h; cases h
      · rw [if_neg k8]
        by_cases k9 : K a = 9 ∨ K a = 6 ∨ K a = 7
        · rw [if_pos k9]
          intro _
          have hp : sp_psh (K a) = true := by
            rcases k9 with h | h | h <;> rw [h] <;> rfl
          refine ⟨gi_1 (q := (K a, V a)) hp (fun h => absurd h k8), ?_⟩
          show p + sp_np [(K a, V a)] = p + 1
          rw [np_1 hp]
        · rw [if_neg k9]
          intro h; cases h
theorem gi_op {o x : sp_I} {k : Nat} (ho : gi o) (hx : gi x) (hk : sp_isop k = true) (hk2 : sp_psh k = false) : gi (o ++ x ++ [(k, 0)]) ∧ sp_np (o ++ x ++ [(k, 0)]) = sp_np o + sp_np x := by
  obtain ⟨o1, o2⟩ := ho
  obtain ⟨x1, x2⟩ := hx
  refine ⟨⟨?_, fun r hr => ?_⟩, ?_⟩
  · rw [sp_ht_app, sp_ht_app, o1]
    show ((sp_ht x 1).bind _) = _
    have := sp_ht_up x 0 1 1 x1
    rw [Nat.zero_add] at this
    rw [this]
    show sp_ht [(k, 0)] (1 + 1) = some 1
    unfold sp_ht
    rw [if_neg (by rw [hk2]; decide), if_pos ⟨hk, by decide⟩]
    rfl
  · rcases List.mem_append.mp hr with h | h
    · rcases List.mem_append.mp h with h | h
      · exact o2 r h
      · exact x2 r h
    · rw [List.mem_singleton.mp h]
      intro h8
      have h8' : k = 8 := h8
      rw [h8'] at hk2
      cases hk2
  · rw [sp_np_app, sp_np_app]
    have : sp_np [(k, (0 : Int32))] = 0 := by
      unfold sp_np
      rw [if_neg (by rw [hk2]; decide)]
      rfl
    rw [this]
    rfl
theorem gd_tl {K : Nat → Nat} {sg : Nat → Bool} (hsg : ∀ k, sg k = true → sp_isop k = true ∧ sp_psh k = false) {G : Nat → Nat → sp_R} (hG : gd G) (p0 : Nat) : ∀ (n a p : Nat) (o : List (Nat × Int32)), gi o → p0 + sp_np o = p → (sp_tl K sg G n a p o).1 = true → gi (sp_tl K sg G n a p o).2.2.2 ∧ p0 + sp_np (sp_tl K sg G n a p o).2.2.2 = (sp_tl K sg G n a p o).2.2.1 := by
  intro n
  induction n with
  | zero =>
    intro a p o ho hp h
    cases h
  | succ n ih =>
    intro a p o ho hp
    unfold sp_tl
    by_cases hs : sg (K a) = true
    · rw [if_pos hs]
      by_cases hk : (G (a + 1) p).1 = true
      · rw [if_pos hk]
        obtain ⟨g1, g2⟩ := hG (a + 1) p hk
        obtain ⟨q1, q2⟩ := hsg _ hs
        obtain ⟨r1, r2⟩ := gi_op ho g1 q1 q2
        exact ih _ _ _ r1 (by rw [r2]; omega)
      · rw [if_neg hk]
        intro h; cases h
    · rw [if_neg hs]
      intro _
      exact ⟨ho, hp⟩
theorem gd_lp {K : Nat → Nat} {sg : Nat → Bool} (hsg : ∀ k, sg k = true → sp_isop k = true ∧ sp_psh k = false) {G : Nat → Nat → sp_R} (hG : gd G) : gd (sp_lp K sg G) := by
  intro a p
  unfold sp_lp
  by_cases hk : (G a p).1 = true
  · rw [if_pos hk]
    obtain ⟨g1, g2⟩ := hG a p hk
    exact gd_tl hsg hG p 80 _ _ _ g1 g2
  · rw [if_neg hk]
    intro h
    exact absurd h hk
theorem s1_op (k : Nat) (h : sp_s1 k = true) : sp_isop k = true ∧ sp_psh k = false := by
  obtain rfl : k = 16 := by simpa [sp_s1] using h
  exact ⟨rfl, rfl⟩
theorem s2_op (k : Nat) (h : sp_s2 k = true) : sp_isop k = true ∧ sp_psh k = false := by
  have h2 : k = 14 ∨ k = 15 := by simpa [sp_s2] using h
  rcases h2 with rfl | rfl <;> exact ⟨rfl, rfl⟩
theorem gd_in {K : Nat → Nat} {V : Nat → Int32} (hV : vnn K V) : ∀ d F, sp_in K V d = some F → gd F
  | 0, F, h => by cases h
  | d + 1, F, h => by
    cases h
    exact gd_lp s2_op (gd_lp s1_op (gd_part hV (gd_in hV d)))
theorem gd_sum {K : Nat → Nat} {V : Nat → Int32} (hV : vnn K V) (d : Nat) : gd (sp_sum K V d) := gd_lp s2_op (gd_lp s1_op (gd_part hV (gd_in hV d)))
theorem gc_cmp {K : Nat → Nat} {V : Nat → Int32} {M : Nat} (hV : vnn K V) (h0 : K M = 0) {a p : Nat} (ha : a ≤ M) (hp : p ≤ 80) (h : (sp_cmp K V a p).1 = true) : gc (sp_cmp K V a p).2.2.2 := by
  obtain ⟨i1, i2⟩ := sp_snd_s (V := V) h0 6 a p ha hp
  unfold sp_cmp at h ⊢
  by_cases hx : (sp_sum K V 6 a p).1 = true
  · rw [if_pos hx] at h ⊢
    obtain ⟨j1, j2, j3⟩ := i2 hx
    by_cases hs : sp_cs (K (sp_sum K V 6 a p).2.1) = true
    · rw [if_pos hs] at h ⊢
      have hl : (sp_sum K V 6 a p).2.1 < M := by
        rcases Nat.lt_or_ge (sp_sum K V 6 a p).2.1 M with q | q
        · exact q
        · rw [show (sp_sum K V 6 a p).2.1 = M by omega, h0] at hs
          cases hs
      obtain ⟨k1, k2⟩ := sp_snd_s (V := V) h0 6 ((sp_sum K V 6 a p).2.1 + 1) (sp_sum K V 6 a p).2.2.1 hl j2
      obtain ⟨l1, l2, l3⟩ := k2 h
      obtain ⟨g1, g2⟩ := gd_sum hV 6 a p hx
      obtain ⟨g3, g4⟩ := gd_sum hV 6 ((sp_sum K V 6 a p).2.1 + 1) (sp_sum K V 6 a p).2.2.1 h
      refine ⟨g1, g3, by dsimp only; omega, by dsimp only; omega, ?_⟩
      simpa [sp_cs, or_assoc] using hs
    · rw [if_neg hs] at h
      cases h
  · rw [if_neg hx] at h
    cases h
theorem gf_eff {K : Nat → Nat} {V : Nat → Int32} {M : Nat} (hV : vnn K V) (h0 : K M = 0) {a p : Nat} (ha : a ≤ M) (hp : p ≤ 80) (h : (sp_eff K V a p).1 = true) : gf (sp_eff K V a p).2.2.2 := by
  unfold sp_eff at h ⊢
  by_cases k8 : K a = 8
  · rw [if_pos k8] at h ⊢
    have l8 := sp_lt h0 ha k8 (by decide)
    by_cases k9 : K (a + 1) = 9 ∧ V (a + 1) < 32
    · rw [if_pos k9] at h ⊢
      have l9 := sp_lt h0 l8 k9.1 (by decide)
      by_cases k17 : K (a + 2) = 17
      · rw [if_pos k17] at h ⊢
        have l17 := sp_lt h0 l9 k17 (by decide)
        obtain ⟨i1, i2⟩ := sp_snd_s (V := V) h0 6 (a + 3) p l17 hp
        obtain ⟨l1, l2, l3⟩ := i2 h
        obtain ⟨g1, g2⟩ := gd_sum hV 6 (a + 3) p h
        exact ⟨g1, by dsimp only; omega, vnn_32 hV k9⟩
      · rw [if_neg k17] at h
        cases h
    · rw [if_neg k9] at h
      cases h
  · rw [if_neg k8] at h
    cases h
theorem gc_test {K : Nat → Nat} {V : Nat → Int32} {M : Nat} (hV : vnn K V) (h0 : K M = 0) : ∀ (n a p : Nat) (ts : List sp_C), a ≤ M → p ≤ 80 → (∀ c ∈ ts, gc c) → (sp_test K V n a p ts).1 = true → ∀ c ∈ (sp_test K V n a p ts).2.2.2, gc c := by
  intro n
  induction n with
  | zero =>
    intro a p ts ha hp ht h
    cases h
  | succ n ih =>
    intro a p ts ha hp ht
    obtain ⟨i1, i2⟩ := sp_snd_cmp (V := V) h0 ha hp
    unfold sp_test
    by_cases hx : (sp_cmp K V a p).1 = true
    · rw [if_pos hx]
      obtain ⟨j1, j2, j3⟩ := i2 hx
      have hn : ∀ c ∈ ts ++ [(sp_cmp K V a p).2.2.2], gc c := by
        intro c hc
        rcases List.mem_append.mp hc with q | q
        · exact ht c q
        · rw [List.mem_singleton.mp q]
          exact gc_cmp hV h0 ha hp hx
      by_cases k5 : K (sp_cmp K V a p).2.1 = 5
      · rw [if_pos k5]
        exact ih _ _ _ (sp_lt h0 i1 k5 (by decide)) j2 hn
      · rw [if_neg k5]
        by_cases k3 : K (sp_cmp K V a p).2.1 = 3
        · rw [if_pos k3]
          intro _
          exact hn
        · rw [if_neg k3]
          intro h; cases h
    · rw [if_neg hx]
      intro h; cases h
theorem gf_effs {K : Nat → Nat} {V : Nat → Int32} {M : Nat} (hV : vnn K V) (h0 : K M = 0) : ∀ (n a p : Nat) (es : List sp_F), a ≤ M → p ≤ 80 → (∀ e ∈ es, gf e) → es.length + n ≤ 8 → (sp_effs K V n a p es).1 = true → (∀ e ∈ (sp_effs K V n a p es).2.2.2, gf e) ∧ (sp_effs K V n a p es).2.2.2.length ≤ 8 := by
  intro n
  induction n with
  | zero =>
    intro a p es ha hp ht hl h
    cases h
  | succ n ih =>
    intro a p es ha hp ht hl
    obtain ⟨i1, i2⟩ := sp_snd_eff (V := V) h0 ha hp
    unfold sp_effs
    by_cases hx : (sp_eff K V a p).1 = true
    · rw [if_pos hx]
      obtain ⟨j1, j2, j3⟩ := i2 hx
      have hn : ∀ c ∈ es ++ [(sp_eff K V a p).2.2.2], gf c := by
        intro c hc
        rcases List.mem_append.mp hc with q | q
        · exact ht c q
        · rw [List.mem_singleton.mp q]
          exact gf_eff hV h0 ha hp hx
      have hln : (es ++ [(sp_eff K V a p).2.2.2]).length = es.length + 1 := by simp
      by_cases k5 : K (sp_eff K V a p).2.1 = 18
      · rw [if_pos k5]
        exact ih _ _ _ (sp_lt h0 i1 k5 (by decide)) j2 hn (by rw [hln]; omega)
      · rw [if_neg k5]
        intro _
        exact ⟨hn, by dsimp only; rw [hln]; omega⟩
    · rw [if_neg hx]
      intro h; cases h
theorem gu_rule {K : Nat → Nat} {V : Nat → Int32} {M : Nat} (hV : vnn K V) (h0 : K M = 0) {a p : Nat} (ha : a ≤ M) (hp : p ≤ 80) (h : (sp_rule K V a p).1 = true) : gu (sp_rule K V a p).2.2.2 := by
  unfold sp_rule at h ⊢
  by_cases k2 : K a = 2
  · rw [if_pos k2] at h ⊢
    have l2 := sp_lt h0 ha k2 (by decide)
    by_cases hx : (sp_test K V 80 (a + 1) p []).1 = true
    · rw [if_pos hx] at h ⊢
      obtain ⟨i1, i2⟩ := sp_snd_test (V := V) h0 p 80 (a + 1) p [] l2 hp (Nat.le_refl _) (Nat.zero_le _)
      obtain ⟨j1, j2, j3⟩ := i2 hx
      have h1 := gc_test hV h0 80 (a + 1) p [] l2 hp (fun c hc => by cases hc) hx
      have h2 := gf_effs hV h0 8 _ _ [] i1 j2 (fun c hc => by cases hc) (by decide) h
      exact ⟨h1, h2.1, h2.2⟩
    · rw [if_neg hx] at h
      cases h
  · rw [if_neg k2] at h ⊢
    have h2 := gf_effs hV h0 8 _ _ [] ha hp (fun c hc => by cases hc) (by decide) h
    exact ⟨fun c hc => (by cases hc), h2.1, h2.2⟩
theorem gu_prog {K : Nat → Nat} {V : Nat → Int32} {M : Nat} (hV : vnn K V) (h0 : K M = 0) : ∀ (n a p : Nat) (us : List sp_U), a ≤ M → p ≤ 80 → (∀ u ∈ us, gu u) → mdp us ≤ 6 * p + 7 → us.length + n ≤ 6 → (sp_prog K V n a p us).1 = true → (∀ u ∈ (sp_prog K V n a p us).2.2, gu u) ∧ (sp_prog K V n a p us).2.2.length ≠ 0 ∧ (sp_prog K V n a p us).2.2.length ≤ 6 ∧ mdp (sp_prog K V n a p us).2.2 ≤ 1600 := by
  intro n
  induction n with
  | zero =>
    intro a p us ha hp ht hm hl h
    cases h
  | succ n ih =>
    intro a p us ha hp ht hm hl
    obtain ⟨i1, i2⟩ := sp_snd_rule (V := V) h0 ha hp
    unfold sp_prog
    by_cases hx : (sp_rule K V a p).1 = true
    · rw [if_pos hx]
      obtain ⟨j1, j2, j3⟩ := i2 hx
      have hl2 := enU_len (V := V) h0 ha hp hx
      have hn : ∀ c ∈ us ++ [(sp_rule K V a p).2.2.2], gu c := by
        intro c hc
        rcases List.mem_append.mp hc with q | q
        · exact ht c q
        · rw [List.mem_singleton.mp q]
          exact gu_rule hV h0 ha hp hx
      have hln : (us ++ [(sp_rule K V a p).2.2.2]).length = us.length + 1 := by simp
      have hmn : mdp (us ++ [(sp_rule K V a p).2.2.2]) ≤ 6 * (sp_rule K V a p).2.2.1 + 7 := by
        rw [← mdp_add]
        omega
      by_cases k0 : K (sp_rule K V a p).2.1 = 0
      · rw [if_pos k0]
        intro _
        exact ⟨hn, by dsimp only; rw [hln]; omega, by dsimp only; rw [hln]; omega, by dsimp only; omega⟩
      · rw [if_neg k0]
        by_cases k4 : K (sp_rule K V a p).2.1 = 4
        · rw [if_pos k4]
          exact ih _ _ _ (sp_lt h0 i1 k4 (by decide)) j2 hn hmn (by rw [hln]; omega)
        · rw [if_neg k4]
          intro h; cases h
    · rw [if_neg hx]
      intro h; cases h
theorem sp_wk_9 {f : Nat → Int32} {p e : Nat} : sp_wk f p e ≠ 9 := by
  unfold sp_wk
  repeat' split
  all_goals decide
theorem sp_sk_9 {x : Int32} : sp_sk x ≠ 9 := by
  unfold sp_sk
  repeat' split
  all_goals decide
theorem sp_vnn (f : Nat → Int32) (n : Nat) : vnn (sp_K f n) (sp_V f n) := by
  intro a
  show (sp_T f n a).1 = 9 → ∃ k : Nat, k < 2 ^ 31 ∧ (sp_T f n a).2.1 = nI k
  unfold sp_T sp_next
  dsimp only
  generalize sp_run (fun x => decide (x = 32)) f (sp_pos f n a) (n - sp_pos f n a) = q
  by_cases hq : q < n
  · rw [if_pos hq]
    show (sp_tok f n q).1 = 9 → ∃ k : Nat, k < 2 ^ 31 ∧ (sp_tok f n q).2.1 = nI k
    unfold sp_tok
    by_cases h1 : sp_isL (f q) = true
    · rw [if_pos h1]
      intro h
      exact absurd h sp_wk_9
    · rw [if_neg h1]
      by_cases h2 : sp_isD (f q) = true
      · rw [if_pos h2]
        by_cases h3 : sp_nv f q (n - q) 0 < 2147483648
        · rw [if_pos h3]
          intro _
          exact ⟨_, h3, rfl⟩
        · rw [if_neg h3]
          intro h
          cases h
      · rw [if_neg h2]
        by_cases h4 : f q = 58 ∧ q + 1 < n ∧ f (q + 1) = 61
        · rw [if_pos h4]
          intro h
          cases h
        · rw [if_neg h4]
          intro h
          exact absurd h sp_sk_9
  · rw [if_neg hq]
    intro h
    cases h
/-- a program that was read is good -/
theorem gu_pr {f : Nat → Int32} {n : Nat} (h : (sp_pr f n).1 = true) : (∀ u ∈ (sp_pr f n).2.2, gu u) ∧ (sp_pr f n).2.2.length ≠ 0 ∧ (sp_pr f n).2.2.length ≤ 6 ∧ mdp (sp_pr f n).2.2 ≤ 1600 := by
  obtain ⟨M, h0⟩ := ex_M f n
  exact gu_prog (sp_vnn f n) h0 6 0 0 [] (Nat.zero_le _) (by decide) (fun u hu => by cases hu) (by decide) (by decide) h
