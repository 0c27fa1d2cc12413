/-! The reference: a rule, whole; a program. -/
theorem enC_flat {K : Nat → Nat} {V : Nat → Int32} {M : Nat} (h0 : K M = 0) (p0 : Nat) : ∀ (m a p : Nat) (ts : List sp_C), a ≤ M → p ≤ 80 → p0 ≤ p → (ts.flatMap enC).length ≤ 4 * (p - p0) → (sp_test K V m a p ts).1 = true → ((sp_test K V m a p ts).2.2.2.flatMap enC).length ≤ 4 * ((sp_test K V m a p ts).2.2.1 - p0) := by
  intro m
  induction m with
  | zero => intro a p ts _ _ _ _ h; cases h
  | succ m ih =>
    intro a p ts ha hp hp0 hL h
    obtain ⟨i1, i2⟩ := sp_snd_cmp (V := V) h0 ha hp
    unfold sp_test at h ⊢
    by_cases hx : (sp_cmp K V a p).1 = true
    · rw [if_pos hx] at h ⊢
      have hl := enC_len (V := V) h0 ha hp hx
      obtain ⟨j1, j2, j3⟩ := i2 hx
      have hLn : ((ts ++ [(sp_cmp K V a p).2.2.2]).flatMap enC).length ≤ 4 * ((sp_cmp K V a p).2.2.1 - p0) := by
        rw [flC_app, List.length_append]
        omega
      by_cases k5 : K (sp_cmp K V a p).2.1 = 5
      · rw [if_pos k5] at h ⊢
        exact ih _ _ _ (sp_lt h0 i1 k5 (by decide)) j2 (by omega) hLn h
      · rw [if_neg k5] at h ⊢
        by_cases k3 : K (sp_cmp K V a p).2.1 = 3
        · rw [if_pos k3]
          exact hLn
        · rw [if_neg k3] at h
          cases h
    · rw [if_neg hx] at h
      cases h
theorem sp_test_ne {K : Nat → Nat} {V : Nat → Int32} : ∀ (m a p : Nat) (ts : List sp_C), (sp_test K V m a p ts).1 = true → ts.length < (sp_test K V m a p ts).2.2.2.length := by
  intro m
  induction m with
  | zero => intro a p ts h; cases h
  | succ m ih =>
    intro a p ts h
    unfold sp_test at h ⊢
    by_cases hx : (sp_cmp K V a p).1 = true
    · rw [if_pos hx] at h ⊢
      by_cases k5 : K (sp_cmp K V a p).2.1 = 5
      · rw [if_pos k5] at h ⊢
        have := ih _ _ _ h
        rw [List.length_append] at this
        simp only [List.length_cons, List.length_nil] at this
        omega
      · rw [if_neg k5] at h ⊢
        by_cases k3 : K (sp_cmp K V a p).2.1 = 3
        · rw [if_pos k3]
          show ts.length < (ts ++ [_]).length
          rw [List.length_append]
          exact Nat.lt_succ_self _
        · rw [if_neg k3] at h
          cases h
    · rw [if_neg hx] at h
      cases h

set_option maxRecDepth 100000 in
set_option maxHeartbeats 4000000 in
theorem u_rule {x0 x1 x2 x3 x4 x5 x6 x7 x8 x9 x10 x11 x12 x13 x14 x15 x16 x17 x18 x19 x20 x21 x22 x23 x26 : va_E} {g : rr_H} {tm ru pcv : Int32} {lt : Value} {f : Nat → Int32} {n : Nat} {nu : Int64} {t p y M : Nat} {cd : Nat → Int32} {k : Nat} (hn : n ≤ 400) (h0 : sp_K f n M = 0) (htM : t ≤ M) (hp : p ≤ 80) (hy7 : 7 ≤ y) (hy : y ≤ 6 * p + 7) (hk : k < 6) (hc0 : cd 0 = nI k) (h9 : sp_K f n t = 9 → nu = (sp_V f n t).toInt64) : rr_Spec 31 y_Mo_rule c_Mo_rule 4 (some .boolean) 0 0 [.ref 24] (x0 :: x1 :: x2 :: x3 :: x4 :: x5 :: x6 :: x7 :: x8 :: x9 :: x10 :: x11 :: x12 :: x13 :: x14 :: x15 :: x16 :: x17 :: x18 :: x19 :: x20 :: x21 :: x22 :: x23 :: .inr (6, [.ref 25, .int tm, lt, .ref 26, .int ru, .int (nI (sp_T f n t).2.2.2), .int (nI n), .int (nI (mk (sp_T f n t).1)), .int (nI (sp_T f n t).2.2.1), .int (nI (sp_T f n t).2.2.2), .int (-1), .int (nI p), .long nu, .ref 27, .int (nI y), .ref 28, .ref 29, .ref 30, .ref 31, .int pcv]) :: .inl (1, 400, .inl f) :: x26 :: .inl (0, 1600, .inl (cd)) :: g) (mo_G f n ((sp_rule (sp_K f n) (sp_V f n) t p).1) ((sp_rule (sp_K f n) (sp_V f n) t p).2.1) ((sp_rule (sp_K f n) (sp_V f n) t p).2.2.1) (fun y2 cd2 => y2 = y + (enU (sp_rule (sp_K f n) (sp_V f n) t p).2.2.2).length ∧ cd2 0 = nI (k + 1) ∧ cd2 (k + 1) = nI y ∧ (∀ j, j < y → j ≠ 0 → j ≠ k + 1 → cd2 j = cd j) ∧ hd_ cd2 y (enU (sp_rule (sp_K f n) (sp_V f n) t p).2.2.2)) (fun t nu fa pa y cd => x0 :: x1 :: x2 :: x3 :: x4 :: x5 :: x6 :: x7 :: x8 :: x9 :: x10 :: x11 :: x12 :: x13 :: x14 :: x15 :: x16 :: x17 :: x18 :: x19 :: x20 :: x21 :: x22 :: x23 :: .inr (6, [.ref 25, .int tm, lt, .ref 26, .int ru, .int (nI (sp_T f n t).2.2.2), .int (nI n), .int (nI (mk (sp_T f n t).1)), .int (nI (sp_T f n t).2.2.1), .int (nI (sp_T f n t).2.2.2), .int fa, .int pa, .long nu, .ref 27, .int (nI y), .ref 28, .ref 29, .ref 30, .ref 31, .int pcv]) :: .inl (1, 400, .inl f) :: x26 :: .inl (0, 1600, .inl (cd)) :: g)) := by
  refine rr_met (own := R_Mo) (kd := (false, none)) (by decide +kernel) rfl (fun h => by cases h) rfl (Nat.le_of_ble_eq_true rfl) ?_
  refine rr_aload_n d_Mo_rule_0 rfl rfl ?_
  refine rr_getf d_Mo_rule_1 fl_Mo_17 rfl rfl ?_
  refine rr_iconst 0 d_Mo_rule_4 rfl ?_
  refine rr_iald d_Mo_rule_5 rfl (vp_in_nI (n := 0) (N := 1600) (by decide) (by decide)) ?_
  refine rr_bipush 6 d_Mo_rule_6 rfl ?_
  rw [sb_cl0, hc0]
  refine rr_icmp_ne 16 d_Mo_rule_8 (by decide) (fun _ => ?_) (fun c9 => absurd c9 (fun z => absurd ((nI_eq (b := 6) (by omega) (by decide)).mp z) (by omega)))
  refine rr_aload_n d_Mo_rule_16 rfl rfl ?_
  refine rr_getf d_Mo_rule_17 fl_Mo_17 rfl rfl ?_
  refine rr_iconst 0 d_Mo_rule_20 rfl ?_
  refine rr_dup2 d_Mo_rule_21 rfl rfl ?_
  refine rr_iald d_Mo_rule_22 rfl (vp_in_nI (n := 0) (N := 1600) (by decide) (by decide)) ?_
  refine rr_iconst 1 d_Mo_rule_23 rfl ?_
  refine rr_iadd d_Mo_rule_24 ?_
  refine rr_iast d_Mo_rule_25 rfl (vp_in_nI (n := 0) (N := 1600) (by decide) (by decide)) ?_
  refine rr_aload_n d_Mo_rule_26 rfl rfl ?_
  refine rr_getf d_Mo_rule_27 fl_Mo_17 rfl rfl ?_
  refine rr_aload_n d_Mo_rule_30 rfl rfl ?_
  refine rr_getf d_Mo_rule_31 fl_Mo_17 rfl rfl ?_
  refine rr_iconst 0 d_Mo_rule_34 rfl ?_
  refine rr_iald d_Mo_rule_35 rfl (vp_in_nI (n := 0) (N := 1600) (by decide) (by decide)) ?_
  refine rr_aload_n d_Mo_rule_36 rfl rfl ?_
  refine rr_getf d_Mo_rule_37 fl_Mo_120 rfl rfl ?_
  refine rr_iast d_Mo_rule_40 rfl (show vp_in (upd cd (0 : Int32).toNatClampNeg (cd (0 : Int32).toNatClampNeg + 1) (0 : Int32).toNatClampNeg) 1600 by rw [sb_cl0, pk_us, hc0, nI_1]; exact vp_in_nI (by omega) (by decide)) ?_
  refine rr_aload_n d_Mo_rule_41 rfl rfl ?_
  refine rr_getf d_Mo_rule_42 fl_Mo_120 rfl rfl ?_
  refine rr_istore_n d_Mo_rule_45 rfl (by decide) ?_
  refine rr_aload_n d_Mo_rule_46 rfl rfl ?_
  refine rr_iconst (-1) d_Mo_rule_47 rfl ?_
  rw [sb_cl0, hc0, nI_1, pk_us, nI_clamp (n := k + 1) (by omega)]
  refine rr_callV d_Mo_rule_48 il_Mo_138 m_Mo_put (s_Mo_put (by omega)) rfl rfl rfl rfl (Nat.le_of_ble_eq_true rfl) (Nat.le_of_ble_eq_true rfl) (Nat.le_of_ble_eq_true rfl) (Nat.le_of_ble_eq_true rfl) (Nat.le_of_ble_eq_true rfl) (fun rv9 hp9 hq => ?_)
  obtain ⟨rfl, rfl⟩ := hq
  have c10 : upd (upd (upd cd 0 (nI (k + 1))) (k + 1) (nI y)) y (-1) 0 = nI (k + 1) := by rw [pk_un (by omega), pk_un (by omega), pk_us]
  have c1k : upd (upd (upd cd 0 (nI (k + 1))) (k + 1) (nI y)) y (-1) (k + 1) = nI y := by rw [pk_un (by omega), pk_us]
  have c1f : ∀ j, j < y → j ≠ 0 → j ≠ k + 1 → upd (upd (upd cd 0 (nI (k + 1))) (k + 1) (nI y)) y (-1) j = cd j := fun j h1 h2 h3 => by rw [pk_un (by omega), pk_un (by omega), pk_un (by omega)]
  have c1y : upd (upd (upd cd 0 (nI (k + 1))) (k + 1) (nI y)) y (-1) y = -1 := by rw [pk_us]
  generalize upd (upd (upd cd 0 (nI (k + 1))) (k + 1) (nI y)) y (-1) = c1 at c10 c1k c1f c1y ⊢
  have eff : ∀ (t2 p2 : Nat) (nu2 : Int64) (ts : List sp_C) (c2 : Nat → Int32), t2 ≤ M → p2 ≤ 80 → p ≤ p2 → (ts.flatMap enC).length ≤ 4 * (p2 - p) → (sp_K f n t2 = 9 → nu2 = (sp_V f n t2).toInt64) → (∀ j, j < y → c2 j = c1 j) → hd_ c2 y ([if ts.length = 0 then -1 else nI ts.length] ++ ts.flatMap enC) → rr_A R_Mo c_Mo_rule 4 (some .boolean) (false, none) { frames := 31, cells := 0, slots := 0, locals := 31 * 64 } (mo_G f n ((sp_effs (sp_K f n) (sp_V f n) 8 t2 p2 []).1) ((sp_effs (sp_K f n) (sp_V f n) 8 t2 p2 []).2.1) ((sp_effs (sp_K f n) (sp_V f n) 8 t2 p2 []).2.2.1) (fun y2 cd2 => y2 = y + (enU (ts, (sp_effs (sp_K f n) (sp_V f n) 8 t2 p2 []).2.2.2)).length ∧ cd2 0 = nI (k + 1) ∧ cd2 (k + 1) = nI y ∧ (∀ j, j < y → j ≠ 0 → j ≠ k + 1 → cd2 j = cd j) ∧ hd_ cd2 y (enU (ts, (sp_effs (sp_K f n) (sp_V f n) 8 t2 p2 []).2.2.2))) (fun t nu fa pa y cd => x0 :: x1 :: x2 :: x3 :: x4 :: x5 :: x6 :: x7 :: x8 :: x9 :: x10 :: x11 :: x12 :: x13 :: x14 :: x15 :: x16 :: x17 :: x18 :: x19 :: x20 :: x21 :: x22 :: x23 :: .inr (6, [.ref 25, .int tm, lt, .ref 26, .int ru, .int (nI (sp_T f n t).2.2.2), .int (nI n), .int (nI (mk (sp_T f n t).1)), .int (nI (sp_T f n t).2.2.1), .int (nI (sp_T f n t).2.2.2), .int fa, .int pa, .long nu, .ref 27, .int (nI y), .ref 28, .ref 29, .ref 30, .ref 31, .int pcv]) :: .inl (1, 400, .inl f) :: x26 :: .inl (0, 1600, .inl (cd)) :: g)) 0 0 110 [(1, .int (nI y)), (0, .ref 24)] [] (x0 :: x1 :: x2 :: x3 :: x4 :: x5 :: x6 :: x7 :: x8 :: x9 :: x10 :: x11 :: x12 :: x13 :: x14 :: x15 :: x16 :: x17 :: x18 :: x19 :: x20 :: x21 :: x22 :: x23 :: .inr (6, [.ref 25, .int tm, lt, .ref 26, .int ru, .int (nI (sp_T f n t2).2.2.2), .int (nI n), .int (nI (mk (sp_T f n t2).1)), .int (nI (sp_T f n t2).2.2.1), .int (nI (sp_T f n t2).2.2.2), .int (-1), .int (nI p2), .long nu2, .ref 27, .int (nI (y + 1 + (ts.flatMap enC).length)), .ref 28, .ref 29, .ref 30, .ref 31, .int pcv]) :: .inl (1, 400, .inl f) :: x26 :: .inl (0, 1600, .inl (c2)) :: g) := by
    intro t2 p2 nu2 ts c2 ht2 hp2 hpp hL h92 hfr hhd
    refine rr_aload_n d_Mo_rule_110 rfl rfl ?_
    refine rr_getf d_Mo_rule_111 fl_Mo_120 rfl rfl ?_
    refine rr_istore_n d_Mo_rule_114 rfl (by decide) ?_
    refine rr_aload_n d_Mo_rule_115 rfl rfl ?_
    refine rr_iconst 0 d_Mo_rule_116 rfl ?_
    refine rr_callV d_Mo_rule_117 il_Mo_138 m_Mo_put (s_Mo_put (by omega)) rfl rfl rfl rfl (Nat.le_of_ble_eq_true rfl) (Nat.le_of_ble_eq_true rfl) (Nat.le_of_ble_eq_true rfl) (Nat.le_of_ble_eq_true rfl) (Nat.le_of_ble_eq_true rfl) (fun rv9 hp9 hq => ?_)
    obtain ⟨rfl, rfl⟩ := hq
    refine rr_iconst 1 d_Mo_rule_120 rfl ?_
    refine rr_istore_n d_Mo_rule_121 rfl (by decide) ?_
    refine rr_lvs _ rfl (l_meffs (p0 := p2) (e0 := y + 1 + (ts.flatMap enC).length) (y0 := y) (c0 := c2) hn h0 (by omega) 8 t2 p2 nu2 [] _ rfl ht2 hp2 (Nat.le_refl _) (Nat.zero_le _) (by rw [pk_us]; rfl) (fun k v hv => by simp at hv) (fun j hj => pk_un (by omega)) h92 ?_ ?_)
    · intro nu3 pa3 y3 cd3 hf h93
      exact ⟨nu3, pa3, y3, cd3, by rw [hf]; rfl, by rw [hf]; rfl, h93, fun h => by rw [hf] at h; cases h⟩
    · intro nu3 cd3 hf h93 g1 g2 g3
      refine ⟨nu3, _, _, cd3, by rw [hf]; rfl, by rw [hf]; rfl, h93, fun _ => ⟨rfl, ?_, ?_, ?_, ?_, ?_⟩⟩
      · unfold enU
        simp only [List.length_append, List.length_cons, List.length_nil]
        omega
      · rw [g3 0 (by omega), hfr 0 (by omega), c10]
      · rw [g3 (k + 1) (by omega), hfr (k + 1) (by omega), c1k]
      · intro j h1 h2 h3
        rw [g3 j (by omega), hfr j h1, c1f j h1 h2 h3]
      · unfold enU
        refine hd_app.mpr ⟨hd_mono hhd (fun j h1 h2 => g3 j ?_), ?_⟩
        · rw [List.length_append] at h2
          simp only [List.length_cons, List.length_nil] at h2
          omega
        · have e1 : y + ([if ts.length = 0 then -1 else nI ts.length] ++ ts.flatMap enC).length = y + 1 + (ts.flatMap enC).length := by
            rw [List.length_append]
            show y + (1 + _) = _
            omega
          rw [e1]
          exact hd_app.mpr ⟨hd_1.mpr g1, g2⟩
  refine rr_aload_n d_Mo_rule_51 rfl rfl ?_
  refine rr_ldcS d_Mo_rule_52 sl_Mo_59 ?_
  unfold sp_rule
  by_cases k2 : sp_K f n t = 2
  · simp only [if_pos k2]
    have l2 := sp_lt h0 htM k2 (by decide)
    obtain ⟨i1, i2⟩ := sp_snd_test (V := sp_V f n) h0 p 80 (t + 1) p [] l2 hp (Nat.le_refl _) (Nat.zero_le _)
    refine rr_callV d_Mo_rule_54 il_Mo_61 m_Mo_is (u_is_t 0 (by decide) hn k2) rfl rfl rfl rfl (Nat.le_of_ble_eq_true rfl) (Nat.le_of_ble_eq_true rfl) (Nat.le_of_ble_eq_true rfl) (Nat.le_of_ble_eq_true rfl) (Nat.le_of_ble_eq_true rfl) (fun rv9 hp9 hq => ?_)
    obtain ⟨rfl, rfl⟩ := hq
    refine rr_if_eq 110 d_Mo_rule_57 (by decide) (fun c9 => absurd c9 (by decide)) (fun _ => ?_)
    refine rr_aload_n d_Mo_rule_60 rfl rfl ?_
    refine rr_getf d_Mo_rule_61 fl_Mo_17 rfl rfl ?_
    refine rr_iload_n d_Mo_rule_64 rfl rfl ?_
    refine rr_iconst 0 d_Mo_rule_65 rfl ?_
    refine rr_iast d_Mo_rule_66 rfl (vp_in_nI (n := y) (by omega) (by decide)) ?_
    rw [nI_clamp (n := y) (by omega)]
    refine rr_lvs _ rfl (l_mtest (p0 := p) (y0 := y) (c0 := c1) hn h0 (by omega) 80 t p nu [] _ (by omega) l2 hp (Nat.le_refl _) (Nat.zero_le _) (by rw [pk_us]; rfl) (Nat.zero_le _) (fun k v hv => by simp at hv) (fun j hj => pk_un (by omega)) ?_ ?_)
    · intro nu3 pa3 y3 cd3 hf h93
      rw [if_neg (by rw [hf]; decide)]
      exact ⟨nu3, pa3, y3, cd3, rfl, rfl, h93, fun h => by cases h⟩
    · intro nu3 cd3 hf h93 g1 g2 g3
      rw [if_pos hf]
      obtain ⟨j1, j2, j3⟩ := i2 hf
      have hne := sp_test_ne 80 (t + 1) p [] hf
      exact eff _ _ nu3 _ cd3 i1 j2 j1 (enC_flat h0 p 80 (t + 1) p [] l2 hp (Nat.le_refl _) (Nat.zero_le _) hf) h93 g3 (by
        rw [if_neg (by simp only [List.length_nil] at hne; omega)]
        exact hd_app.mpr ⟨hd_1.mpr g1, g2⟩)
  · simp only [if_neg k2]
    refine rr_callV d_Mo_rule_54 il_Mo_61 m_Mo_is (u_is_f 0 (by decide) hn k2) rfl rfl rfl rfl (Nat.le_of_ble_eq_true rfl) (Nat.le_of_ble_eq_true rfl) (Nat.le_of_ble_eq_true rfl) (Nat.le_of_ble_eq_true rfl) (Nat.le_of_ble_eq_true rfl) (fun rv9 hp9 hq => ?_)
    obtain ⟨rfl, rfl⟩ := hq
    refine rr_if_eq 110 d_Mo_rule_57 (by decide) (fun _ => ?_) (fun c9 => absurd (rfl) c9)
    exact rr_lvs _ rfl (eff t p nu [] c1 htM hp (Nat.le_refl _) (Nat.zero_le _) h9 (fun _ _ => rfl) (hd_app.mpr ⟨hd_1.mpr c1y, fun k v hv => by simp at hv⟩))

set_option maxRecDepth 100000 in
set_option maxHeartbeats 4000000 in
theorem u_rule6 {x0 x1 x2 x3 x4 x5 x6 x7 x8 x9 x10 x11 x12 x13 x14 x15 x16 x17 x18 x19 x20 x21 x22 x23 x26 : va_E} {g : rr_H} {tm ru pcv : Int32} {lt : Value} {f : Nat → Int32} {n : Nat} {nu : Int64} {t p y : Nat} {cd : Nat → Int32} (hc0 : cd 0 = 6) : rr_Spec 31 y_Mo_rule c_Mo_rule 4 (some .boolean) 0 0 [.ref 24] (x0 :: x1 :: x2 :: x3 :: x4 :: x5 :: x6 :: x7 :: x8 :: x9 :: x10 :: x11 :: x12 :: x13 :: x14 :: x15 :: x16 :: x17 :: x18 :: x19 :: x20 :: x21 :: x22 :: x23 :: .inr (6, [.ref 25, .int tm, lt, .ref 26, .int ru, .int (nI (sp_T f n t).2.2.2), .int (nI n), .int (nI (mk (sp_T f n t).1)), .int (nI (sp_T f n t).2.2.1), .int (nI (sp_T f n t).2.2.2), .int (-1), .int (nI p), .long nu, .ref 27, .int (nI y), .ref 28, .ref 29, .ref 30, .ref 31, .int pcv]) :: .inl (1, 400, .inl f) :: x26 :: .inl (0, 1600, .inl (cd)) :: g) (fun r h1 => r = some (.int 0) ∧ h1 = x0 :: x1 :: x2 :: x3 :: x4 :: x5 :: x6 :: x7 :: x8 :: x9 :: x10 :: x11 :: x12 :: x13 :: x14 :: x15 :: x16 :: x17 :: x18 :: x19 :: x20 :: x21 :: x22 :: x23 :: .inr (6, [.ref 25, .int tm, lt, .ref 26, .int ru, .int (nI (sp_T f n t).2.2.2), .int (nI n), .int (nI (mk (sp_T f n t).1)), .int (nI (sp_T f n t).2.2.1), .int (nI (sp_T f n t).2.2.2), .int (nI (sp_T f n t).2.2.1), .int (nI p), .long nu, .ref 27, .int (nI y), .ref 28, .ref 29, .ref 30, .ref 31, .int pcv]) :: .inl (1, 400, .inl f) :: x26 :: .inl (0, 1600, .inl (cd)) :: g) := by
  refine rr_met (own := R_Mo) (kd := (false, none)) (by decide +kernel) rfl (fun h => by cases h) rfl (Nat.le_of_ble_eq_true rfl) ?_
  refine rr_aload_n d_Mo_rule_0 rfl rfl ?_
  refine rr_getf d_Mo_rule_1 fl_Mo_17 rfl rfl ?_
  refine rr_iconst 0 d_Mo_rule_4 rfl ?_
  refine rr_iald d_Mo_rule_5 rfl (vp_in_nI (n := 0) (N := 1600) (by decide) (by decide)) ?_
  refine rr_bipush 6 d_Mo_rule_6 rfl ?_
  rw [sb_cl0, hc0]
  refine rr_icmp_ne 16 d_Mo_rule_8 (by decide) (fun c9 => absurd (rfl) c9) (fun _ => ?_)
  refine rr_aload_n d_Mo_rule_11 rfl rfl ?_
  refine rr_callV d_Mo_rule_12 il_Mo_113 m_Mo_bad (t_bad) rfl rfl rfl rfl (Nat.le_of_ble_eq_true rfl) (Nat.le_of_ble_eq_true rfl) (Nat.le_of_ble_eq_true rfl) (Nat.le_of_ble_eq_true rfl) (Nat.le_of_ble_eq_true rfl) (fun rv9 hp9 hq => ?_)
  obtain ⟨rfl, rfl⟩ := hq
  exact rr_ireturn d_Mo_rule_15 rfl rfl (Nat.le_of_ble_eq_true rfl) (Nat.le_of_ble_eq_true rfl) (⟨rfl, rfl⟩)
