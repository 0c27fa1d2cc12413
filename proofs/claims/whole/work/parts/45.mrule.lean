/-! The reference: a rule. -/

theorem enC_len {K : Nat → Nat} {V : Nat → Int32} {M : Nat} (h0 : K M = 0) {a p : Nat} (ha : a ≤ M) (hp : p ≤ 80) (h : (sp_cmp K V a p).1 = true) : (enC (sp_cmp K V a p).2.2.2).length ≤ 4 * ((sp_cmp K V a p).2.2.1 - p) := by
  have h1 := ((sp_snd_cmp (V := V) h0 ha hp).2 h).2.2
  have e1 := en_len (sp_cmp K V a p).2.2.2.1
  have e2 := en_len (sp_cmp K V a p).2.2.2.2.1
  unfold fl_c at h1
  unfold enC
  simp only [List.length_append, List.length_cons, List.length_nil] at h1 ⊢
  omega
theorem sp_cmp_2 {K : Nat → Nat} {V : Nat → Int32} {M : Nat} (h0 : K M = 0) {a p : Nat} (ha : a ≤ M) (hp : p ≤ 80) (h : (sp_cmp K V a p).1 = true) : p + 2 ≤ (sp_cmp K V a p).2.2.1 := by
  unfold sp_cmp at h ⊢
  obtain ⟨i1, i2⟩ := sp_snd_s (V := V) h0 6 a p ha hp
  by_cases hx : (sp_sum K V 6 a p).1 = true
  · rw [if_pos hx] at h ⊢
    obtain ⟨j1, j2, j3⟩ := i2 hx
    by_cases hs : sp_cs (K (sp_sum K V 6 a p).2.1) = true
    · rw [if_pos hs] at h ⊢
      have hl : (sp_sum K V 6 a p).2.1 < M := by
        rcases Nat.lt_or_ge (sp_sum K V 6 a p).2.1 M with q | q
        · exact q
        · rw [show (sp_sum K V 6 a p).2.1 = M by omega, h0] at hs
          cases hs
      have := ((sp_snd_s (V := V) h0 6 ((sp_sum K V 6 a p).2.1 + 1) (sp_sum K V 6 a p).2.2.1 hl j2).2 h).1
      show p + 2 ≤ (sp_sum K V 6 ((sp_sum K V 6 a p).2.1 + 1) (sp_sum K V 6 a p).2.2.1).2.2.1
      omega
    · rw [if_neg hs] at h
      cases h
  · rw [if_neg hx] at h
    cases h
theorem enF_len {K : Nat → Nat} {V : Nat → Int32} {M : Nat} (h0 : K M = 0) {a p : Nat} (ha : a ≤ M) (hp : p ≤ 80) (h : (sp_eff K V a p).1 = true) : (enF (sp_eff K V a p).2.2.2).length ≤ 4 * ((sp_eff K V a p).2.2.1 - p) := by
  have h1 := ((sp_snd_eff (V := V) h0 ha hp).2 h).2.2
  have e1 := en_len (sp_eff K V a p).2.2.2.2
  unfold fl_f at h1
  unfold enF
  simp only [List.length_append, List.length_cons, List.length_nil] at h1 ⊢
  omega
theorem flC_app (ts : List sp_C) (c : sp_C) : (ts ++ [c]).flatMap enC = ts.flatMap enC ++ enC c := by
  rw [List.flatMap_append]
  simp
theorem flF_app (es : List sp_F) (e : sp_F) : (es ++ [e]).flatMap enF = es.flatMap enF ++ enF e := by
  rw [List.flatMap_append]
  simp

set_option maxRecDepth 100000 in
set_option maxHeartbeats 4000000 in
theorem l_mtest {x0 x1 x2 x3 x4 x5 x6 x7 x8 x9 x10 x11 x12 x13 x14 x15 x16 x17 x18 x19 x20 x21 x22 x23 x26 : va_E} {g : rr_H} {tm ru pcv : Int32} {lt : Value} {f : Nat → Int32} {n : Nat} {p0 y0 M : Nat} {c0 : Nat → Int32} {Q : Option Value → rr_H → Prop} (hn : n ≤ 400) (h0 : sp_K f n M = 0) (hy0 : y0 ≤ 6 * p0 + 10) : ∀ (m t p : Nat) (nu : Int64) (ts : List sp_C) (c : Nat → Int32), 81 ≤ 2 * m + p → t + 1 ≤ M → p ≤ 80 → p0 ≤ p → (ts.flatMap enC).length ≤ 4 * (p - p0) → c y0 = nI ts.length → ts.length ≤ p → hd_ c (y0 + 1) (ts.flatMap enC) → (∀ j, j < y0 → c j = c0 j) → (∀ (nu2 : Int64) (pa2 : Int32) (y2 : Nat) (cd2 : Nat → Int32), (sp_test (sp_K f n) (sp_V f n) m (t + 1) p ts).1 = false → (sp_K f n (sp_test (sp_K f n) (sp_V f n) m (t + 1) p ts).2.1 = 9 → nu2 = (sp_V f n (sp_test (sp_K f n) (sp_V f n) m (t + 1) p ts).2.1).toInt64) → Q (some (.int 0)) (x0 :: x1 :: x2 :: x3 :: x4 :: x5 :: x6 :: x7 :: x8 :: x9 :: x10 :: x11 :: x12 :: x13 :: x14 :: x15 :: x16 :: x17 :: x18 :: x19 :: x20 :: x21 :: x22 :: x23 :: .inr (6, [.ref 25, .int tm, lt, .ref 26, .int ru, .int (nI (sp_T f n (sp_test (sp_K f n) (sp_V f n) m (t + 1) p ts).2.1).2.2.2), .int (nI n), .int (nI (mk (sp_T f n (sp_test (sp_K f n) (sp_V f n) m (t + 1) p ts).2.1).1)), .int (nI (sp_T f n (sp_test (sp_K f n) (sp_V f n) m (t + 1) p ts).2.1).2.2.1), .int (nI (sp_T f n (sp_test (sp_K f n) (sp_V f n) m (t + 1) p ts).2.1).2.2.2), .int (nI (sp_T f n (sp_test (sp_K f n) (sp_V f n) m (t + 1) p ts).2.1).2.2.1), .int pa2, .long nu2, .ref 27, .int (nI y2), .ref 28, .ref 29, .ref 30, .ref 31, .int pcv]) :: .inl (1, 400, .inl f) :: x26 :: .inl (0, 1600, .inl (cd2)) :: g)) → (∀ (nu2 : Int64) (cd2 : Nat → Int32), (sp_test (sp_K f n) (sp_V f n) m (t + 1) p ts).1 = true → (sp_K f n (sp_test (sp_K f n) (sp_V f n) m (t + 1) p ts).2.1 = 9 → nu2 = (sp_V f n (sp_test (sp_K f n) (sp_V f n) m (t + 1) p ts).2.1).toInt64) → cd2 y0 = nI (sp_test (sp_K f n) (sp_V f n) m (t + 1) p ts).2.2.2.length → hd_ cd2 (y0 + 1) ((sp_test (sp_K f n) (sp_V f n) m (t + 1) p ts).2.2.2.flatMap enC) → (∀ j, j < y0 → cd2 j = c0 j) → rr_A R_Mo c_Mo_rule 4 (some .boolean) (false, none) { frames := 31, cells := 0, slots := 0, locals := 31 * 64 } (Q) 0 0 110 [(1, .int (nI y0)), (0, .ref 24)] [] (x0 :: x1 :: x2 :: x3 :: x4 :: x5 :: x6 :: x7 :: x8 :: x9 :: x10 :: x11 :: x12 :: x13 :: x14 :: x15 :: x16 :: x17 :: x18 :: x19 :: x20 :: x21 :: x22 :: x23 :: .inr (6, [.ref 25, .int tm, lt, .ref 26, .int ru, .int (nI (sp_T f n (sp_test (sp_K f n) (sp_V f n) m (t + 1) p ts).2.1).2.2.2), .int (nI n), .int (nI (mk (sp_T f n (sp_test (sp_K f n) (sp_V f n) m (t + 1) p ts).2.1).1)), .int (nI (sp_T f n (sp_test (sp_K f n) (sp_V f n) m (t + 1) p ts).2.1).2.2.1), .int (nI (sp_T f n (sp_test (sp_K f n) (sp_V f n) m (t + 1) p ts).2.1).2.2.2), .int (-1), .int (nI (sp_test (sp_K f n) (sp_V f n) m (t + 1) p ts).2.2.1), .long nu2, .ref 27, .int (nI (y0 + 1 + ((sp_test (sp_K f n) (sp_V f n) m (t + 1) p ts).2.2.2.flatMap enC).length)), .ref 28, .ref 29, .ref 30, .ref 31, .int pcv]) :: .inl (1, 400, .inl f) :: x26 :: .inl (0, 1600, .inl (cd2)) :: g)) → rr_A R_Mo c_Mo_rule 4 (some .boolean) (false, none) { frames := 31, cells := 0, slots := 0, locals := 31 * 64 } (Q) 0 0 67 [(1, .int (nI y0)), (0, .ref 24)] [] (x0 :: x1 :: x2 :: x3 :: x4 :: x5 :: x6 :: x7 :: x8 :: x9 :: x10 :: x11 :: x12 :: x13 :: x14 :: x15 :: x16 :: x17 :: x18 :: x19 :: x20 :: x21 :: x22 :: x23 :: .inr (6, [.ref 25, .int tm, lt, .ref 26, .int ru, .int (nI (sp_T f n t).2.2.2), .int (nI n), .int (nI (mk (sp_T f n t).1)), .int (nI (sp_T f n t).2.2.1), .int (nI (sp_T f n t).2.2.2), .int (-1), .int (nI p), .long nu, .ref 27, .int (nI (y0 + 1 + (ts.flatMap enC).length)), .ref 28, .ref 29, .ref 30, .ref 31, .int pcv]) :: .inl (1, 400, .inl f) :: x26 :: .inl (0, 1600, .inl (c)) :: g) := by
  intro m
  induction m with
  | zero =>
    intro t p nu ts c hm
    omega
  | succ m ih =>
    intro t p nu ts c hm htM hp hp0 hL hc0 htl hhd hfr hFl hKl
    obtain ⟨i1, i2⟩ := sp_snd_cmp (V := sp_V f n) h0 htM hp
    refine rr_aload_n d_Mo_rule_67 rfl rfl ?_
    refine rr_callV d_Mo_rule_68 il_Mo_117 m_Mo_step (t_step hn) rfl rfl rfl rfl (Nat.le_of_ble_eq_true rfl) (Nat.le_of_ble_eq_true rfl) (Nat.le_of_ble_eq_true rfl) (Nat.le_of_ble_eq_true rfl) (Nat.le_of_ble_eq_true rfl) (fun rv9 hp9 hq => ?_)
    obtain ⟨rfl, nu2, h92, rfl⟩ := hq
    refine rr_aload_n d_Mo_rule_71 rfl rfl ?_
    refine rr_getf d_Mo_rule_72 fl_Mo_17 rfl rfl ?_
    refine rr_iload_n d_Mo_rule_75 rfl rfl ?_
    refine rr_dup2 d_Mo_rule_76 rfl rfl ?_
    refine rr_iald d_Mo_rule_77 rfl (vp_in_nI (n := y0) (by omega) (by decide)) ?_
    refine rr_iconst 1 d_Mo_rule_78 rfl ?_
    refine rr_iadd d_Mo_rule_79 ?_
    refine rr_iast d_Mo_rule_80 rfl (vp_in_nI (n := y0) (by omega) (by decide)) ?_
    refine rr_aload_n d_Mo_rule_81 rfl rfl ?_
    rw [nI_clamp (n := y0) (by omega), hc0, nI_1]
    refine rr_callV d_Mo_rule_82 il_Mo_142 m_Mo_compare (u_compare hn h0 htM hp (by omega) h92) rfl rfl rfl rfl (Nat.le_of_ble_eq_true rfl) (Nat.le_of_ble_eq_true rfl) (Nat.le_of_ble_eq_true rfl) (Nat.le_of_ble_eq_true rfl) (Nat.le_of_ble_eq_true rfl) (fun rv9 hp9 hq => ?_)
    obtain ⟨nu3, pa3, y3, cd3, rfl, rfl, h93, hok⟩ := hq
    unfold sp_test at hFl hKl
    by_cases hx : (sp_cmp (sp_K f n) (sp_V f n) (t + 1) p).1 = true
    · simp only [if_pos hx] at hFl hKl
      rw [hx]
      obtain ⟨rfl, rfl, hfr3, hhd3⟩ := hok hx
      obtain ⟨j1, j2, j3⟩ := i2 hx
      have hlc := enC_len h0 htM hp hx
      have hp2 := sp_cmp_2 h0 htM hp hx
      have hLn : ((ts ++ [(sp_cmp (sp_K f n) (sp_V f n) (t + 1) p).2.2.2]).flatMap enC).length ≤ 4 * ((sp_cmp (sp_K f n) (sp_V f n) (t + 1) p).2.2.1 - p0) := by
        rw [flC_app, List.length_append]
        omega
      have eLn : y0 + 1 + (ts.flatMap enC).length + (enC (sp_cmp (sp_K f n) (sp_V f n) (t + 1) p).2.2.2).length = y0 + 1 + ((ts ++ [(sp_cmp (sp_K f n) (sp_V f n) (t + 1) p).2.2.2]).flatMap enC).length := by
        rw [flC_app, List.length_append]
        omega
      have hc3 : cd3 y0 = nI (ts ++ [(sp_cmp (sp_K f n) (sp_V f n) (t + 1) p).2.2.2]).length := by
        rw [hfr3 y0 (by omega), pk_us, List.length_append]
        rfl
      have hhn : hd_ cd3 (y0 + 1) ((ts ++ [(sp_cmp (sp_K f n) (sp_V f n) (t + 1) p).2.2.2]).flatMap enC) := by
        rw [flC_app]
        refine hd_app.mpr ⟨hd_mono hhd (fun j h1 h2 => ?_), hhd3⟩
        rw [hfr3 j (by omega), pk_un (by omega)]
      have hfn : ∀ j, j < y0 → cd3 j = c0 j := fun j hj => by rw [hfr3 j (by omega), pk_un (by omega), hfr j hj]
      rw [eLn]
      refine rr_if_ne 90 d_Mo_rule_85 (by decide) (fun _ => ?_) (fun c9 => absurd c9 (by decide))
      refine rr_aload_n d_Mo_rule_90 rfl rfl ?_
      refine rr_ldcS d_Mo_rule_91 sl_Mo_69 ?_
      by_cases k5 : sp_K f n (sp_cmp (sp_K f n) (sp_V f n) (t + 1) p).2.1 = 5
      · simp only [if_pos k5] at hFl hKl
        have l5 := sp_lt h0 i1 k5 (by decide)
        refine rr_callV d_Mo_rule_93 il_Mo_61 m_Mo_is (u_is_t 3 (by decide) hn k5) rfl rfl rfl rfl (Nat.le_of_ble_eq_true rfl) (Nat.le_of_ble_eq_true rfl) (Nat.le_of_ble_eq_true rfl) (Nat.le_of_ble_eq_true rfl) (Nat.le_of_ble_eq_true rfl) (fun rv9 hp9 hq => ?_)
        obtain ⟨rfl, rfl⟩ := hq
        refine rr_if_ne 67 d_Mo_rule_96 (by decide) (fun _ => ?_) (fun c9 => absurd c9 (by decide))
        exact rr_lvs _ rfl (ih (sp_cmp (sp_K f n) (sp_V f n) (t + 1) p).2.1 (sp_cmp (sp_K f n) (sp_V f n) (t + 1) p).2.2.1 nu3 (ts ++ [(sp_cmp (sp_K f n) (sp_V f n) (t + 1) p).2.2.2]) cd3 (by omega) l5 j2 (by omega) hLn hc3 (by rw [List.length_append]; show ts.length + 1 ≤ _; omega) hhn hfn hFl hKl)
      · simp only [if_neg k5] at hFl hKl
        refine rr_callV d_Mo_rule_93 il_Mo_61 m_Mo_is (u_is_f 3 (by decide) hn k5) rfl rfl rfl rfl (Nat.le_of_ble_eq_true rfl) (Nat.le_of_ble_eq_true rfl) (Nat.le_of_ble_eq_true rfl) (Nat.le_of_ble_eq_true rfl) (Nat.le_of_ble_eq_true rfl) (fun rv9 hp9 hq => ?_)
        obtain ⟨rfl, rfl⟩ := hq
        refine rr_if_ne 67 d_Mo_rule_96 (by decide) (fun c9 => absurd (rfl) c9) (fun _ => ?_)
        refine rr_aload_n d_Mo_rule_99 rfl rfl ?_
        refine rr_ldcS d_Mo_rule_100 sl_Mo_65 ?_
        by_cases k3 : sp_K f n (sp_cmp (sp_K f n) (sp_V f n) (t + 1) p).2.1 = 3
        · simp only [if_pos k3] at hFl hKl
          refine rr_callV d_Mo_rule_102 il_Mo_145 m_Mo_take (u_take_t 1 (by decide) hn k3) rfl rfl rfl rfl (Nat.le_of_ble_eq_true rfl) (Nat.le_of_ble_eq_true rfl) (Nat.le_of_ble_eq_true rfl) (Nat.le_of_ble_eq_true rfl) (Nat.le_of_ble_eq_true rfl) (fun rv9 hp9 hq => ?_)
          obtain ⟨rfl, nu4, h94, rfl⟩ := hq
          refine rr_if_ne 110 d_Mo_rule_105 (by decide) (fun _ => ?_) (fun c9 => absurd c9 (by decide))
          exact rr_lvs _ rfl (hKl nu4 cd3 (by first | rfl | trivial) h94 hc3 hhn hfn)
        · simp only [if_neg k3] at hFl hKl
          refine rr_callV d_Mo_rule_102 il_Mo_145 m_Mo_take (u_take_f 1 (by decide) hn k3) rfl rfl rfl rfl (Nat.le_of_ble_eq_true rfl) (Nat.le_of_ble_eq_true rfl) (Nat.le_of_ble_eq_true rfl) (Nat.le_of_ble_eq_true rfl) (Nat.le_of_ble_eq_true rfl) (fun rv9 hp9 hq => ?_)
          obtain ⟨rfl, rfl⟩ := hq
          refine rr_if_ne 110 d_Mo_rule_105 (by decide) (fun c9 => absurd (rfl) c9) (fun _ => ?_)
          refine rr_iconst 0 d_Mo_rule_108 rfl ?_
          exact rr_ireturn d_Mo_rule_109 rfl rfl (Nat.le_of_ble_eq_true rfl) (Nat.le_of_ble_eq_true rfl) (hFl nu3 _ _ _ (by first | rfl | trivial) h93)
    · simp only [if_neg hx] at hFl hKl
      rw [(Bool.not_eq_true _).mp hx]
      refine rr_if_ne 90 d_Mo_rule_85 (by decide) (fun c9 => absurd (rfl) c9) (fun _ => ?_)
      refine rr_iconst 0 d_Mo_rule_88 rfl ?_
      exact rr_ireturn d_Mo_rule_89 rfl rfl (Nat.le_of_ble_eq_true rfl) (Nat.le_of_ble_eq_true rfl) (hFl nu3 pa3 y3 cd3 (by first | rfl | trivial) h93)

set_option maxRecDepth 100000 in
set_option maxHeartbeats 4000000 in
theorem l_meffs {x0 x1 x2 x3 x4 x5 x6 x7 x8 x9 x10 x11 x12 x13 x14 x15 x16 x17 x18 x19 x20 x21 x22 x23 x26 : va_E} {g : rr_H} {tm ru pcv : Int32} {lt : Value} {f : Nat → Int32} {n : Nat} {p0 e0 y0 M : Nat} {c0 : Nat → Int32} {Q : Option Value → rr_H → Prop} (hn : n ≤ 400) (h0 : sp_K f n M = 0) (he0 : e0 ≤ 6 * p0 + 20) : ∀ (m t p : Nat) (nu : Int64) (es : List sp_F) (c : Nat → Int32), es.length + m = 8 → t ≤ M → p ≤ 80 → p0 ≤ p → (es.flatMap enF).length ≤ 4 * (p - p0) → c e0 = nI es.length → hd_ c (e0 + 1) (es.flatMap enF) → (∀ j, j < e0 → c j = c0 j) → (sp_K f n t = 9 → nu = (sp_V f n t).toInt64) → (∀ (nu2 : Int64) (pa2 : Int32) (y2 : Nat) (cd2 : Nat → Int32), (sp_effs (sp_K f n) (sp_V f n) m t p es).1 = false → (sp_K f n (sp_effs (sp_K f n) (sp_V f n) m t p es).2.1 = 9 → nu2 = (sp_V f n (sp_effs (sp_K f n) (sp_V f n) m t p es).2.1).toInt64) → Q (some (.int 0)) (x0 :: x1 :: x2 :: x3 :: x4 :: x5 :: x6 :: x7 :: x8 :: x9 :: x10 :: x11 :: x12 :: x13 :: x14 :: x15 :: x16 :: x17 :: x18 :: x19 :: x20 :: x21 :: x22 :: x23 :: .inr (6, [.ref 25, .int tm, lt, .ref 26, .int ru, .int (nI (sp_T f n (sp_effs (sp_K f n) (sp_V f n) m t p es).2.1).2.2.2), .int (nI n), .int (nI (mk (sp_T f n (sp_effs (sp_K f n) (sp_V f n) m t p es).2.1).1)), .int (nI (sp_T f n (sp_effs (sp_K f n) (sp_V f n) m t p es).2.1).2.2.1), .int (nI (sp_T f n (sp_effs (sp_K f n) (sp_V f n) m t p es).2.1).2.2.2), .int (nI (sp_T f n (sp_effs (sp_K f n) (sp_V f n) m t p es).2.1).2.2.1), .int pa2, .long nu2, .ref 27, .int (nI y2), .ref 28, .ref 29, .ref 30, .ref 31, .int pcv]) :: .inl (1, 400, .inl f) :: x26 :: .inl (0, 1600, .inl (cd2)) :: g)) → (∀ (nu2 : Int64) (cd2 : Nat → Int32), (sp_effs (sp_K f n) (sp_V f n) m t p es).1 = true → (sp_K f n (sp_effs (sp_K f n) (sp_V f n) m t p es).2.1 = 9 → nu2 = (sp_V f n (sp_effs (sp_K f n) (sp_V f n) m t p es).2.1).toInt64) → cd2 e0 = nI (sp_effs (sp_K f n) (sp_V f n) m t p es).2.2.2.length → hd_ cd2 (e0 + 1) ((sp_effs (sp_K f n) (sp_V f n) m t p es).2.2.2.flatMap enF) → (∀ j, j < e0 → cd2 j = c0 j) → Q (some (.int 1)) (x0 :: x1 :: x2 :: x3 :: x4 :: x5 :: x6 :: x7 :: x8 :: x9 :: x10 :: x11 :: x12 :: x13 :: x14 :: x15 :: x16 :: x17 :: x18 :: x19 :: x20 :: x21 :: x22 :: x23 :: .inr (6, [.ref 25, .int tm, lt, .ref 26, .int ru, .int (nI (sp_T f n (sp_effs (sp_K f n) (sp_V f n) m t p es).2.1).2.2.2), .int (nI n), .int (nI (mk (sp_T f n (sp_effs (sp_K f n) (sp_V f n) m t p es).2.1).1)), .int (nI (sp_T f n (sp_effs (sp_K f n) (sp_V f n) m t p es).2.1).2.2.1), .int (nI (sp_T f n (sp_effs (sp_K f n) (sp_V f n) m t p es).2.1).2.2.2), .int (-1), .int (nI (sp_effs (sp_K f n) (sp_V f n) m t p es).2.2.1), .long nu2, .ref 27, .int (nI (e0 + 1 + ((sp_effs (sp_K f n) (sp_V f n) m t p es).2.2.2.flatMap enF).length)), .ref 28, .ref 29, .ref 30, .ref 31, .int pcv]) :: .inl (1, 400, .inl f) :: x26 :: .inl (0, 1600, .inl (cd2)) :: g)) → rr_A R_Mo c_Mo_rule 4 (some .boolean) (false, none) { frames := 31, cells := 0, slots := 0, locals := 31 * 64 } (Q) 0 0 122 [(3, .int 1), (2, .int (nI e0)), (1, .int (nI y0)), (0, .ref 24)] [] (x0 :: x1 :: x2 :: x3 :: x4 :: x5 :: x6 :: x7 :: x8 :: x9 :: x10 :: x11 :: x12 :: x13 :: x14 :: x15 :: x16 :: x17 :: x18 :: x19 :: x20 :: x21 :: x22 :: x23 :: .inr (6, [.ref 25, .int tm, lt, .ref 26, .int ru, .int (nI (sp_T f n t).2.2.2), .int (nI n), .int (nI (mk (sp_T f n t).1)), .int (nI (sp_T f n t).2.2.1), .int (nI (sp_T f n t).2.2.2), .int (-1), .int (nI p), .long nu, .ref 27, .int (nI (e0 + 1 + (es.flatMap enF).length)), .ref 28, .ref 29, .ref 30, .ref 31, .int pcv]) :: .inl (1, 400, .inl f) :: x26 :: .inl (0, 1600, .inl (c)) :: g) := by
  intro m
  induction m with
  | zero =>
    intro t p nu es c hm htM hp hp0 hL hc0 hhd hfr h9 hFl hSl
    refine rr_iload_n d_Mo_rule_122 rfl rfl ?_
    refine rr_if_eq 195 d_Mo_rule_123 (by decide) (fun c9 => absurd c9 (by decide)) (fun _ => ?_)
    refine rr_aload_n d_Mo_rule_126 rfl rfl ?_
    refine rr_getf d_Mo_rule_127 fl_Mo_17 rfl rfl ?_
    refine rr_iload_n d_Mo_rule_130 rfl rfl ?_
    refine rr_iald d_Mo_rule_131 rfl (vp_in_nI (n := e0) (by omega) (by decide)) ?_
    refine rr_bipush 8 d_Mo_rule_132 rfl ?_
    rw [nI_clamp (by omega), hc0, show es.length = 8 by omega]
    refine rr_icmp_ne 142 d_Mo_rule_134 (by decide) (fun c9 => absurd (rfl) c9) (fun _ => ?_)
    refine rr_aload_n d_Mo_rule_137 rfl rfl ?_
    refine rr_callV d_Mo_rule_138 il_Mo_113 m_Mo_bad (t_bad) rfl rfl rfl rfl (Nat.le_of_ble_eq_true rfl) (Nat.le_of_ble_eq_true rfl) (Nat.le_of_ble_eq_true rfl) (Nat.le_of_ble_eq_true rfl) (Nat.le_of_ble_eq_true rfl) (fun rv9 hp9 hq => ?_)
    obtain ⟨rfl, rfl⟩ := hq
    exact rr_ireturn d_Mo_rule_141 rfl rfl (Nat.le_of_ble_eq_true rfl) (Nat.le_of_ble_eq_true rfl) (hFl nu _ _ _ rfl h9)
  | succ m ih =>
    intro t p nu es c hm htM hp hp0 hL hc0 hhd hfr h9 hFl hSl
    obtain ⟨i1, i2⟩ := sp_snd_eff (V := sp_V f n) h0 htM hp
    have hlF := enF_len (V := sp_V f n) h0 htM hp
    refine rr_iload_n d_Mo_rule_122 rfl rfl ?_
    refine rr_if_eq 195 d_Mo_rule_123 (by decide) (fun c9 => absurd c9 (by decide)) (fun _ => ?_)
    refine rr_aload_n d_Mo_rule_126 rfl rfl ?_
    refine rr_getf d_Mo_rule_127 fl_Mo_17 rfl rfl ?_
    refine rr_iload_n d_Mo_rule_130 rfl rfl ?_
    refine rr_iald d_Mo_rule_131 rfl (vp_in_nI (n := e0) (by omega) (by decide)) ?_
    refine rr_bipush 8 d_Mo_rule_132 rfl ?_
    rw [nI_clamp (by omega), hc0]
    refine rr_icmp_ne 142 d_Mo_rule_134 (by decide) (fun _ => ?_) (fun c9 => absurd c9 (fun z => absurd ((nI_eq (b := 8) (by omega) (by decide)).mp z) (by omega)))
    refine rr_aload_n d_Mo_rule_142 rfl rfl ?_
    refine rr_getf d_Mo_rule_143 fl_Mo_17 rfl rfl ?_
    refine rr_iload_n d_Mo_rule_146 rfl rfl ?_
    refine rr_dup2 d_Mo_rule_147 rfl rfl ?_
    refine rr_iald d_Mo_rule_148 rfl (vp_in_nI (n := e0) (by omega) (by decide)) ?_
    refine rr_iconst 1 d_Mo_rule_149 rfl ?_
    refine rr_iadd d_Mo_rule_150 ?_
    refine rr_iast d_Mo_rule_151 rfl (vp_in_nI (n := e0) (by omega) (by decide)) ?_
    refine rr_aload_n d_Mo_rule_152 rfl rfl ?_
    rw [nI_clamp (by omega), hc0, nI_1]
    refine rr_callV d_Mo_rule_153 il_Mo_148 m_Mo_cellZ (u_cell hn (by omega) h9) rfl rfl rfl rfl (Nat.le_of_ble_eq_true rfl) (Nat.le_of_ble_eq_true rfl) (Nat.le_of_ble_eq_true rfl) (Nat.le_of_ble_eq_true rfl) (Nat.le_of_ble_eq_true rfl) (fun rv9 hp9 hq => ?_)
    obtain ⟨nu2, y2, cd2, rfl, rfl, h92, hok⟩ := hq
    unfold sp_effs at hFl hSl
    unfold sp_eff at hFl hSl i1 i2 hlF
    by_cases k8 : sp_K f n t = 8
    · simp only [if_pos k8] at hFl hSl i1 i2 hlF h92 hok ⊢
      have l8 := sp_lt h0 htM k8 (by decide)
      by_cases k9 : sp_K f n (t + 1) = 9 ∧ sp_V f n (t + 1) < 32
      · simp only [if_pos k9] at hFl hSl i1 i2 hlF h92 hok ⊢
        have l9 := sp_lt h0 l8 k9.1 (by decide)
        obtain ⟨rfl, rfl⟩ := hok trivial
        refine rr_if_eq 175 d_Mo_rule_156 (by decide) (fun c9 => absurd c9 (by decide)) (fun _ => ?_)
        refine rr_aload_n d_Mo_rule_159 rfl rfl ?_
        refine rr_ldcS d_Mo_rule_160 sl_Mo_151 ?_
        by_cases k17 : sp_K f n (t + 2) = 17
        · simp only [if_pos k17] at hFl hSl i1 i2 hlF
          have l17 := sp_lt h0 l9 k17 (by decide)
          refine rr_callV d_Mo_rule_162 il_Mo_145 m_Mo_take (u_take_t 16 (by decide) hn k17) rfl rfl rfl rfl (Nat.le_of_ble_eq_true rfl) (Nat.le_of_ble_eq_true rfl) (Nat.le_of_ble_eq_true rfl) (Nat.le_of_ble_eq_true rfl) (Nat.le_of_ble_eq_true rfl) (fun rv9 hp9 hq => ?_)
          obtain ⟨rfl, nu3, h93, rfl⟩ := hq
          refine rr_if_eq 175 d_Mo_rule_165 (by decide) (fun c9 => absurd c9 (by decide)) (fun _ => ?_)
          refine rr_aload_n d_Mo_rule_168 rfl rfl ?_
          refine rr_callV d_Mo_rule_169 il_Mo_153 m_Mo_whole (u_whole (t := t + 3) hn h0 l17 hp (by omega) h93) rfl rfl rfl rfl (Nat.le_of_ble_eq_true rfl) (Nat.le_of_ble_eq_true rfl) (Nat.le_of_ble_eq_true rfl) (Nat.le_of_ble_eq_true rfl) (Nat.le_of_ble_eq_true rfl) (fun rv9 hp9 hq => ?_)
          obtain ⟨nu4, pa4, y4, cd4, rfl, rfl, h94, hok4⟩ := hq
          by_cases hx : (sp_sum (sp_K f n) (sp_V f n) 6 (t + 3) p).1 = true
          · simp only [if_pos hx] at hFl hSl
            rw [hx]
            obtain ⟨rfl, rfl, rfl⟩ := hok4 hx
            obtain ⟨j1, j2, j3⟩ := i2 hx
            have hlc := hlF hx
            have eEn : (enF (sp_V f n (t + 1), (sp_sum (sp_K f n) (sp_V f n) 6 (t + 3) p).2.2.2)).length = 1 + (en (sp_sum (sp_K f n) (sp_V f n) 6 (t + 3) p).2.2.2 ++ [7]).length := by unfold enF; rw [List.length_append]; rfl
            have hLn : ((es ++ [(sp_V f n (t + 1), (sp_sum (sp_K f n) (sp_V f n) 6 (t + 3) p).2.2.2)]).flatMap enF).length ≤ 4 * ((sp_sum (sp_K f n) (sp_V f n) 6 (t + 3) p).2.2.1 - p0) := by
              rw [flF_app, List.length_append]
              omega
            have eLn : e0 + 1 + (es.flatMap enF).length + 1 + (en (sp_sum (sp_K f n) (sp_V f n) 6 (t + 3) p).2.2.2 ++ [7]).length = e0 + 1 + ((es ++ [(sp_V f n (t + 1), (sp_sum (sp_K f n) (sp_V f n) 6 (t + 3) p).2.2.2)]).flatMap enF).length := by
              have q9 := congrArg List.length (flF_app es (sp_V f n (t + 1), (sp_sum (sp_K f n) (sp_V f n) 6 (t + 3) p).2.2.2))
              rw [List.length_append, eEn] at q9
              omega
            rw [eLn]
            have hw : ∀ j, j < e0 + 1 + (es.flatMap enF).length → sp_wr (upd (upd c e0 (nI (es.length + 1))) (e0 + 1 + (es.flatMap enF).length) (sp_V f n (t + 1))) (e0 + 1 + (es.flatMap enF).length + 1) (en (sp_sum (sp_K f n) (sp_V f n) 6 (t + 3) p).2.2.2 ++ [7]) j = upd c e0 (nI (es.length + 1)) j := fun j hj => by rw [sp_wr_ne _ _ _ _ (by omega), pk_un (by omega)]
            have hc3 : sp_wr (upd (upd c e0 (nI (es.length + 1))) (e0 + 1 + (es.flatMap enF).length) (sp_V f n (t + 1))) (e0 + 1 + (es.flatMap enF).length + 1) (en (sp_sum (sp_K f n) (sp_V f n) 6 (t + 3) p).2.2.2 ++ [7]) e0 = nI (es ++ [(sp_V f n (t + 1), (sp_sum (sp_K f n) (sp_V f n) 6 (t + 3) p).2.2.2)]).length := by
              rw [hw e0 (by omega), pk_us, List.length_append]
              rfl
            have hhn : hd_ (sp_wr (upd (upd c e0 (nI (es.length + 1))) (e0 + 1 + (es.flatMap enF).length) (sp_V f n (t + 1))) (e0 + 1 + (es.flatMap enF).length + 1) (en (sp_sum (sp_K f n) (sp_V f n) 6 (t + 3) p).2.2.2 ++ [7])) (e0 + 1) ((es ++ [(sp_V f n (t + 1), (sp_sum (sp_K f n) (sp_V f n) 6 (t + 3) p).2.2.2)]).flatMap enF) := by
              rw [flF_app]
              refine hd_app.mpr ⟨hd_mono hhd (fun j h1 h2 => ?_), ?_⟩
              · rw [hw j (by omega), pk_un (by omega)]
              · unfold enF
                refine hd_app.mpr ⟨hd_1.mpr ?_, hd_wr _ _ _⟩
                rw [sp_wr_ne _ _ _ _ (by omega), pk_us]
            have hfn : ∀ j, j < e0 → sp_wr (upd (upd c e0 (nI (es.length + 1))) (e0 + 1 + (es.flatMap enF).length) (sp_V f n (t + 1))) (e0 + 1 + (es.flatMap enF).length + 1) (en (sp_sum (sp_K f n) (sp_V f n) 6 (t + 3) p).2.2.2 ++ [7]) j = c0 j := fun j hj => by rw [hw j (by omega), pk_un (by omega), hfr j hj]
            generalize sp_wr (upd (upd c e0 (nI (es.length + 1))) (e0 + 1 + (es.flatMap enF).length) (sp_V f n (t + 1))) (e0 + 1 + (es.flatMap enF).length + 1) (en (sp_sum (sp_K f n) (sp_V f n) 6 (t + 3) p).2.2.2 ++ [7]) = cd5 at hc3 hhn hfn ⊢
            refine rr_if_ne 177 d_Mo_rule_172 (by decide) (fun _ => ?_) (fun c9 => absurd c9 (by decide))
            refine rr_aload_n d_Mo_rule_177 rfl rfl ?_
            refine rr_ldcS d_Mo_rule_178 sl_Mo_156 ?_
            by_cases k18 : sp_K f n (sp_sum (sp_K f n) (sp_V f n) 6 (t + 3) p).2.1 = 18
            · simp only [if_pos k18] at hFl hSl
              have l18 := sp_lt h0 i1 k18 (by decide)
              refine rr_callV d_Mo_rule_180 il_Mo_61 m_Mo_is (u_is_t 17 (by decide) hn k18) rfl rfl rfl rfl (Nat.le_of_ble_eq_true rfl) (Nat.le_of_ble_eq_true rfl) (Nat.le_of_ble_eq_true rfl) (Nat.le_of_ble_eq_true rfl) (Nat.le_of_ble_eq_true rfl) (fun rv9 hp9 hq => ?_)
              obtain ⟨rfl, rfl⟩ := hq
              refine rr_istore_n d_Mo_rule_183 rfl (by decide) ?_
              refine rr_iload_n d_Mo_rule_184 rfl rfl ?_
              refine rr_if_eq 122 d_Mo_rule_185 (by decide) (fun c9 => absurd c9 (by decide)) (fun _ => ?_)
              refine rr_aload_n d_Mo_rule_188 rfl rfl ?_
              refine rr_callV d_Mo_rule_189 il_Mo_117 m_Mo_step (t_step hn) rfl rfl rfl rfl (Nat.le_of_ble_eq_true rfl) (Nat.le_of_ble_eq_true rfl) (Nat.le_of_ble_eq_true rfl) (Nat.le_of_ble_eq_true rfl) (Nat.le_of_ble_eq_true rfl) (fun rv9 hp9 hq => ?_)
              obtain ⟨rfl, nu6, h96, rfl⟩ := hq
              refine rr_goto 122 d_Mo_rule_192 (by decide) ?_
              exact rr_lvs _ rfl (ih ((sp_sum (sp_K f n) (sp_V f n) 6 (t + 3) p).2.1 + 1) (sp_sum (sp_K f n) (sp_V f n) 6 (t + 3) p).2.2.1 nu6 (es ++ [(sp_V f n (t + 1), (sp_sum (sp_K f n) (sp_V f n) 6 (t + 3) p).2.2.2)]) cd5 (by simp; omega) l18 j2 (by omega) hLn hc3 hhn hfn h96 hFl hSl)
            · simp only [if_neg k18] at hFl hSl
              refine rr_callV d_Mo_rule_180 il_Mo_61 m_Mo_is (u_is_f 17 (by decide) hn k18) rfl rfl rfl rfl (Nat.le_of_ble_eq_true rfl) (Nat.le_of_ble_eq_true rfl) (Nat.le_of_ble_eq_true rfl) (Nat.le_of_ble_eq_true rfl) (Nat.le_of_ble_eq_true rfl) (fun rv9 hp9 hq => ?_)
              obtain ⟨rfl, rfl⟩ := hq
              refine rr_istore_n d_Mo_rule_183 rfl (by decide) ?_
              refine rr_iload_n d_Mo_rule_184 rfl rfl ?_
              refine rr_if_eq 122 d_Mo_rule_185 (by decide) (fun _ => ?_) (fun c9 => absurd (rfl) c9)
              refine rr_iload_n d_Mo_rule_122 rfl rfl ?_
              refine rr_if_eq 195 d_Mo_rule_123 (by decide) (fun _ => ?_) (fun c9 => absurd (rfl) c9)
              refine rr_iconst 1 d_Mo_rule_195 rfl ?_
              exact rr_ireturn d_Mo_rule_196 rfl rfl (Nat.le_of_ble_eq_true rfl) (Nat.le_of_ble_eq_true rfl) (hSl nu4 cd5 (by first | rfl | trivial) h94 hc3 hhn hfn)
          · simp only [if_neg hx] at hFl hSl
            rw [(Bool.not_eq_true _).mp hx]
            refine rr_if_ne 177 d_Mo_rule_172 (by decide) (fun c9 => absurd (rfl) c9) (fun _ => ?_)
            refine rr_iconst 0 d_Mo_rule_175 rfl ?_
            exact rr_ireturn d_Mo_rule_176 rfl rfl (Nat.le_of_ble_eq_true rfl) (Nat.le_of_ble_eq_true rfl) (hFl nu4 pa4 y4 cd4 (by first | rfl | trivial) h94)
        · simp only [if_neg k17] at hFl hSl
          refine rr_callV d_Mo_rule_162 il_Mo_145 m_Mo_take (u_take_f 16 (by decide) hn k17) rfl rfl rfl rfl (Nat.le_of_ble_eq_true rfl) (Nat.le_of_ble_eq_true rfl) (Nat.le_of_ble_eq_true rfl) (Nat.le_of_ble_eq_true rfl) (Nat.le_of_ble_eq_true rfl) (fun rv9 hp9 hq => ?_)
          obtain ⟨rfl, rfl⟩ := hq
          refine rr_if_eq 175 d_Mo_rule_165 (by decide) (fun _ => ?_) (fun c9 => absurd (rfl) c9)
          refine rr_iconst 0 d_Mo_rule_175 rfl ?_
          exact rr_ireturn d_Mo_rule_176 rfl rfl (Nat.le_of_ble_eq_true rfl) (Nat.le_of_ble_eq_true rfl) (hFl nu2 _ _ _ (by first | rfl | trivial) h92)
      · simp only [if_neg k9] at hFl hSl h92 hok ⊢
        refine rr_if_eq 175 d_Mo_rule_156 (by decide) (fun _ => ?_) (fun c9 => absurd (rfl) c9)
        refine rr_iconst 0 d_Mo_rule_175 rfl ?_
        exact rr_ireturn d_Mo_rule_176 rfl rfl (Nat.le_of_ble_eq_true rfl) (Nat.le_of_ble_eq_true rfl) (hFl nu2 _ _ _ (by first | rfl | trivial) h92)
    · simp only [if_neg k8] at hFl hSl h92 hok ⊢
      refine rr_if_eq 175 d_Mo_rule_156 (by decide) (fun _ => ?_) (fun c9 => absurd (rfl) c9)
      refine rr_iconst 0 d_Mo_rule_175 rfl ?_
      exact rr_ireturn d_Mo_rule_176 rfl rfl (Nat.le_of_ble_eq_true rfl) (Nat.le_of_ble_eq_true rfl) (hFl nu2 _ _ _ (by first | rfl | trivial) h92)
