/-! The reference: a step, and what its tokens are. -/
theorem wk_some {f : Nat → Int32} {q e j : Nat} (hj : j ≤ 6) (h : sp_spell f q e j = true) : mk (sp_wk f q e) = 1 := by
  unfold sp_wk
  repeat' split
  all_goals first | rfl | skip
  rename_i h6 h0 h1 h2 h3 h4 h5
  rcases (show j = 0 ∨ j = 1 ∨ j = 2 ∨ j = 3 ∨ j = 4 ∨ j = 5 ∨ j = 6 by omega) with rfl | rfl | rfl | rfl | rfl | rfl | rfl <;> contradiction
theorem sp_pos_le {f : Nat → Int32} {n : Nat} : ∀ k, sp_pos f n k ≤ n
  | 0 => Nat.zero_le _
  | k + 1 => by
    show (sp_next f n (sp_pos f n k)).2.2.2 ≤ n
    unfold sp_next
    dsimp only
    split
    · rename_i h
      exact (sp_tok_end h).2
    · exact Nat.le_refl _

set_option maxRecDepth 100000 in
set_option maxHeartbeats 4000000 in
theorem s_Mo_step {x0 x1 x2 x3 x4 x5 x6 x7 x8 x9 x10 x11 x12 x13 x14 x15 x16 x17 x18 x19 x20 x21 x22 x23 : va_E} {g : rr_H} {tm ru fa pa my pcv fr0 to0 kd0 : Int32} {lt : Value} {nu : Int64} {f : Nat → Int32} {n p : Nat} (hn : n ≤ 400) (hp : p ≤ n) : rr_Spec 5 y_Mo_step c_Mo_step 3 none 0 0 [.ref 24] (x0 :: x1 :: x2 :: x3 :: x4 :: x5 :: x6 :: x7 :: x8 :: x9 :: x10 :: x11 :: x12 :: x13 :: x14 :: x15 :: x16 :: x17 :: x18 :: x19 :: x20 :: x21 :: x22 :: x23 :: .inr (6, [.ref 25, .int tm, lt, .ref 26, .int ru, .int (nI p), .int (nI n), .int kd0, .int fr0, .int to0, .int fa, .int pa, .long nu, .ref 27, .int my, .ref 28, .ref 29, .ref 30, .ref 31, .int pcv]) :: .inl (1, 400, .inl f) :: g) (fun r h1 => r = none ∧ ∃ nu2 : Int64, ((sp_next f n p).1 = 9 → nu2 = (sp_next f n p).2.1.toInt64) ∧ h1 = x0 :: x1 :: x2 :: x3 :: x4 :: x5 :: x6 :: x7 :: x8 :: x9 :: x10 :: x11 :: x12 :: x13 :: x14 :: x15 :: x16 :: x17 :: x18 :: x19 :: x20 :: x21 :: x22 :: x23 :: .inr (6, [.ref 25, .int tm, lt, .ref 26, .int ru, .int (nI (sp_next f n p).2.2.2), .int (nI n), .int (nI (mk (sp_next f n p).1)), .int (nI (sp_next f n p).2.2.1), .int (nI (sp_next f n p).2.2.2), .int fa, .int pa, .long nu2, .ref 27, .int my, .ref 28, .ref 29, .ref 30, .ref 31, .int pcv]) :: .inl (1, 400, .inl f) :: g) := by
  refine rr_met (own := R_Mo) (kd := (false, none)) (by decide +kernel) rfl (fun h => by cases h) rfl (Nat.le_of_ble_eq_true rfl) ?_
  refine l_skip hn (n - p) p (by omega) ?_
  have hr := sp_run_ge (P := fun x => decide (x = 32)) (f := f) (n - p) p
  generalize hqe : sp_run (fun x => decide (x = 32)) f p (n - p) = q at hr ⊢
  have fin : ∀ (k : Nat) (v : Int32) (e : Nat) (to1 : Int32) (nu2 : Int64) (lv : List (Nat × Value)), sp_next f n p = (k, v, q, e) → (k = 9 → nu2 = v.toInt64) → rr_get lv 0 = some (.ref 24) → rr_A R_Mo c_Mo_step 3 none (false, none) { frames := 5, cells := 0, slots := 0, locals := 5 * 64 } (fun r h1 => r = none ∧ ∃ nu2 : Int64, ((sp_next f n p).1 = 9 → nu2 = (sp_next f n p).2.1.toInt64) ∧ h1 = x0 :: x1 :: x2 :: x3 :: x4 :: x5 :: x6 :: x7 :: x8 :: x9 :: x10 :: x11 :: x12 :: x13 :: x14 :: x15 :: x16 :: x17 :: x18 :: x19 :: x20 :: x21 :: x22 :: x23 :: .inr (6, [.ref 25, .int tm, lt, .ref 26, .int ru, .int (nI (sp_next f n p).2.2.2), .int (nI n), .int (nI (mk (sp_next f n p).1)), .int (nI (sp_next f n p).2.2.1), .int (nI (sp_next f n p).2.2.2), .int fa, .int pa, .long nu2, .ref 27, .int my, .ref 28, .ref 29, .ref 30, .ref 31, .int pcv]) :: .inl (1, 400, .inl f) :: g) 0 0 460 lv [] (x0 :: x1 :: x2 :: x3 :: x4 :: x5 :: x6 :: x7 :: x8 :: x9 :: x10 :: x11 :: x12 :: x13 :: x14 :: x15 :: x16 :: x17 :: x18 :: x19 :: x20 :: x21 :: x22 :: x23 :: .inr (6, [.ref 25, .int tm, lt, .ref 26, .int ru, .int (nI e), .int (nI n), .int (nI (mk k)), .int (nI q), .int to1, .int fa, .int pa, .long nu2, .ref 27, .int my, .ref 28, .ref 29, .ref 30, .ref 31, .int pcv]) :: .inl (1, 400, .inl f) :: g) := by
    intro k v e to1 nu2 lv hT h9 hlv
    refine rr_aload_n d_Mo_step_460 rfl hlv ?_
    refine rr_aload_n d_Mo_step_461 rfl hlv ?_
    refine rr_getf d_Mo_step_462 fl_Mo_40 rfl rfl ?_
    refine rr_putf d_Mo_step_465 fl_Mo_56 rfl rfl rfl rfl ?_
    rw [hT]
    exact rr_return d_Mo_step_468 rfl (Nat.le_of_ble_eq_true rfl) (Nat.le_of_ble_eq_true rfl) (⟨rfl, nu2, h9, rfl⟩)
  by_cases hq : q < n
  · have eT : sp_next f n p = ((sp_tok f n q).1, (sp_tok f n q).2.1, q, (sp_tok f n q).2.2) := by
      unfold sp_next
      rw [hqe]
      exact if_pos hq
    have hiv : vp_in (nI q) 400 := vp_in_nI (by omega) (by decide)
    refine rr_aload_n d_Mo_step_38 rfl rfl ?_
    refine rr_aload_n d_Mo_step_39 rfl rfl ?_
    refine rr_getf d_Mo_step_40 fl_Mo_40 rfl rfl ?_
    refine rr_putf d_Mo_step_43 fl_Mo_46 rfl rfl rfl rfl ?_
    refine rr_aload_n d_Mo_step_46 rfl rfl ?_
    refine rr_getf d_Mo_step_47 fl_Mo_40 rfl rfl ?_
    refine rr_aload_n d_Mo_step_50 rfl rfl ?_
    refine rr_getf d_Mo_step_51 fl_Mo_43 rfl rfl ?_
    refine rr_icmp_ne 65 d_Mo_step_54 (by decide) (fun _ => ?_) (fun c9 => absurd c9 (fun z => absurd ((nI_eq (by omega) (by omega)).mp z) (by omega)))
    refine rr_aload_n d_Mo_step_65 rfl rfl ?_
    refine rr_getf d_Mo_step_66 fl_Mo_9 rfl rfl ?_
    refine rr_aload_n d_Mo_step_69 rfl rfl ?_
    refine rr_getf d_Mo_step_70 fl_Mo_40 rfl rfl ?_
    refine rr_bald d_Mo_step_73 rfl (hiv) ?_
    rw [nI_clamp (n := q) (by omega)]
    refine rr_callS d_Mo_step_74 il_Mo_52 m_Mo_isLetter (s_Mo_isLetter) rfl rfl (Nat.le_of_ble_eq_true rfl) (Nat.le_of_ble_eq_true rfl) (Nat.le_of_ble_eq_true rfl) (Nat.le_of_ble_eq_true rfl) (Nat.le_of_ble_eq_true rfl) (fun rv9 hp9 hq => ?_)
    obtain ⟨rfl, rfl⟩ := hq
    by_cases hL : sp_isL (f q) = true
    · have e : sp_tok f n q = (sp_wk f q (sp_run sp_isL f q (n - q)), 0, sp_run sp_isL f q (n - q)) := by unfold sp_tok; rw [if_pos hL]
      rw [e] at eT
      rw [hL]
      have hge := sp_run_ge (P := sp_isL) (f := f) (n - q) q
      refine rr_if_eq 203 d_Mo_step_77 (by decide) (fun c9 => absurd c9 (by decide)) (fun _ => ?_)
      refine l_word hn (n - q) q (by omega) ?_
      generalize hee : sp_run sp_isL f q (n - q) = e1 at eT hge ⊢
      refine rr_aload_n d_Mo_step_119 rfl rfl ?_
      refine rr_aload_n d_Mo_step_120 rfl rfl ?_
      refine rr_getf d_Mo_step_121 fl_Mo_40 rfl rfl ?_
      refine rr_putf d_Mo_step_124 fl_Mo_56 rfl rfl rfl rfl ?_
      refine rr_aload_n d_Mo_step_127 rfl rfl ?_
      refine rr_iconst 1 d_Mo_step_128 rfl ?_
      refine rr_putf d_Mo_step_129 fl_Mo_49 rfl rfl rfl rfl ?_
      refine rr_aload_n d_Mo_step_132 rfl rfl ?_
      refine rr_ldcS d_Mo_step_133 sl_Mo_59 ?_
      refine rr_callV d_Mo_step_135 il_Mo_61 m_Mo_is (s_Mo_is (j := 0) (kd := 1) (p := q) (e := e1) (by decide) (by decide) (by omega) (by omega)) rfl rfl rfl rfl (Nat.le_of_ble_eq_true rfl) (Nat.le_of_ble_eq_true rfl) (Nat.le_of_ble_eq_true rfl) (Nat.le_of_ble_eq_true rfl) (Nat.le_of_ble_eq_true rfl) (fun rv9 hp9 hq => ?_)
      obtain ⟨rfl, rfl⟩ := hq
      rw [show decide ((1 : Nat) = 1 ∨ (1 : Nat) = 3) = true from rfl, Bool.true_and]
      by_cases b0 : sp_spell f q e1 0 = true
      · rw [b0]
        refine rr_if_ne 460 d_Mo_step_138 (by decide) (fun _ => ?_) (fun c9 => absurd c9 (by decide))
        have hm := wk_some (j := 0) (by decide) b0
        have := fin (sp_wk f q e1) 0 e1 (nI e1) nu [(0, .ref 24)] eT (fun h9 => absurd hm (by rw [h9]; decide)) rfl
        rw [hm] at this
        exact this
      rw [(Bool.not_eq_true _).mp b0]
      refine rr_if_ne 460 d_Mo_step_138 (by decide) (fun c9 => absurd (rfl) c9) (fun _ => ?_)
      refine rr_aload_n d_Mo_step_141 rfl rfl ?_
      refine rr_ldcS d_Mo_step_142 sl_Mo_65 ?_
      refine rr_callV d_Mo_step_144 il_Mo_61 m_Mo_is (s_Mo_is (j := 1) (kd := 1) (p := q) (e := e1) (by decide) (by decide) (by omega) (by omega)) rfl rfl rfl rfl (Nat.le_of_ble_eq_true rfl) (Nat.le_of_ble_eq_true rfl) (Nat.le_of_ble_eq_true rfl) (Nat.le_of_ble_eq_true rfl) (Nat.le_of_ble_eq_true rfl) (fun rv9 hp9 hq => ?_)
      obtain ⟨rfl, rfl⟩ := hq
      rw [show decide ((1 : Nat) = 1 ∨ (1 : Nat) = 3) = true from rfl, Bool.true_and]
      by_cases b1 : sp_spell f q e1 1 = true
      · rw [b1]
        refine rr_if_ne 460 d_Mo_step_147 (by decide) (fun _ => ?_) (fun c9 => absurd c9 (by decide))
        have hm := wk_some (j := 1) (by decide) b1
        have := fin (sp_wk f q e1) 0 e1 (nI e1) nu [(0, .ref 24)] eT (fun h9 => absurd hm (by rw [h9]; decide)) rfl
        rw [hm] at this
        exact this
      rw [(Bool.not_eq_true _).mp b1]
      refine rr_if_ne 460 d_Mo_step_147 (by decide) (fun c9 => absurd (rfl) c9) (fun _ => ?_)
      refine rr_aload_n d_Mo_step_150 rfl rfl ?_
      refine rr_ldcS d_Mo_step_151 sl_Mo_67 ?_
      refine rr_callV d_Mo_step_153 il_Mo_61 m_Mo_is (s_Mo_is (j := 2) (kd := 1) (p := q) (e := e1) (by decide) (by decide) (by omega) (by omega)) rfl rfl rfl rfl (Nat.le_of_ble_eq_true rfl) (Nat.le_of_ble_eq_true rfl) (Nat.le_of_ble_eq_true rfl) (Nat.le_of_ble_eq_true rfl) (Nat.le_of_ble_eq_true rfl) (fun rv9 hp9 hq => ?_)
      obtain ⟨rfl, rfl⟩ := hq
      rw [show decide ((1 : Nat) = 1 ∨ (1 : Nat) = 3) = true from rfl, Bool.true_and]
      by_cases b2 : sp_spell f q e1 2 = true
      · rw [b2]
        refine rr_if_ne 460 d_Mo_step_156 (by decide) (fun _ => ?_) (fun c9 => absurd c9 (by decide))
        have hm := wk_some (j := 2) (by decide) b2
        have := fin (sp_wk f q e1) 0 e1 (nI e1) nu [(0, .ref 24)] eT (fun h9 => absurd hm (by rw [h9]; decide)) rfl
        rw [hm] at this
        exact this
      rw [(Bool.not_eq_true _).mp b2]
      refine rr_if_ne 460 d_Mo_step_156 (by decide) (fun c9 => absurd (rfl) c9) (fun _ => ?_)
      refine rr_aload_n d_Mo_step_159 rfl rfl ?_
      refine rr_ldcS d_Mo_step_160 sl_Mo_69 ?_
      refine rr_callV d_Mo_step_162 il_Mo_61 m_Mo_is (s_Mo_is (j := 3) (kd := 1) (p := q) (e := e1) (by decide) (by decide) (by omega) (by omega)) rfl rfl rfl rfl (Nat.le_of_ble_eq_true rfl) (Nat.le_of_ble_eq_true rfl) (Nat.le_of_ble_eq_true rfl) (Nat.le_of_ble_eq_true rfl) (Nat.le_of_ble_eq_true rfl) (fun rv9 hp9 hq => ?_)
      obtain ⟨rfl, rfl⟩ := hq
      rw [show decide ((1 : Nat) = 1 ∨ (1 : Nat) = 3) = true from rfl, Bool.true_and]
      by_cases b3 : sp_spell f q e1 3 = true
      · rw [b3]
        refine rr_if_ne 460 d_Mo_step_165 (by decide) (fun _ => ?_) (fun c9 => absurd c9 (by decide))
        have hm := wk_some (j := 3) (by decide) b3
        have := fin (sp_wk f q e1) 0 e1 (nI e1) nu [(0, .ref 24)] eT (fun h9 => absurd hm (by rw [h9]; decide)) rfl
        rw [hm] at this
        exact this
      rw [(Bool.not_eq_true _).mp b3]
      refine rr_if_ne 460 d_Mo_step_165 (by decide) (fun c9 => absurd (rfl) c9) (fun _ => ?_)
      refine rr_aload_n d_Mo_step_168 rfl rfl ?_
      refine rr_ldcS d_Mo_step_169 sl_Mo_71 ?_
      refine rr_callV d_Mo_step_171 il_Mo_61 m_Mo_is (s_Mo_is (j := 4) (kd := 1) (p := q) (e := e1) (by decide) (by decide) (by omega) (by omega)) rfl rfl rfl rfl (Nat.le_of_ble_eq_true rfl) (Nat.le_of_ble_eq_true rfl) (Nat.le_of_ble_eq_true rfl) (Nat.le_of_ble_eq_true rfl) (Nat.le_of_ble_eq_true rfl) (fun rv9 hp9 hq => ?_)
      obtain ⟨rfl, rfl⟩ := hq
      rw [show decide ((1 : Nat) = 1 ∨ (1 : Nat) = 3) = true from rfl, Bool.true_and]
      by_cases b4 : sp_spell f q e1 4 = true
      · rw [b4]
        refine rr_if_ne 460 d_Mo_step_174 (by decide) (fun _ => ?_) (fun c9 => absurd c9 (by decide))
        have hm := wk_some (j := 4) (by decide) b4
        have := fin (sp_wk f q e1) 0 e1 (nI e1) nu [(0, .ref 24)] eT (fun h9 => absurd hm (by rw [h9]; decide)) rfl
        rw [hm] at this
        exact this
      rw [(Bool.not_eq_true _).mp b4]
      refine rr_if_ne 460 d_Mo_step_174 (by decide) (fun c9 => absurd (rfl) c9) (fun _ => ?_)
      refine rr_aload_n d_Mo_step_177 rfl rfl ?_
      refine rr_ldcS d_Mo_step_178 sl_Mo_73 ?_
      refine rr_callV d_Mo_step_180 il_Mo_61 m_Mo_is (s_Mo_is (j := 5) (kd := 1) (p := q) (e := e1) (by decide) (by decide) (by omega) (by omega)) rfl rfl rfl rfl (Nat.le_of_ble_eq_true rfl) (Nat.le_of_ble_eq_true rfl) (Nat.le_of_ble_eq_true rfl) (Nat.le_of_ble_eq_true rfl) (Nat.le_of_ble_eq_true rfl) (fun rv9 hp9 hq => ?_)
      obtain ⟨rfl, rfl⟩ := hq
      rw [show decide ((1 : Nat) = 1 ∨ (1 : Nat) = 3) = true from rfl, Bool.true_and]
      by_cases b5 : sp_spell f q e1 5 = true
      · rw [b5]
        refine rr_if_ne 460 d_Mo_step_183 (by decide) (fun _ => ?_) (fun c9 => absurd c9 (by decide))
        have hm := wk_some (j := 5) (by decide) b5
        have := fin (sp_wk f q e1) 0 e1 (nI e1) nu [(0, .ref 24)] eT (fun h9 => absurd hm (by rw [h9]; decide)) rfl
        rw [hm] at this
        exact this
      rw [(Bool.not_eq_true _).mp b5]
      refine rr_if_ne 460 d_Mo_step_183 (by decide) (fun c9 => absurd (rfl) c9) (fun _ => ?_)
      refine rr_aload_n d_Mo_step_186 rfl rfl ?_
      refine rr_ldcS d_Mo_step_187 sl_Mo_75 ?_
      refine rr_callV d_Mo_step_189 il_Mo_61 m_Mo_is (s_Mo_is (j := 6) (kd := 1) (p := q) (e := e1) (by decide) (by decide) (by omega) (by omega)) rfl rfl rfl rfl (Nat.le_of_ble_eq_true rfl) (Nat.le_of_ble_eq_true rfl) (Nat.le_of_ble_eq_true rfl) (Nat.le_of_ble_eq_true rfl) (Nat.le_of_ble_eq_true rfl) (fun rv9 hp9 hq => ?_)
      obtain ⟨rfl, rfl⟩ := hq
      rw [show decide ((1 : Nat) = 1 ∨ (1 : Nat) = 3) = true from rfl, Bool.true_and]
      by_cases b6 : sp_spell f q e1 6 = true
      · rw [b6]
        refine rr_if_ne 460 d_Mo_step_192 (by decide) (fun _ => ?_) (fun c9 => absurd c9 (by decide))
        have hm := wk_some (j := 6) (by decide) b6
        have := fin (sp_wk f q e1) 0 e1 (nI e1) nu [(0, .ref 24)] eT (fun h9 => absurd hm (by rw [h9]; decide)) rfl
        rw [hm] at this
        exact this
      rw [(Bool.not_eq_true _).mp b6]
      refine rr_if_ne 460 d_Mo_step_192 (by decide) (fun c9 => absurd (rfl) c9) (fun _ => ?_)
      refine rr_aload_n d_Mo_step_195 rfl rfl ?_
      refine rr_iconst 4 d_Mo_step_196 rfl ?_
      refine rr_putf d_Mo_step_197 fl_Mo_49 rfl rfl rfl rfl ?_
      refine rr_goto 460 d_Mo_step_200 (by decide) ?_
      have hw : sp_wk f q e1 = 1 := by
        unfold sp_wk
        rw [if_neg b6, if_neg b0, if_neg b1, if_neg b2, if_neg b3, if_neg b4, if_neg b5]
      rw [hw] at eT
      exact fin 1 0 e1 (nI e1) nu [(0, .ref 24)] eT (fun h9 => absurd h9 (by decide)) rfl
    rw [(Bool.not_eq_true _).mp hL]
    refine rr_if_eq 203 d_Mo_step_77 (by decide) (fun _ => ?_) (fun c9 => absurd (rfl) c9)
    refine rr_aload_n d_Mo_step_203 rfl rfl ?_
    refine rr_getf d_Mo_step_204 fl_Mo_9 rfl rfl ?_
    refine rr_aload_n d_Mo_step_207 rfl rfl ?_
    refine rr_getf d_Mo_step_208 fl_Mo_40 rfl rfl ?_
    refine rr_bald d_Mo_step_211 rfl (hiv) ?_
    rw [nI_clamp (n := q) (by omega)]
    refine rr_callS d_Mo_step_212 il_Mo_77 m_Mo_isDigit (s_Mo_isDigit) rfl rfl (Nat.le_of_ble_eq_true rfl) (Nat.le_of_ble_eq_true rfl) (Nat.le_of_ble_eq_true rfl) (Nat.le_of_ble_eq_true rfl) (Nat.le_of_ble_eq_true rfl) (fun rv9 hp9 hq => ?_)
    obtain ⟨rfl, rfl⟩ := hq
    by_cases hD : sp_isD (f q) = true
    · have e : sp_tok f n q = if sp_nv f q (n - q) 0 < 2147483648 then (9, nI (sp_nv f q (n - q) 0), sp_run sp_isD f q (n - q)) else (1, 0, sp_run sp_isD f q (n - q)) := by unfold sp_tok; rw [if_neg hL, if_pos hD]
      rw [e] at eT
      rw [hD]
      refine rr_if_eq 318 d_Mo_step_215 (by decide) (fun c9 => absurd c9 (by decide)) (fun _ => ?_)
      refine rr_aload_n d_Mo_step_218 rfl rfl ?_
      refine rr_lconst 0 d_Mo_step_219 rfl ?_
      refine rr_putf d_Mo_step_220 fl_Mo_80 rfl rfl rfl rfl ?_
      refine l_digs hn (n - q) q 0 (by omega) ?_
      refine rr_aload_n d_Mo_step_295 rfl rfl ?_
      refine rr_aload_n d_Mo_step_296 rfl rfl ?_
      refine rr_getf d_Mo_step_297 fl_Mo_80 rfl rfl ?_
      refine rr_ldc2 d_Mo_step_300 kl_Mo_98 ?_
      refine rr_lcmp d_Mo_step_303 ?_
      by_cases hv : sp_nv f q (n - q) 0 < 2147483648
      · rw [if_pos hv] at eT
        refine rr_if_gt 311 d_Mo_step_304 (by decide) (fun c9 => absurd c9 (fun z => nu_endF.mp z hv)) (fun _ => ?_)
        refine rr_iconst 2 d_Mo_step_307 rfl ?_
        refine rr_goto 312 d_Mo_step_308 (by decide) ?_
        refine rr_putf d_Mo_step_312 fl_Mo_49 rfl rfl rfl rfl ?_
        refine rr_goto 460 d_Mo_step_315 (by decide) ?_
        exact fin 9 _ _ _ _ [(0, .ref 24)] eT (fun _ => by rw [Nat.min_eq_left (by omega), nI_l (by omega)]) rfl
      · rw [if_neg hv] at eT
        refine rr_if_gt 311 d_Mo_step_304 (by decide) (fun _ => ?_) (fun c9 => absurd (nu_endF.mpr hv) c9)
        refine rr_iconst 4 d_Mo_step_311 rfl ?_
        refine rr_putf d_Mo_step_312 fl_Mo_49 rfl rfl rfl rfl ?_
        refine rr_goto 460 d_Mo_step_315 (by decide) ?_
        exact fin 1 _ _ _ _ [(0, .ref 24)] eT (fun h9 => absurd h9 (by decide)) rfl
    rw [(Bool.not_eq_true _).mp hD]
    refine rr_if_eq 318 d_Mo_step_215 (by decide) (fun _ => ?_) (fun c9 => absurd (rfl) c9)
    refine rr_aload_n d_Mo_step_318 rfl rfl ?_
    refine rr_getf d_Mo_step_319 fl_Mo_9 rfl rfl ?_
    refine rr_aload_n d_Mo_step_322 rfl rfl ?_
    refine rr_getf d_Mo_step_323 fl_Mo_40 rfl rfl ?_
    refine rr_bald d_Mo_step_326 rfl (hiv) ?_
    refine rr_istore_n d_Mo_step_327 rfl (by decide) ?_
    refine rr_iload_n d_Mo_step_328 rfl rfl ?_
    refine rr_bipush 58 d_Mo_step_329 rfl ?_
    rw [nI_clamp (n := q) (by omega)]
    have eN : ¬ (f q = 58 ∧ q + 1 < n ∧ f (q + 1) = 61) → rr_A R_Mo c_Mo_step 3 none (false, none) { frames := 5, cells := 0, slots := 0, locals := 5 * 64 } (fun r h1 => r = none ∧ ∃ nu2 : Int64, ((sp_next f n p).1 = 9 → nu2 = (sp_next f n p).2.1.toInt64) ∧ h1 = x0 :: x1 :: x2 :: x3 :: x4 :: x5 :: x6 :: x7 :: x8 :: x9 :: x10 :: x11 :: x12 :: x13 :: x14 :: x15 :: x16 :: x17 :: x18 :: x19 :: x20 :: x21 :: x22 :: x23 :: .inr (6, [.ref 25, .int tm, lt, .ref 26, .int ru, .int (nI (sp_next f n p).2.2.2), .int (nI n), .int (nI (mk (sp_next f n p).1)), .int (nI (sp_next f n p).2.2.1), .int (nI (sp_next f n p).2.2.2), .int fa, .int pa, .long nu2, .ref 27, .int my, .ref 28, .ref 29, .ref 30, .ref 31, .int pcv]) :: .inl (1, 400, .inl f) :: g) 0 0 367 [(1, .int (f q)), (0, .ref 24)] [] (x0 :: x1 :: x2 :: x3 :: x4 :: x5 :: x6 :: x7 :: x8 :: x9 :: x10 :: x11 :: x12 :: x13 :: x14 :: x15 :: x16 :: x17 :: x18 :: x19 :: x20 :: x21 :: x22 :: x23 :: .inr (6, [.ref 25, .int tm, lt, .ref 26, .int ru, .int (nI q), .int (nI n), .int kd0, .int (nI q), .int to0, .int fa, .int pa, .long nu, .ref 27, .int my, .ref 28, .ref 29, .ref 30, .ref 31, .int pcv]) :: .inl (1, 400, .inl f) :: g) := by
      intro hN
      have e : sp_tok f n q = (sp_sk (f q), 0, q + 1) := by unfold sp_tok; rw [if_neg hL, if_neg hD, if_neg hN]
      rw [e] at eT
      have fin2 : ∀ kk : Int32, kk = nI (mk (sp_sk (f q))) → rr_A R_Mo c_Mo_step 3 none (false, none) { frames := 5, cells := 0, slots := 0, locals := 5 * 64 } (fun r h1 => r = none ∧ ∃ nu2 : Int64, ((sp_next f n p).1 = 9 → nu2 = (sp_next f n p).2.1.toInt64) ∧ h1 = x0 :: x1 :: x2 :: x3 :: x4 :: x5 :: x6 :: x7 :: x8 :: x9 :: x10 :: x11 :: x12 :: x13 :: x14 :: x15 :: x16 :: x17 :: x18 :: x19 :: x20 :: x21 :: x22 :: x23 :: .inr (6, [.ref 25, .int tm, lt, .ref 26, .int ru, .int (nI (sp_next f n p).2.2.2), .int (nI n), .int (nI (mk (sp_next f n p).1)), .int (nI (sp_next f n p).2.2.1), .int (nI (sp_next f n p).2.2.2), .int fa, .int pa, .long nu2, .ref 27, .int my, .ref 28, .ref 29, .ref 30, .ref 31, .int pcv]) :: .inl (1, 400, .inl f) :: g) 0 0 439 [(2, .int 0), (1, .int (f q)), (0, .ref 24)] [.int kk, .ref 24] (x0 :: x1 :: x2 :: x3 :: x4 :: x5 :: x6 :: x7 :: x8 :: x9 :: x10 :: x11 :: x12 :: x13 :: x14 :: x15 :: x16 :: x17 :: x18 :: x19 :: x20 :: x21 :: x22 :: x23 :: .inr (6, [.ref 25, .int tm, lt, .ref 26, .int ru, .int (nI q), .int (nI n), .int kd0, .int (nI q), .int to0, .int fa, .int pa, .long nu, .ref 27, .int my, .ref 28, .ref 29, .ref 30, .ref 31, .int pcv]) :: .inl (1, 400, .inl f) :: g) := by
        rintro kk rfl
        refine rr_putf d_Mo_step_439 fl_Mo_49 rfl rfl rfl rfl ?_
        refine rr_aload_n d_Mo_step_442 rfl rfl ?_
        refine rr_dup d_Mo_step_443 rfl ?_
        refine rr_getf d_Mo_step_444 fl_Mo_40 rfl rfl ?_
        refine rr_iload_n d_Mo_step_447 rfl rfl ?_
        refine rr_if_eq 455 d_Mo_step_448 (by decide) (fun _ => ?_) (fun c9 => absurd (rfl) c9)
        refine rr_iconst 1 d_Mo_step_455 rfl ?_
        refine rr_iadd d_Mo_step_456 ?_
        refine rr_putf d_Mo_step_457 fl_Mo_40 rfl rfl rfl rfl ?_
        rw [nI_1]
        refine fin _ _ (q + 1) _ _ _ eT (fun h9 => ?_) rfl
        exfalso
        revert h9
        show sp_sk (f q) = 9 → False
        unfold sp_sk
        repeat' split
        all_goals decide
      refine rr_iconst 0 d_Mo_step_367 rfl ?_
      refine rr_istore_n d_Mo_step_368 rfl (by decide) ?_
      refine rr_aload_n d_Mo_step_369 rfl rfl ?_
      refine rr_iload_n d_Mo_step_370 rfl rfl ?_
      refine rr_if_ne 434 d_Mo_step_371 (by decide) (fun c9 => absurd (rfl) c9) (fun _ => ?_)
      refine rr_iload_n d_Mo_step_374 rfl rfl ?_
      refine rr_bipush 61 d_Mo_step_375 rfl ?_
      refine rr_icmp_eq 434 d_Mo_step_377 (by decide) (fun c61 => ?_) (fun c61 => ?_)
      · skip
        refine rr_iconst 3 d_Mo_step_434 rfl ?_
        refine rr_goto 439 d_Mo_step_435 (by decide) ?_
        exact rr_lvs _ rfl (fin2 3 (by unfold sp_sk; rw [if_pos c61]; rfl))
      refine rr_iload_n d_Mo_step_380 rfl rfl ?_
      refine rr_bipush 35 d_Mo_step_381 rfl ?_
      refine rr_icmp_eq 434 d_Mo_step_383 (by decide) (fun c35 => ?_) (fun c35 => ?_)
      · skip
        refine rr_iconst 3 d_Mo_step_434 rfl ?_
        refine rr_goto 439 d_Mo_step_435 (by decide) ?_
        exact rr_lvs _ rfl (fin2 3 (by unfold sp_sk; rw [if_neg c61, if_pos c35]; rfl))
      refine rr_iload_n d_Mo_step_386 rfl rfl ?_
      refine rr_bipush 60 d_Mo_step_387 rfl ?_
      refine rr_icmp_eq 434 d_Mo_step_389 (by decide) (fun c60 => ?_) (fun c60 => ?_)
      · skip
        refine rr_iconst 3 d_Mo_step_434 rfl ?_
        refine rr_goto 439 d_Mo_step_435 (by decide) ?_
        exact rr_lvs _ rfl (fin2 3 (by unfold sp_sk; rw [if_neg c61, if_neg c35, if_pos c60]; rfl))
      refine rr_iload_n d_Mo_step_392 rfl rfl ?_
      refine rr_bipush 62 d_Mo_step_393 rfl ?_
      refine rr_icmp_eq 434 d_Mo_step_395 (by decide) (fun c62 => ?_) (fun c62 => ?_)
      · skip
        refine rr_iconst 3 d_Mo_step_434 rfl ?_
        refine rr_goto 439 d_Mo_step_435 (by decide) ?_
        exact rr_lvs _ rfl (fin2 3 (by unfold sp_sk; rw [if_neg c61, if_neg c35, if_neg c60, if_pos c62]; rfl))
      refine rr_iload_n d_Mo_step_398 rfl rfl ?_
      refine rr_bipush 43 d_Mo_step_399 rfl ?_
      refine rr_icmp_eq 434 d_Mo_step_401 (by decide) (fun c43 => ?_) (fun c43 => ?_)
      · skip
        refine rr_iconst 3 d_Mo_step_434 rfl ?_
        refine rr_goto 439 d_Mo_step_435 (by decide) ?_
        exact rr_lvs _ rfl (fin2 3 (by unfold sp_sk; rw [if_neg c61, if_neg c35, if_neg c60, if_neg c62, if_pos c43]; rfl))
      refine rr_iload_n d_Mo_step_404 rfl rfl ?_
      refine rr_bipush 45 d_Mo_step_405 rfl ?_
      refine rr_icmp_eq 434 d_Mo_step_407 (by decide) (fun c45 => ?_) (fun c45 => ?_)
      · skip
        refine rr_iconst 3 d_Mo_step_434 rfl ?_
        refine rr_goto 439 d_Mo_step_435 (by decide) ?_
        exact rr_lvs _ rfl (fin2 3 (by unfold sp_sk; rw [if_neg c61, if_neg c35, if_neg c60, if_neg c62, if_neg c43, if_pos c45]; rfl))
      refine rr_iload_n d_Mo_step_410 rfl rfl ?_
      refine rr_bipush 42 d_Mo_step_411 rfl ?_
      refine rr_icmp_eq 434 d_Mo_step_413 (by decide) (fun c42 => ?_) (fun c42 => ?_)
      · skip
        refine rr_iconst 3 d_Mo_step_434 rfl ?_
        refine rr_goto 439 d_Mo_step_435 (by decide) ?_
        exact rr_lvs _ rfl (fin2 3 (by unfold sp_sk; rw [if_neg c61, if_neg c35, if_neg c60, if_neg c62, if_neg c43, if_neg c45, if_pos c42]; rfl))
      refine rr_iload_n d_Mo_step_416 rfl rfl ?_
      refine rr_bipush 44 d_Mo_step_417 rfl ?_
      refine rr_icmp_eq 434 d_Mo_step_419 (by decide) (fun c44 => ?_) (fun c44 => ?_)
      · skip
        refine rr_iconst 3 d_Mo_step_434 rfl ?_
        refine rr_goto 439 d_Mo_step_435 (by decide) ?_
        exact rr_lvs _ rfl (fin2 3 (by unfold sp_sk; rw [if_neg c61, if_neg c35, if_neg c60, if_neg c62, if_neg c43, if_neg c45, if_neg c42, if_pos c44]; rfl))
      refine rr_iload_n d_Mo_step_422 rfl rfl ?_
      refine rr_bipush 40 d_Mo_step_423 rfl ?_
      refine rr_icmp_eq 434 d_Mo_step_425 (by decide) (fun c40 => ?_) (fun c40 => ?_)
      · skip
        refine rr_iconst 3 d_Mo_step_434 rfl ?_
        refine rr_goto 439 d_Mo_step_435 (by decide) ?_
        exact rr_lvs _ rfl (fin2 3 (by unfold sp_sk; rw [if_neg c61, if_neg c35, if_neg c60, if_neg c62, if_neg c43, if_neg c45, if_neg c42, if_neg c44, if_pos c40]; rfl))
      refine rr_iload_n d_Mo_step_428 rfl rfl ?_
      refine rr_bipush 41 d_Mo_step_429 rfl ?_
      refine rr_icmp_ne 438 d_Mo_step_431 (by decide) (fun c41 => ?_) (fun c41 => ?_)
      · skip
        refine rr_iconst 4 d_Mo_step_438 rfl ?_
        exact rr_lvs _ rfl (fin2 4 (by unfold sp_sk; rw [if_neg c61, if_neg c35, if_neg c60, if_neg c62, if_neg c43, if_neg c45, if_neg c42, if_neg c44, if_neg c40, if_neg c41]; rfl))
      · skip
        refine rr_iconst 3 d_Mo_step_434 rfl ?_
        refine rr_goto 439 d_Mo_step_435 (by decide) ?_
        exact rr_lvs _ rfl (fin2 3 (by unfold sp_sk; rw [if_neg c61, if_neg c35, if_neg c60, if_neg c62, if_neg c43, if_neg c45, if_neg c42, if_neg c44, if_neg c40, if_pos c41]; rfl))
    refine rr_icmp_ne 367 d_Mo_step_331 (by decide) (fun h58 => ?_) (fun h58 => ?_)
    · exact rr_lvs _ rfl (eN (fun z => h58 z.1))
    refine rr_aload_n d_Mo_step_334 rfl rfl ?_
    refine rr_getf d_Mo_step_335 fl_Mo_40 rfl rfl ?_
    refine rr_iconst 1 d_Mo_step_338 rfl ?_
    refine rr_iadd d_Mo_step_339 ?_
    refine rr_aload_n d_Mo_step_340 rfl rfl ?_
    refine rr_getf d_Mo_step_341 fl_Mo_43 rfl rfl ?_
    rw [nI_1]
    refine rr_icmp_ge 367 d_Mo_step_344 (by decide) (fun hd => ?_) (fun hd => ?_)
    · exact rr_lvs _ rfl (eN (fun z => nI_ge z.2.1 (by omega) hd))
    have hd2 : q + 1 < n := Nat.not_le.mp (fun z => hd (nI_le z (by omega)))
    refine rr_aload_n d_Mo_step_347 rfl rfl ?_
    refine rr_getf d_Mo_step_348 fl_Mo_9 rfl rfl ?_
    refine rr_aload_n d_Mo_step_351 rfl rfl ?_
    refine rr_getf d_Mo_step_352 fl_Mo_40 rfl rfl ?_
    refine rr_iconst 1 d_Mo_step_355 rfl ?_
    refine rr_iadd d_Mo_step_356 ?_
    rw [nI_1]
    refine rr_bald d_Mo_step_357 rfl (vp_in_nI (n := q + 1) (by omega) (by decide)) ?_
    refine rr_bipush 61 d_Mo_step_358 rfl ?_
    rw [nI_clamp (n := q + 1) (by omega)]
    refine rr_icmp_ne 367 d_Mo_step_360 (by decide) (fun he => ?_) (fun he => ?_)
    · exact rr_lvs _ rfl (eN (fun z => he z.2.2))
    have e : sp_tok f n q = (17, 0, q + 2) := by unfold sp_tok; rw [if_neg hL, if_neg hD, if_pos ⟨h58, hd2, he⟩]
    rw [e] at eT
    refine rr_iconst 1 d_Mo_step_363 rfl ?_
    refine rr_goto 368 d_Mo_step_364 (by decide) ?_
    refine rr_istore_n d_Mo_step_368 rfl (by decide) ?_
    refine rr_aload_n d_Mo_step_369 rfl rfl ?_
    refine rr_iload_n d_Mo_step_370 rfl rfl ?_
    refine rr_if_ne 434 d_Mo_step_371 (by decide) (fun _ => ?_) (fun c9 => absurd c9 (by decide))
    refine rr_iconst 3 d_Mo_step_434 rfl ?_
    refine rr_goto 439 d_Mo_step_435 (by decide) ?_
    refine rr_putf d_Mo_step_439 fl_Mo_49 rfl rfl rfl rfl ?_
    refine rr_aload_n d_Mo_step_442 rfl rfl ?_
    refine rr_dup d_Mo_step_443 rfl ?_
    refine rr_getf d_Mo_step_444 fl_Mo_40 rfl rfl ?_
    refine rr_iload_n d_Mo_step_447 rfl rfl ?_
    refine rr_if_eq 455 d_Mo_step_448 (by decide) (fun c9 => absurd c9 (by decide)) (fun _ => ?_)
    refine rr_iconst 2 d_Mo_step_451 rfl ?_
    refine rr_goto 456 d_Mo_step_452 (by decide) ?_
    refine rr_iadd d_Mo_step_456 ?_
    refine rr_putf d_Mo_step_457 fl_Mo_40 rfl rfl rfl rfl ?_
    rw [show (nI q + 2 : Int32) = nI (q + 2) from nI_add q 2]
    exact fin 17 _ _ _ _ _ eT (fun h9 => absurd h9 (by decide)) rfl
  · obtain rfl : q = n := by omega
    have eT : sp_next f q p = (0, 0, q, q) := by
      unfold sp_next
      rw [hqe]
      exact if_neg hq
    refine rr_aload_n d_Mo_step_38 rfl rfl ?_
    refine rr_aload_n d_Mo_step_39 rfl rfl ?_
    refine rr_getf d_Mo_step_40 fl_Mo_40 rfl rfl ?_
    refine rr_putf d_Mo_step_43 fl_Mo_46 rfl rfl rfl rfl ?_
    refine rr_aload_n d_Mo_step_46 rfl rfl ?_
    refine rr_getf d_Mo_step_47 fl_Mo_40 rfl rfl ?_
    refine rr_aload_n d_Mo_step_50 rfl rfl ?_
    refine rr_getf d_Mo_step_51 fl_Mo_43 rfl rfl ?_
    refine rr_icmp_ne 65 d_Mo_step_54 (by decide) (fun c9 => absurd (rfl) c9) (fun _ => ?_)
    refine rr_aload_n d_Mo_step_57 rfl rfl ?_
    refine rr_iconst 0 d_Mo_step_58 rfl ?_
    refine rr_putf d_Mo_step_59 fl_Mo_49 rfl rfl rfl rfl ?_
    refine rr_goto 460 d_Mo_step_62 (by decide) ?_
    exact fin 0 _ _ _ _ [(0, .ref 24)] eT (fun h9 => absurd h9 (by decide)) rfl
