/-! The tokens. -/

set_option maxRecDepth 100000 in
set_option maxHeartbeats 4000000 in
theorem s_To_add {x0 x3 : va_E} {g : rr_H} {n m : Nat} {f fk fv fp : Nat → Int32} {a b c : Int32} (hm : m ≤ 400) : rr_Spec 0 y_To_add c_To_add 4 none 0 0 [.ref 4, .int a, .int b, .int c] (x0 :: .inr (3, [.ref 2, .int (nI n)]) :: .inl (1, 400, .inl (f)) :: x3 :: .inr (4, [.ref 5, .ref 6, .ref 7, .int (nI m)]) :: .inl (0, 401, .inl (fk)) :: .inl (0, 401, .inl (fv)) :: .inl (0, 401, .inl (fp)) :: g) (fun r h1 => r = none ∧ h1 = x0 :: .inr (3, [.ref 2, .int (nI n)]) :: .inl (1, 400, .inl (f)) :: x3 :: .inr (4, [.ref 5, .ref 6, .ref 7, .int (nI (m + 1))]) :: .inl (0, 401, .inl (upd fk m a)) :: .inl (0, 401, .inl (upd fv m b)) :: .inl (0, 401, .inl (upd fp m c)) :: g) := by
  refine rr_met (own := R_To) (kd := (false, none)) (by decide +kernel) rfl (fun h => by cases h) rfl (Nat.le_of_ble_eq_true rfl) ?_
  refine rr_aload_n d_To_add_0 rfl rfl ?_
  refine rr_getf d_To_add_1 fl_To_21 rfl rfl ?_
  refine rr_sipush 400 d_To_add_4 rfl ?_
  refine rr_icmp_gt 50 d_To_add_7 (by decide) (fun c9 => absurd c9 (nI_nlt (a := 400) (b := m) hm (by decide))) (fun _ => ?_)
  refine rr_aload_n d_To_add_10 rfl rfl ?_
  refine rr_getf d_To_add_11 fl_To_9 rfl rfl ?_
  refine rr_aload_n d_To_add_14 rfl rfl ?_
  refine rr_getf d_To_add_15 fl_To_21 rfl rfl ?_
  refine rr_iload_n d_To_add_18 rfl rfl ?_
  refine rr_iast d_To_add_19 rfl (vp_in_nI (n := m) (by omega) (by decide)) ?_
  refine rr_aload_n d_To_add_20 rfl rfl ?_
  refine rr_getf d_To_add_21 fl_To_15 rfl rfl ?_
  refine rr_aload_n d_To_add_24 rfl rfl ?_
  refine rr_getf d_To_add_25 fl_To_21 rfl rfl ?_
  refine rr_iload_n d_To_add_28 rfl rfl ?_
  refine rr_iast d_To_add_29 rfl (vp_in_nI (n := m) (by omega) (by decide)) ?_
  refine rr_aload_n d_To_add_30 rfl rfl ?_
  refine rr_getf d_To_add_31 fl_To_18 rfl rfl ?_
  refine rr_aload_n d_To_add_34 rfl rfl ?_
  refine rr_getf d_To_add_35 fl_To_21 rfl rfl ?_
  refine rr_iload_n d_To_add_38 rfl rfl ?_
  refine rr_iast d_To_add_39 rfl (vp_in_nI (n := m) (by omega) (by decide)) ?_
  refine rr_aload_n d_To_add_40 rfl rfl ?_
  refine rr_dup d_To_add_41 rfl ?_
  refine rr_getf d_To_add_42 fl_To_21 rfl rfl ?_
  refine rr_iconst 1 d_To_add_45 rfl ?_
  refine rr_iadd d_To_add_46 ?_
  refine rr_putf d_To_add_47 fl_To_21 rfl rfl rfl rfl ?_
  rw [nI_1, nI_clamp (by omega)]
  exact rr_return d_To_add_50 rfl (Nat.le_of_ble_eq_true rfl) (Nat.le_of_ble_eq_true rfl) (⟨rfl, rfl⟩)

set_option maxRecDepth 100000 in
set_option maxHeartbeats 4000000 in
theorem s_To_isLetter {h : rr_H} {x : Int32} : rr_Spec 0 y_To_isLetter c_To_isLetter 1 (some .boolean) 0 0 [.int x] (h) (fun r h1 => r = some (.int (sp_b (sp_isL x))) ∧ h1 = h) := by
  refine rr_met (own := R_To) (kd := (false, none)) (by decide +kernel) rfl (fun h => by cases h) rfl (Nat.le_of_ble_eq_true rfl) ?_
  refine rr_iload_n d_To_isLetter_0 rfl rfl ?_
  refine rr_bipush 97 d_To_isLetter_1 rfl ?_
  refine rr_icmp_lt 16 d_To_isLetter_3 (by decide) (fun hc => ?_) (fun hc => ?_)
  · have e : sp_isL x = false := by
      unfold sp_isL
      rw [decide_eq_false (Int32.not_le.mpr hc)]
      rfl
    rw [e]
    refine rr_iconst 0 d_To_isLetter_16 rfl ?_
    exact rr_ireturn d_To_isLetter_17 rfl rfl (Nat.le_of_ble_eq_true rfl) (Nat.le_of_ble_eq_true rfl) (⟨rfl, rfl⟩)
  · skip
    refine rr_iload_n d_To_isLetter_6 rfl rfl ?_
    refine rr_bipush 122 d_To_isLetter_7 rfl ?_
    refine rr_icmp_gt 16 d_To_isLetter_9 (by decide) (fun hd => ?_) (fun hd => ?_)
    · have e : sp_isL x = false := by
        unfold sp_isL
        rw [decide_eq_false (Int32.not_le.mpr hd), Bool.and_false]
      rw [e]
      refine rr_iconst 0 d_To_isLetter_16 rfl ?_
      exact rr_ireturn d_To_isLetter_17 rfl rfl (Nat.le_of_ble_eq_true rfl) (Nat.le_of_ble_eq_true rfl) (⟨rfl, rfl⟩)
    · have e : sp_isL x = true := by
        unfold sp_isL
        rw [decide_eq_true (Int32.not_lt.mp hc), decide_eq_true (Int32.not_lt.mp hd)]
        rfl
      rw [e]
      refine rr_iconst 1 d_To_isLetter_12 rfl ?_
      refine rr_goto 17 d_To_isLetter_13 (by decide) ?_
      exact rr_ireturn d_To_isLetter_17 rfl rfl (Nat.le_of_ble_eq_true rfl) (Nat.le_of_ble_eq_true rfl) (⟨rfl, rfl⟩)

set_option maxRecDepth 100000 in
set_option maxHeartbeats 4000000 in
theorem s_To_isDigit {h : rr_H} {x : Int32} : rr_Spec 0 y_To_isDigit c_To_isDigit 1 (some .boolean) 0 0 [.int x] (h) (fun r h1 => r = some (.int (sp_b (sp_isD x))) ∧ h1 = h) := by
  refine rr_met (own := R_To) (kd := (false, none)) (by decide +kernel) rfl (fun h => by cases h) rfl (Nat.le_of_ble_eq_true rfl) ?_
  refine rr_iload_n d_To_isDigit_0 rfl rfl ?_
  refine rr_bipush 48 d_To_isDigit_1 rfl ?_
  refine rr_icmp_lt 16 d_To_isDigit_3 (by decide) (fun hc => ?_) (fun hc => ?_)
  · have e : sp_isD x = false := by
      unfold sp_isD
      rw [decide_eq_false (Int32.not_le.mpr hc)]
      rfl
    rw [e]
    refine rr_iconst 0 d_To_isDigit_16 rfl ?_
    exact rr_ireturn d_To_isDigit_17 rfl rfl (Nat.le_of_ble_eq_true rfl) (Nat.le_of_ble_eq_true rfl) (⟨rfl, rfl⟩)
  · skip
    refine rr_iload_n d_To_isDigit_6 rfl rfl ?_
    refine rr_bipush 57 d_To_isDigit_7 rfl ?_
    refine rr_icmp_gt 16 d_To_isDigit_9 (by decide) (fun hd => ?_) (fun hd => ?_)
    · have e : sp_isD x = false := by
        unfold sp_isD
        rw [decide_eq_false (Int32.not_le.mpr hd), Bool.and_false]
      rw [e]
      refine rr_iconst 0 d_To_isDigit_16 rfl ?_
      exact rr_ireturn d_To_isDigit_17 rfl rfl (Nat.le_of_ble_eq_true rfl) (Nat.le_of_ble_eq_true rfl) (⟨rfl, rfl⟩)
    · have e : sp_isD x = true := by
        unfold sp_isD
        rw [decide_eq_true (Int32.not_lt.mp hc), decide_eq_true (Int32.not_lt.mp hd)]
        rfl
      rw [e]
      refine rr_iconst 1 d_To_isDigit_12 rfl ?_
      refine rr_goto 17 d_To_isDigit_13 (by decide) ?_
      exact rr_ireturn d_To_isDigit_17 rfl rfl (Nat.le_of_ble_eq_true rfl) (Nat.le_of_ble_eq_true rfl) (⟨rfl, rfl⟩)

theorem sk_in {x : Int32} (h1 : ¬ x.toInt < 35) (h2 : ¬ 62 < x.toInt) : ∃ k : Nat, 35 ≤ k ∧ k ≤ 62 ∧ x = nI k := by
  have h0 : ¬ x < 0 := by
    intro q
    have a : x.toInt < 0 := by simpa using Int32.lt_iff_toInt_lt.mp q
    omega
  obtain ⟨j, hj, rfl⟩ := nI_of h0
  rw [nI_toInt hj] at h1 h2
  exact ⟨j, by omega, by omega, rfl⟩
theorem sk_out {x : Int32} (h : x.toInt < 35 ∨ 62 < x.toInt) : sp_sk x = 1 := by
  have key : ∀ k : Nat, 35 ≤ k → k ≤ 62 → ¬ x = nI k := by
    rintro k h1 h2 rfl
    rw [nI_toInt (by omega)] at h
    omega
  unfold sp_sk
  rw [if_neg (show ¬ x = 61 from key 61 (by omega) (by omega)), if_neg (show ¬ x = 35 from key 35 (by omega) (by omega)), if_neg (show ¬ x = 60 from key 60 (by omega) (by omega)), if_neg (show ¬ x = 62 from key 62 (by omega) (by omega)), if_neg (show ¬ x = 43 from key 43 (by omega) (by omega)), if_neg (show ¬ x = 45 from key 45 (by omega) (by omega)), if_neg (show ¬ x = 42 from key 42 (by omega) (by omega)), if_neg (show ¬ x = 44 from key 44 (by omega) (by omega)), if_neg (show ¬ x = 40 from key 40 (by omega) (by omega)), if_neg (show ¬ x = 41 from key 41 (by omega) (by omega))]
set_option maxRecDepth 100000 in
set_option maxHeartbeats 4000000 in
theorem s_To_signKind {h : rr_H} {x : Int32} : rr_Spec 0 y_To_signKind c_To_signKind 1 (some .int) 0 0 [.int x] (h) (fun r h1 => r = some (.int (nI (sp_sk x))) ∧ h1 = h) := by
  refine rr_met (own := R_To) (kd := (false, none)) (by decide +kernel) rfl (fun h => by cases h) rfl (Nat.le_of_ble_eq_true rfl) ?_
  refine rr_iload_n d_To_signKind_0 rfl rfl ?_
  by_cases ho : x.toInt < 35 ∨ 62 < x.toInt
  · rw [sk_out ho]
    refine rr_tout 158 d_To_signKind_1 ho (by decide) ?_
    refine rr_iconst 1 d_To_signKind_158 rfl ?_
    exact rr_ireturn d_To_signKind_159 rfl rfl (Nat.le_of_ble_eq_true rfl) (Nat.le_of_ble_eq_true rfl) (⟨rfl, rfl⟩)
  · obtain ⟨k, hk1, hk2, rfl⟩ := sk_in (fun q => ho (Or.inl q)) (fun q => ho (Or.inr q))
    rcases (show k = 35 ∨ k = 36 ∨ k = 37 ∨ k = 38 ∨ k = 39 ∨ k = 40 ∨ k = 41 ∨ k = 42 ∨ k = 43 ∨ k = 44 ∨ k = 45 ∨ k = 46 ∨ k = 47 ∨ k = 48 ∨ k = 49 ∨ k = 50 ∨ k = 51 ∨ k = 52 ∨ k = 53 ∨ k = 54 ∨ k = 55 ∨ k = 56 ∨ k = 57 ∨ k = 58 ∨ k = 59 ∨ k = 60 ∨ k = 61 ∨ k = 62 by omega) with rfl | rfl | rfl | rfl | rfl | rfl | rfl | rfl | rfl | rfl | rfl | rfl | rfl | rfl | rfl | rfl | rfl | rfl | rfl | rfl | rfl | rfl | rfl | rfl | rfl | rfl | rfl | rfl
    · refine rr_tin 131 130 d_To_signKind_1 (by decide) (by decide) rfl (by decide) ?_
      refine rr_bipush 11 d_To_signKind_131 rfl ?_
      exact rr_ireturn d_To_signKind_133 rfl rfl (Nat.le_of_ble_eq_true rfl) (Nat.le_of_ble_eq_true rfl) (⟨rfl, rfl⟩)
    · refine rr_tin 158 157 d_To_signKind_1 (by decide) (by decide) rfl (by decide) ?_
      refine rr_iconst 1 d_To_signKind_158 rfl ?_
      exact rr_ireturn d_To_signKind_159 rfl rfl (Nat.le_of_ble_eq_true rfl) (Nat.le_of_ble_eq_true rfl) (⟨rfl, rfl⟩)
    · refine rr_tin 158 157 d_To_signKind_1 (by decide) (by decide) rfl (by decide) ?_
      refine rr_iconst 1 d_To_signKind_158 rfl ?_
      exact rr_ireturn d_To_signKind_159 rfl rfl (Nat.le_of_ble_eq_true rfl) (Nat.le_of_ble_eq_true rfl) (⟨rfl, rfl⟩)
    · refine rr_tin 158 157 d_To_signKind_1 (by decide) (by decide) rfl (by decide) ?_
      refine rr_iconst 1 d_To_signKind_158 rfl ?_
      exact rr_ireturn d_To_signKind_159 rfl rfl (Nat.le_of_ble_eq_true rfl) (Nat.le_of_ble_eq_true rfl) (⟨rfl, rfl⟩)
    · refine rr_tin 158 157 d_To_signKind_1 (by decide) (by decide) rfl (by decide) ?_
      refine rr_iconst 1 d_To_signKind_158 rfl ?_
      exact rr_ireturn d_To_signKind_159 rfl rfl (Nat.le_of_ble_eq_true rfl) (Nat.le_of_ble_eq_true rfl) (⟨rfl, rfl⟩)
    · refine rr_tin 152 151 d_To_signKind_1 (by decide) (by decide) rfl (by decide) ?_
      refine rr_bipush 19 d_To_signKind_152 rfl ?_
      exact rr_ireturn d_To_signKind_154 rfl rfl (Nat.le_of_ble_eq_true rfl) (Nat.le_of_ble_eq_true rfl) (⟨rfl, rfl⟩)
    · refine rr_tin 155 154 d_To_signKind_1 (by decide) (by decide) rfl (by decide) ?_
      refine rr_bipush 20 d_To_signKind_155 rfl ?_
      exact rr_ireturn d_To_signKind_157 rfl rfl (Nat.le_of_ble_eq_true rfl) (Nat.le_of_ble_eq_true rfl) (⟨rfl, rfl⟩)
    · refine rr_tin 146 145 d_To_signKind_1 (by decide) (by decide) rfl (by decide) ?_
      refine rr_bipush 16 d_To_signKind_146 rfl ?_
      exact rr_ireturn d_To_signKind_148 rfl rfl (Nat.le_of_ble_eq_true rfl) (Nat.le_of_ble_eq_true rfl) (⟨rfl, rfl⟩)
    · refine rr_tin 140 139 d_To_signKind_1 (by decide) (by decide) rfl (by decide) ?_
      refine rr_bipush 14 d_To_signKind_140 rfl ?_
      exact rr_ireturn d_To_signKind_142 rfl rfl (Nat.le_of_ble_eq_true rfl) (Nat.le_of_ble_eq_true rfl) (⟨rfl, rfl⟩)
    · refine rr_tin 149 148 d_To_signKind_1 (by decide) (by decide) rfl (by decide) ?_
      refine rr_bipush 18 d_To_signKind_149 rfl ?_
      exact rr_ireturn d_To_signKind_151 rfl rfl (Nat.le_of_ble_eq_true rfl) (Nat.le_of_ble_eq_true rfl) (⟨rfl, rfl⟩)
    · refine rr_tin 143 142 d_To_signKind_1 (by decide) (by decide) rfl (by decide) ?_
      refine rr_bipush 15 d_To_signKind_143 rfl ?_
      exact rr_ireturn d_To_signKind_145 rfl rfl (Nat.le_of_ble_eq_true rfl) (Nat.le_of_ble_eq_true rfl) (⟨rfl, rfl⟩)
    · refine rr_tin 158 157 d_To_signKind_1 (by decide) (by decide) rfl (by decide) ?_
      refine rr_iconst 1 d_To_signKind_158 rfl ?_
      exact rr_ireturn d_To_signKind_159 rfl rfl (Nat.le_of_ble_eq_true rfl) (Nat.le_of_ble_eq_true rfl) (⟨rfl, rfl⟩)
    · refine rr_tin 158 157 d_To_signKind_1 (by decide) (by decide) rfl (by decide) ?_
      refine rr_iconst 1 d_To_signKind_158 rfl ?_
      exact rr_ireturn d_To_signKind_159 rfl rfl (Nat.le_of_ble_eq_true rfl) (Nat.le_of_ble_eq_true rfl) (⟨rfl, rfl⟩)
    · refine rr_tin 158 157 d_To_signKind_1 (by decide) (by decide) rfl (by decide) ?_
      refine rr_iconst 1 d_To_signKind_158 rfl ?_
      exact rr_ireturn d_To_signKind_159 rfl rfl (Nat.le_of_ble_eq_true rfl) (Nat.le_of_ble_eq_true rfl) (⟨rfl, rfl⟩)
    · refine rr_tin 158 157 d_To_signKind_1 (by decide) (by decide) rfl (by decide) ?_
      refine rr_iconst 1 d_To_signKind_158 rfl ?_
      exact rr_ireturn d_To_signKind_159 rfl rfl (Nat.le_of_ble_eq_true rfl) (Nat.le_of_ble_eq_true rfl) (⟨rfl, rfl⟩)
    · refine rr_tin 158 157 d_To_signKind_1 (by decide) (by decide) rfl (by decide) ?_
      refine rr_iconst 1 d_To_signKind_158 rfl ?_
      exact rr_ireturn d_To_signKind_159 rfl rfl (Nat.le_of_ble_eq_true rfl) (Nat.le_of_ble_eq_true rfl) (⟨rfl, rfl⟩)
    · refine rr_tin 158 157 d_To_signKind_1 (by decide) (by decide) rfl (by decide) ?_
      refine rr_iconst 1 d_To_signKind_158 rfl ?_
      exact rr_ireturn d_To_signKind_159 rfl rfl (Nat.le_of_ble_eq_true rfl) (Nat.le_of_ble_eq_true rfl) (⟨rfl, rfl⟩)
    · refine rr_tin 158 157 d_To_signKind_1 (by decide) (by decide) rfl (by decide) ?_
      refine rr_iconst 1 d_To_signKind_158 rfl ?_
      exact rr_ireturn d_To_signKind_159 rfl rfl (Nat.le_of_ble_eq_true rfl) (Nat.le_of_ble_eq_true rfl) (⟨rfl, rfl⟩)
    · refine rr_tin 158 157 d_To_signKind_1 (by decide) (by decide) rfl (by decide) ?_
      refine rr_iconst 1 d_To_signKind_158 rfl ?_
      exact rr_ireturn d_To_signKind_159 rfl rfl (Nat.le_of_ble_eq_true rfl) (Nat.le_of_ble_eq_true rfl) (⟨rfl, rfl⟩)
    · refine rr_tin 158 157 d_To_signKind_1 (by decide) (by decide) rfl (by decide) ?_
      refine rr_iconst 1 d_To_signKind_158 rfl ?_
      exact rr_ireturn d_To_signKind_159 rfl rfl (Nat.le_of_ble_eq_true rfl) (Nat.le_of_ble_eq_true rfl) (⟨rfl, rfl⟩)
    · refine rr_tin 158 157 d_To_signKind_1 (by decide) (by decide) rfl (by decide) ?_
      refine rr_iconst 1 d_To_signKind_158 rfl ?_
      exact rr_ireturn d_To_signKind_159 rfl rfl (Nat.le_of_ble_eq_true rfl) (Nat.le_of_ble_eq_true rfl) (⟨rfl, rfl⟩)
    · refine rr_tin 158 157 d_To_signKind_1 (by decide) (by decide) rfl (by decide) ?_
      refine rr_iconst 1 d_To_signKind_158 rfl ?_
      exact rr_ireturn d_To_signKind_159 rfl rfl (Nat.le_of_ble_eq_true rfl) (Nat.le_of_ble_eq_true rfl) (⟨rfl, rfl⟩)
    · refine rr_tin 158 157 d_To_signKind_1 (by decide) (by decide) rfl (by decide) ?_
      refine rr_iconst 1 d_To_signKind_158 rfl ?_
      exact rr_ireturn d_To_signKind_159 rfl rfl (Nat.le_of_ble_eq_true rfl) (Nat.le_of_ble_eq_true rfl) (⟨rfl, rfl⟩)
    · refine rr_tin 158 157 d_To_signKind_1 (by decide) (by decide) rfl (by decide) ?_
      refine rr_iconst 1 d_To_signKind_158 rfl ?_
      exact rr_ireturn d_To_signKind_159 rfl rfl (Nat.le_of_ble_eq_true rfl) (Nat.le_of_ble_eq_true rfl) (⟨rfl, rfl⟩)
    · refine rr_tin 158 157 d_To_signKind_1 (by decide) (by decide) rfl (by decide) ?_
      refine rr_iconst 1 d_To_signKind_158 rfl ?_
      exact rr_ireturn d_To_signKind_159 rfl rfl (Nat.le_of_ble_eq_true rfl) (Nat.le_of_ble_eq_true rfl) (⟨rfl, rfl⟩)
    · refine rr_tin 134 133 d_To_signKind_1 (by decide) (by decide) rfl (by decide) ?_
      refine rr_bipush 12 d_To_signKind_134 rfl ?_
      exact rr_ireturn d_To_signKind_136 rfl rfl (Nat.le_of_ble_eq_true rfl) (Nat.le_of_ble_eq_true rfl) (⟨rfl, rfl⟩)
    · refine rr_tin 128 127 d_To_signKind_1 (by decide) (by decide) rfl (by decide) ?_
      refine rr_bipush 10 d_To_signKind_128 rfl ?_
      exact rr_ireturn d_To_signKind_130 rfl rfl (Nat.le_of_ble_eq_true rfl) (Nat.le_of_ble_eq_true rfl) (⟨rfl, rfl⟩)
    · refine rr_tin 137 136 d_To_signKind_1 (by decide) (by decide) rfl (by decide) ?_
      refine rr_bipush 13 d_To_signKind_137 rfl ?_
      exact rr_ireturn d_To_signKind_139 rfl rfl (Nat.le_of_ble_eq_true rfl) (Nat.le_of_ble_eq_true rfl) (⟨rfl, rfl⟩)

set_option maxRecDepth 100000 in
set_option maxHeartbeats 4000000 in
theorem l_spells {x0 : va_E} {g : rr_H} {n : Nat} {f : Nat → Int32} {p e j : Nat} (hj : j < rr_nS) (he : e ≤ 400) (hp : p + rr_len.getD j 0 = e) : ∀ (k i : Nat), i + k = rr_len.getD j 0 → rr_A R_Ta c_Ta_spells 5 (some .boolean) (false, none) { frames := 4, cells := 0, slots := 0, locals := 4 * 64 } (fun r h1 => r = some (.int (sp_b (sp_eqs f p j i k))) ∧ h1 = x0 :: .inr (3, [.ref 2, .int (nI n)]) :: .inl (1, 400, .inl (f)) :: g) 0 0 15 [(4, .int (nI i)), (0, .ref 1), (1, .ref (rr_K0 + j)), (2, .int (nI p)), (3, .int (nI e))] [] (x0 :: .inr (3, [.ref 2, .int (nI n)]) :: .inl (1, 400, .inl (f)) :: g) := by
  have h6 := sp_len_ok j hj
  intro k
  induction k with
  | zero =>
    intro i hi
    refine rr_iload d_Ta_spells_15 rfl ?_
    refine rr_aload_n d_Ta_spells_17 rfl rfl ?_
    refine rr_callS0 d_Ta_spells_18 il_Ta_19 m_St_length (s_St_length hj) hj rfl rfl rfl (Nat.le_of_ble_eq_true rfl) (Nat.le_of_ble_eq_true rfl) (Nat.le_of_ble_eq_true rfl) (Nat.le_of_ble_eq_true rfl) (Nat.le_of_ble_eq_true rfl) (fun r h1 hq => ?_)
    obtain ⟨rfl, rfl⟩ := hq
    refine rr_icmp_ge 50 d_Ta_spells_21 (by decide) (fun _ => ?_) (fun c9 => absurd (nI_le (by omega) (by omega)) c9)
    refine rr_iconst 1 d_Ta_spells_50 rfl ?_
    exact rr_ireturn d_Ta_spells_51 rfl rfl (Nat.le_of_ble_eq_true rfl) (Nat.le_of_ble_eq_true rfl) (⟨rfl, rfl⟩)
  | succ k ih =>
    intro i hi
    refine rr_iload d_Ta_spells_15 rfl ?_
    refine rr_aload_n d_Ta_spells_17 rfl rfl ?_
    refine rr_callS0 d_Ta_spells_18 il_Ta_19 m_St_length (s_St_length hj) hj rfl rfl rfl (Nat.le_of_ble_eq_true rfl) (Nat.le_of_ble_eq_true rfl) (Nat.le_of_ble_eq_true rfl) (Nat.le_of_ble_eq_true rfl) (Nat.le_of_ble_eq_true rfl) (fun r h1 hq => ?_)
    obtain ⟨rfl, rfl⟩ := hq
    refine rr_icmp_ge 50 d_Ta_spells_21 (by decide) (fun c9 => absurd c9 (nI_ge (by omega) (by omega))) (fun _ => ?_)
    refine rr_aload_n d_Ta_spells_24 rfl rfl ?_
    refine rr_getf d_Ta_spells_25 fl_Ta_9 rfl rfl ?_
    refine rr_iload_n d_Ta_spells_28 rfl rfl ?_
    refine rr_iload d_Ta_spells_29 rfl ?_
    refine rr_iadd d_Ta_spells_31 ?_
    rw [nI_add]
    refine rr_bald d_Ta_spells_32 rfl (vp_in_nI (n := p + i) (by omega) (by decide)) ?_
    refine rr_aload_n d_Ta_spells_33 rfl rfl ?_
    refine rr_iload d_Ta_spells_34 rfl ?_
    rw [nI_clamp (by omega)]
    refine rr_callS0 d_Ta_spells_36 il_Ta_24 m_St_charAt (s_St_charAt hj (i := i) (by omega)) hj rfl rfl rfl (Nat.le_of_ble_eq_true rfl) (Nat.le_of_ble_eq_true rfl) (Nat.le_of_ble_eq_true rfl) (Nat.le_of_ble_eq_true rfl) (Nat.le_of_ble_eq_true rfl) (fun r h1 hq => ?_)
    obtain ⟨rfl, rfl⟩ := hq
    refine rr_icmp_eq 44 d_Ta_spells_39 (by decide) (fun hc => ?_) (fun hc => ?_)
    · have e1 : sp_eqs f p j i (k + 1) = sp_eqs f p j (i + 1) k := by
        show (decide (f (p + i) = sp_ch j i) && sp_eqs f p j (i + 1) k) = _
        rw [decide_eq_true hc]
        rfl
      rw [e1]
      refine rr_iinc 1 d_Ta_spells_44 rfl rfl (by decide) ?_
      refine rr_goto 15 d_Ta_spells_47 (by decide) ?_
      rw [nI_1]
      exact rr_lvs _ rfl (ih (i + 1) (by omega))
    · have e1 : sp_eqs f p j i (k + 1) = false := by
        show (decide (f (p + i) = sp_ch j i) && sp_eqs f p j (i + 1) k) = _
        rw [decide_eq_false hc]
        rfl
      rw [e1]
      refine rr_iconst 0 d_Ta_spells_42 rfl ?_
      exact rr_ireturn d_Ta_spells_43 rfl rfl (Nat.le_of_ble_eq_true rfl) (Nat.le_of_ble_eq_true rfl) (⟨rfl, rfl⟩)

set_option maxRecDepth 100000 in
set_option maxHeartbeats 4000000 in
theorem s_Ta_spells {x0 : va_E} {g : rr_H} {n : Nat} {f : Nat → Int32} {p e j : Nat} (hj : j < rr_nS) (hpe : p ≤ e) (he : e ≤ 400) : rr_Spec 4 y_Ta_spells c_Ta_spells 5 (some .boolean) 0 0 [.ref 1, .ref (rr_K0 + j), .int (nI p), .int (nI e)] (x0 :: .inr (3, [.ref 2, .int (nI n)]) :: .inl (1, 400, .inl (f)) :: g) (fun r h1 => r = some (.int (sp_b (sp_spell f p e j))) ∧ h1 = x0 :: .inr (3, [.ref 2, .int (nI n)]) :: .inl (1, 400, .inl (f)) :: g) := by
  have h6 := sp_len_ok j hj
  refine rr_met (own := R_Ta) (kd := (false, none)) (by decide +kernel) rfl (fun h => by cases h) rfl (Nat.le_of_ble_eq_true rfl) ?_
  refine rr_aload_n d_Ta_spells_0 rfl rfl ?_
  refine rr_callS0 d_Ta_spells_1 il_Ta_19 m_St_length (s_St_length hj) hj rfl rfl rfl (Nat.le_of_ble_eq_true rfl) (Nat.le_of_ble_eq_true rfl) (Nat.le_of_ble_eq_true rfl) (Nat.le_of_ble_eq_true rfl) (Nat.le_of_ble_eq_true rfl) (fun r h1 hq => ?_)
  obtain ⟨rfl, rfl⟩ := hq
  refine rr_iload_n d_Ta_spells_4 rfl rfl ?_
  refine rr_iload_n d_Ta_spells_5 rfl rfl ?_
  refine rr_isub d_Ta_spells_6 ?_
  rw [pk_sub hpe]
  refine rr_icmp_eq 12 d_Ta_spells_7 (by decide) (fun hc => ?_) (fun hc => ?_)
  · have hp : p + rr_len.getD j 0 = e := by
      have := (nI_eq (by omega) (by omega)).mp hc
      omega
    have e1 : sp_spell f p e j = sp_eqs f p j 0 (rr_len.getD j 0) := by
      unfold sp_spell
      rw [decide_eq_true hp]
      rfl
    rw [e1]
    refine rr_iconst 0 d_Ta_spells_12 rfl ?_
    refine rr_istore d_Ta_spells_13 (by decide) ?_
    exact rr_lvs _ rfl (l_spells hj he hp (rr_len.getD j 0) 0 (by omega))
  · have e1 : sp_spell f p e j = false := by
      unfold sp_spell
      rw [decide_eq_false (fun q => hc ((nI_eq (by omega) (by omega)).mpr (by omega)))]
      rfl
    rw [e1]
    refine rr_iconst 0 d_Ta_spells_10 rfl ?_
    exact rr_ireturn d_Ta_spells_11 rfl rfl (Nat.le_of_ble_eq_true rfl) (Nat.le_of_ble_eq_true rfl) (⟨rfl, rfl⟩)

set_option maxRecDepth 100000 in
set_option maxHeartbeats 4000000 in
theorem s_To_wordKind {x0 : va_E} {g : rr_H} {n : Nat} {f : Nat → Int32} {p e : Nat} (hpe : p ≤ e) (he : e ≤ 400) : rr_Spec 5 y_To_wordKind c_To_wordKind 3 (some .int) 0 0 [.ref 1, .int (nI p), .int (nI e)] (x0 :: .inr (3, [.ref 2, .int (nI n)]) :: .inl (1, 400, .inl (f)) :: g) (fun r h1 => r = some (.int (nI (sp_wk f p e))) ∧ h1 = x0 :: .inr (3, [.ref 2, .int (nI n)]) :: .inl (1, 400, .inl (f)) :: g) := by
  unfold sp_wk
  refine rr_met (own := R_To) (kd := (false, none)) (by decide +kernel) rfl (fun h => by cases h) rfl (Nat.le_of_ble_eq_true rfl) ?_
  refine rr_aload_n d_To_wordKind_0 rfl rfl ?_
  refine rr_ldcS d_To_wordKind_1 sl_To_75 ?_
  refine rr_iload_n d_To_wordKind_3 rfl rfl ?_
  refine rr_iload_n d_To_wordKind_4 rfl rfl ?_
  refine rr_callV d_To_wordKind_5 il_To_77 m_Ta_spells (s_Ta_spells (j := 6) (by decide) hpe he) rfl rfl rfl rfl (Nat.le_of_ble_eq_true rfl) (Nat.le_of_ble_eq_true rfl) (Nat.le_of_ble_eq_true rfl) (Nat.le_of_ble_eq_true rfl) (Nat.le_of_ble_eq_true rfl) (fun r h1 hq => ?_)
  obtain ⟨rfl, rfl⟩ := hq
  by_cases b6 : sp_spell f p e 6 = true
  · rw [if_pos b6, b6]
    refine rr_if_eq 14 d_To_wordKind_8 (by decide) (fun c9 => absurd c9 (by decide)) (fun _ => ?_)
    refine rr_bipush 8 d_To_wordKind_11 rfl ?_
    exact rr_ireturn d_To_wordKind_13 rfl rfl (Nat.le_of_ble_eq_true rfl) (Nat.le_of_ble_eq_true rfl) (⟨rfl, rfl⟩)
  rw [if_neg b6, (Bool.not_eq_true _).mp b6]
  refine rr_if_eq 14 d_To_wordKind_8 (by decide) (fun _ => ?_) (fun c9 => absurd (rfl) c9)
  refine rr_aload_n d_To_wordKind_14 rfl rfl ?_
  refine rr_ldcS d_To_wordKind_15 sl_To_81 ?_
  refine rr_iload_n d_To_wordKind_17 rfl rfl ?_
  refine rr_iload_n d_To_wordKind_18 rfl rfl ?_
  refine rr_callV d_To_wordKind_19 il_To_77 m_Ta_spells (s_Ta_spells (j := 0) (by decide) hpe he) rfl rfl rfl rfl (Nat.le_of_ble_eq_true rfl) (Nat.le_of_ble_eq_true rfl) (Nat.le_of_ble_eq_true rfl) (Nat.le_of_ble_eq_true rfl) (Nat.le_of_ble_eq_true rfl) (fun r h1 hq => ?_)
  obtain ⟨rfl, rfl⟩ := hq
  by_cases b0 : sp_spell f p e 0 = true
  · rw [if_pos b0, b0]
    refine rr_if_eq 27 d_To_wordKind_22 (by decide) (fun c9 => absurd c9 (by decide)) (fun _ => ?_)
    refine rr_iconst 2 d_To_wordKind_25 rfl ?_
    exact rr_ireturn d_To_wordKind_26 rfl rfl (Nat.le_of_ble_eq_true rfl) (Nat.le_of_ble_eq_true rfl) (⟨rfl, rfl⟩)
  rw [if_neg b0, (Bool.not_eq_true _).mp b0]
  refine rr_if_eq 27 d_To_wordKind_22 (by decide) (fun _ => ?_) (fun c9 => absurd (rfl) c9)
  refine rr_aload_n d_To_wordKind_27 rfl rfl ?_
  refine rr_ldcS d_To_wordKind_28 sl_To_83 ?_
  refine rr_iload_n d_To_wordKind_30 rfl rfl ?_
  refine rr_iload_n d_To_wordKind_31 rfl rfl ?_
  refine rr_callV d_To_wordKind_32 il_To_77 m_Ta_spells (s_Ta_spells (j := 1) (by decide) hpe he) rfl rfl rfl rfl (Nat.le_of_ble_eq_true rfl) (Nat.le_of_ble_eq_true rfl) (Nat.le_of_ble_eq_true rfl) (Nat.le_of_ble_eq_true rfl) (Nat.le_of_ble_eq_true rfl) (fun r h1 hq => ?_)
  obtain ⟨rfl, rfl⟩ := hq
  by_cases b1 : sp_spell f p e 1 = true
  · rw [if_pos b1, b1]
    refine rr_if_eq 40 d_To_wordKind_35 (by decide) (fun c9 => absurd c9 (by decide)) (fun _ => ?_)
    refine rr_iconst 3 d_To_wordKind_38 rfl ?_
    exact rr_ireturn d_To_wordKind_39 rfl rfl (Nat.le_of_ble_eq_true rfl) (Nat.le_of_ble_eq_true rfl) (⟨rfl, rfl⟩)
  rw [if_neg b1, (Bool.not_eq_true _).mp b1]
  refine rr_if_eq 40 d_To_wordKind_35 (by decide) (fun _ => ?_) (fun c9 => absurd (rfl) c9)
  refine rr_aload_n d_To_wordKind_40 rfl rfl ?_
  refine rr_ldcS d_To_wordKind_41 sl_To_85 ?_
  refine rr_iload_n d_To_wordKind_43 rfl rfl ?_
  refine rr_iload_n d_To_wordKind_44 rfl rfl ?_
  refine rr_callV d_To_wordKind_45 il_To_77 m_Ta_spells (s_Ta_spells (j := 2) (by decide) hpe he) rfl rfl rfl rfl (Nat.le_of_ble_eq_true rfl) (Nat.le_of_ble_eq_true rfl) (Nat.le_of_ble_eq_true rfl) (Nat.le_of_ble_eq_true rfl) (Nat.le_of_ble_eq_true rfl) (fun r h1 hq => ?_)
  obtain ⟨rfl, rfl⟩ := hq
  by_cases b2 : sp_spell f p e 2 = true
  · rw [if_pos b2, b2]
    refine rr_if_eq 53 d_To_wordKind_48 (by decide) (fun c9 => absurd c9 (by decide)) (fun _ => ?_)
    refine rr_iconst 4 d_To_wordKind_51 rfl ?_
    exact rr_ireturn d_To_wordKind_52 rfl rfl (Nat.le_of_ble_eq_true rfl) (Nat.le_of_ble_eq_true rfl) (⟨rfl, rfl⟩)
  rw [if_neg b2, (Bool.not_eq_true _).mp b2]
  refine rr_if_eq 53 d_To_wordKind_48 (by decide) (fun _ => ?_) (fun c9 => absurd (rfl) c9)
  refine rr_aload_n d_To_wordKind_53 rfl rfl ?_
  refine rr_ldcS d_To_wordKind_54 sl_To_87 ?_
  refine rr_iload_n d_To_wordKind_56 rfl rfl ?_
  refine rr_iload_n d_To_wordKind_57 rfl rfl ?_
  refine rr_callV d_To_wordKind_58 il_To_77 m_Ta_spells (s_Ta_spells (j := 3) (by decide) hpe he) rfl rfl rfl rfl (Nat.le_of_ble_eq_true rfl) (Nat.le_of_ble_eq_true rfl) (Nat.le_of_ble_eq_true rfl) (Nat.le_of_ble_eq_true rfl) (Nat.le_of_ble_eq_true rfl) (fun r h1 hq => ?_)
  obtain ⟨rfl, rfl⟩ := hq
  by_cases b3 : sp_spell f p e 3 = true
  · rw [if_pos b3, b3]
    refine rr_if_eq 66 d_To_wordKind_61 (by decide) (fun c9 => absurd c9 (by decide)) (fun _ => ?_)
    refine rr_iconst 5 d_To_wordKind_64 rfl ?_
    exact rr_ireturn d_To_wordKind_65 rfl rfl (Nat.le_of_ble_eq_true rfl) (Nat.le_of_ble_eq_true rfl) (⟨rfl, rfl⟩)
  rw [if_neg b3, (Bool.not_eq_true _).mp b3]
  refine rr_if_eq 66 d_To_wordKind_61 (by decide) (fun _ => ?_) (fun c9 => absurd (rfl) c9)
  refine rr_aload_n d_To_wordKind_66 rfl rfl ?_
  refine rr_ldcS d_To_wordKind_67 sl_To_89 ?_
  refine rr_iload_n d_To_wordKind_69 rfl rfl ?_
  refine rr_iload_n d_To_wordKind_70 rfl rfl ?_
  refine rr_callV d_To_wordKind_71 il_To_77 m_Ta_spells (s_Ta_spells (j := 4) (by decide) hpe he) rfl rfl rfl rfl (Nat.le_of_ble_eq_true rfl) (Nat.le_of_ble_eq_true rfl) (Nat.le_of_ble_eq_true rfl) (Nat.le_of_ble_eq_true rfl) (Nat.le_of_ble_eq_true rfl) (fun r h1 hq => ?_)
  obtain ⟨rfl, rfl⟩ := hq
  by_cases b4 : sp_spell f p e 4 = true
  · rw [if_pos b4, b4]
    refine rr_if_eq 80 d_To_wordKind_74 (by decide) (fun c9 => absurd c9 (by decide)) (fun _ => ?_)
    refine rr_bipush 6 d_To_wordKind_77 rfl ?_
    exact rr_ireturn d_To_wordKind_79 rfl rfl (Nat.le_of_ble_eq_true rfl) (Nat.le_of_ble_eq_true rfl) (⟨rfl, rfl⟩)
  rw [if_neg b4, (Bool.not_eq_true _).mp b4]
  refine rr_if_eq 80 d_To_wordKind_74 (by decide) (fun _ => ?_) (fun c9 => absurd (rfl) c9)
  refine rr_aload_n d_To_wordKind_80 rfl rfl ?_
  refine rr_ldcS d_To_wordKind_81 sl_To_91 ?_
  refine rr_iload_n d_To_wordKind_83 rfl rfl ?_
  refine rr_iload_n d_To_wordKind_84 rfl rfl ?_
  refine rr_callV d_To_wordKind_85 il_To_77 m_Ta_spells (s_Ta_spells (j := 5) (by decide) hpe he) rfl rfl rfl rfl (Nat.le_of_ble_eq_true rfl) (Nat.le_of_ble_eq_true rfl) (Nat.le_of_ble_eq_true rfl) (Nat.le_of_ble_eq_true rfl) (Nat.le_of_ble_eq_true rfl) (fun r h1 hq => ?_)
  obtain ⟨rfl, rfl⟩ := hq
  by_cases b5 : sp_spell f p e 5 = true
  · rw [if_pos b5, b5]
    refine rr_if_eq 94 d_To_wordKind_88 (by decide) (fun c9 => absurd c9 (by decide)) (fun _ => ?_)
    refine rr_bipush 7 d_To_wordKind_91 rfl ?_
    exact rr_ireturn d_To_wordKind_93 rfl rfl (Nat.le_of_ble_eq_true rfl) (Nat.le_of_ble_eq_true rfl) (⟨rfl, rfl⟩)
  rw [if_neg b5, (Bool.not_eq_true _).mp b5]
  refine rr_if_eq 94 d_To_wordKind_88 (by decide) (fun _ => ?_) (fun c9 => absurd (rfl) c9)
  refine rr_iconst 1 d_To_wordKind_94 rfl ?_
  exact rr_ireturn d_To_wordKind_95 rfl rfl (Nat.le_of_ble_eq_true rfl) (Nat.le_of_ble_eq_true rfl) (⟨rfl, rfl⟩)

set_option maxRecDepth 100000 in
set_option maxHeartbeats 4000000 in
theorem l_splitWord {x0 x3 : va_E} {g : rr_H} {n m : Nat} {f fk fv fp : Nat → Int32} {p e : Nat} (hn : n ≤ 400) (hm : m ≤ 400) (hpe : p ≤ e) (hen : e ≤ n) : ∀ (k i : Nat), i + k = n → sp_run sp_isL f i k = e → rr_A R_To c_To_splitWord 4 (some .int) (false, none) { frames := 6, cells := 0, slots := 0, locals := 6 * 64 } (fun r h1 => r = some (.int (nI e)) ∧ h1 = x0 :: .inr (3, [.ref 2, .int (nI n)]) :: .inl (1, 400, .inl (f)) :: x3 :: .inr (4, [.ref 5, .ref 6, .ref 7, .int (nI (m + 1))]) :: .inl (0, 401, .inl (upd fk m (nI (sp_wk f p e)))) :: .inl (0, 401, .inl (upd fv m 0)) :: .inl (0, 401, .inl (upd fp m (nI p))) :: g) 0 0 2 [(3, .int (nI i)), (0, .ref 4), (1, .ref 1), (2, .int (nI p))] [] (x0 :: .inr (3, [.ref 2, .int (nI n)]) :: .inl (1, 400, .inl (f)) :: x3 :: .inr (4, [.ref 5, .ref 6, .ref 7, .int (nI m)]) :: .inl (0, 401, .inl (fk)) :: .inl (0, 401, .inl (fv)) :: .inl (0, 401, .inl (fp)) :: g) := by
  have fin : rr_A R_To c_To_splitWord 4 (some .int) (false, none) { frames := 6, cells := 0, slots := 0, locals := 6 * 64 } (fun r h1 => r = some (.int (nI e)) ∧ h1 = x0 :: .inr (3, [.ref 2, .int (nI n)]) :: .inl (1, 400, .inl (f)) :: x3 :: .inr (4, [.ref 5, .ref 6, .ref 7, .int (nI (m + 1))]) :: .inl (0, 401, .inl (upd fk m (nI (sp_wk f p e)))) :: .inl (0, 401, .inl (upd fv m 0)) :: .inl (0, 401, .inl (upd fp m (nI p))) :: g) 0 0 28 [(3, .int (nI e)), (0, .ref 4), (1, .ref 1), (2, .int (nI p))] [] (x0 :: .inr (3, [.ref 2, .int (nI n)]) :: .inl (1, 400, .inl (f)) :: x3 :: .inr (4, [.ref 5, .ref 6, .ref 7, .int (nI m)]) :: .inl (0, 401, .inl (fk)) :: .inl (0, 401, .inl (fv)) :: .inl (0, 401, .inl (fp)) :: g) := by
    refine rr_aload_n d_To_splitWord_28 rfl rfl ?_
    refine rr_aload_n d_To_splitWord_29 rfl rfl ?_
    refine rr_iload_n d_To_splitWord_30 rfl rfl ?_
    refine rr_iload_n d_To_splitWord_31 rfl rfl ?_
    refine rr_callS d_To_splitWord_32 il_To_59 m_To_wordKind (s_To_wordKind hpe (by omega)) rfl rfl (Nat.le_of_ble_eq_true rfl) (Nat.le_of_ble_eq_true rfl) (Nat.le_of_ble_eq_true rfl) (Nat.le_of_ble_eq_true rfl) (Nat.le_of_ble_eq_true rfl) (fun r h1 hq => ?_)
    obtain ⟨rfl, rfl⟩ := hq
    refine rr_iconst 0 d_To_splitWord_35 rfl ?_
    refine rr_iload_n d_To_splitWord_36 rfl rfl ?_
    refine rr_callV d_To_splitWord_37 il_To_38 m_To_add (s_To_add hm) rfl rfl rfl rfl (Nat.le_of_ble_eq_true rfl) (Nat.le_of_ble_eq_true rfl) (Nat.le_of_ble_eq_true rfl) (Nat.le_of_ble_eq_true rfl) (Nat.le_of_ble_eq_true rfl) (fun r h1 hq => ?_)
    obtain ⟨rfl, rfl⟩ := hq
    refine rr_iload_n d_To_splitWord_40 rfl rfl ?_
    exact rr_ireturn d_To_splitWord_41 rfl rfl (Nat.le_of_ble_eq_true rfl) (Nat.le_of_ble_eq_true rfl) (⟨rfl, rfl⟩)
  intro k
  induction k with
  | zero =>
    intro i hi he
    have : i = e := he
    subst this
    refine rr_iload_n d_To_splitWord_2 rfl rfl ?_
    refine rr_aload_n d_To_splitWord_3 rfl rfl ?_
    refine rr_getf d_To_splitWord_4 fl_To_25 rfl rfl ?_
    refine rr_icmp_ge 28 d_To_splitWord_7 (by decide) (fun _ => ?_) (fun c9 => absurd (nI_le (by omega) (by omega)) c9)
    exact fin
  | succ k ih =>
    intro i hi he
    refine rr_iload_n d_To_splitWord_2 rfl rfl ?_
    refine rr_aload_n d_To_splitWord_3 rfl rfl ?_
    refine rr_getf d_To_splitWord_4 fl_To_25 rfl rfl ?_
    refine rr_icmp_ge 28 d_To_splitWord_7 (by decide) (fun c9 => absurd c9 (nI_ge (by omega) (by omega))) (fun _ => ?_)
    refine rr_aload_n d_To_splitWord_10 rfl rfl ?_
    refine rr_getf d_To_splitWord_11 fl_To_30 rfl rfl ?_
    refine rr_iload_n d_To_splitWord_14 rfl rfl ?_
    refine rr_bald d_To_splitWord_15 rfl (vp_in_nI (n := i) (by omega) (by decide)) ?_
    rw [nI_clamp (by omega)]
    refine rr_callS d_To_splitWord_16 il_To_42 m_To_isLetter (s_To_isLetter) rfl rfl (Nat.le_of_ble_eq_true rfl) (Nat.le_of_ble_eq_true rfl) (Nat.le_of_ble_eq_true rfl) (Nat.le_of_ble_eq_true rfl) (Nat.le_of_ble_eq_true rfl) (fun r h1 hq => ?_)
    obtain ⟨rfl, rfl⟩ := hq
    unfold sp_run at he
    by_cases hc : sp_isL (f i) = true
    · rw [if_pos hc] at he
      rw [hc]
      refine rr_if_eq 28 d_To_splitWord_19 (by decide) (fun c9 => absurd c9 (by decide)) (fun _ => ?_)
      refine rr_iinc 1 d_To_splitWord_22 rfl rfl (by decide) ?_
      refine rr_goto 2 d_To_splitWord_25 (by decide) ?_
      rw [nI_1]
      exact rr_lvs _ rfl (ih (i + 1) (by omega) he)
    · rw [if_neg hc] at he
      subst he
      rw [(Bool.not_eq_true _).mp hc]
      refine rr_if_eq 28 d_To_splitWord_19 (by decide) (fun _ => ?_) (fun c9 => absurd (rfl) c9)
      exact fin

set_option maxRecDepth 100000 in
set_option maxHeartbeats 4000000 in
theorem s_To_splitWord {x0 x3 : va_E} {g : rr_H} {n m : Nat} {f fk fv fp : Nat → Int32} {p : Nat} (hn : n ≤ 400) (hm : m ≤ 400) (hp : p ≤ n) : rr_Spec 6 y_To_splitWord c_To_splitWord 4 (some .int) 0 0 [.ref 4, .ref 1, .int (nI p)] (x0 :: .inr (3, [.ref 2, .int (nI n)]) :: .inl (1, 400, .inl (f)) :: x3 :: .inr (4, [.ref 5, .ref 6, .ref 7, .int (nI m)]) :: .inl (0, 401, .inl (fk)) :: .inl (0, 401, .inl (fv)) :: .inl (0, 401, .inl (fp)) :: g) (fun r h1 => r = some (.int (nI (sp_run sp_isL f p (n - p)))) ∧ h1 = x0 :: .inr (3, [.ref 2, .int (nI n)]) :: .inl (1, 400, .inl (f)) :: x3 :: .inr (4, [.ref 5, .ref 6, .ref 7, .int (nI (m + 1))]) :: .inl (0, 401, .inl (upd fk m (nI (sp_wk f p (sp_run sp_isL f p (n - p)))))) :: .inl (0, 401, .inl (upd fv m 0)) :: .inl (0, 401, .inl (upd fp m (nI p))) :: g) := by
  have hr := sp_run_ge (P := sp_isL) (f := f) (n - p) p
  refine rr_met (own := R_To) (kd := (false, none)) (by decide +kernel) rfl (fun h => by cases h) rfl (Nat.le_of_ble_eq_true rfl) ?_
  refine rr_iload_n d_To_splitWord_0 rfl rfl ?_
  refine rr_istore_n d_To_splitWord_1 rfl (by decide) ?_
  exact rr_lvs _ rfl (l_splitWord hn hm (by omega) (by omega) (n - p) p (by omega) rfl)

theorem nu_min (a : Nat) (M : Nat) (d : Nat) : min (min a M * 10 + d) M = min (a * 10 + d) M := by omega
/-- a step of the number, held at 2^31 -/
theorem nu_step {a : Nat} {x : Int32} (hx : sp_isD x = true) : (if (2147483648 : Int64) < lN (min a 2147483648) * 10 + (x - 48).toInt64 then (2147483648 : Int64) else lN (min a 2147483648) * 10 + (x - 48).toInt64) = lN (min (a * 10 + sp_dg x) 2147483648) := by
  obtain ⟨c, h1, h2, rfl⟩ := sp_isD_of hx
  have e1 : (nI c - 48 : Int32) = nI (c - 48) := pk_sub (b := 48) h1
  have e2 : sp_dg (nI c) = c - 48 := by unfold sp_dg; rw [nI_clamp (by omega)]
  rw [e1, e2, nI_l (by omega), show (10 : Int64) = lN 10 from rfl, lN_mul, lN_add, show (2147483648 : Int64) = lN 2147483648 from rfl, ← nu_min]
  have hb : min a 2147483648 * 10 + (c - 48) < 2 ^ 63 := by omega
  by_cases h : 2147483648 < min a 2147483648 * 10 + (c - 48)
  · rw [if_pos ((pk_lLT (by omega) hb).mpr h)]
    exact congrArg lN (by omega)
  · rw [if_neg (fun q => h ((pk_lLT (by omega) hb).mp q))]
    exact congrArg lN (by omega)
theorem nu_end {a : Nat} : lg_cmp (lN (min a 2147483648)) 2147483647 ≤ 0 ↔ a < 2147483648 := by
  rw [show (2147483647 : Int64) = lN 2147483647 from rfl]
  unfold lg_cmp
  by_cases h : a < 2147483648
  · rw [if_neg (fun q => by have := (pk_lLT (by omega) (by omega)).mp q; omega)]
    refine ⟨fun _ => h, fun _ => ?_⟩
    split <;> decide
  · rw [if_pos ((pk_lLT (by omega) (by omega)).mpr (by omega))]
    exact ⟨fun q => absurd q (by decide), fun q => absurd q h⟩

set_option maxRecDepth 100000 in
set_option maxHeartbeats 4000000 in
theorem l_splitNumber {x0 x3 : va_E} {g : rr_H} {n m : Nat} {f fk fv fp : Nat → Int32} {p e v : Nat} (hn : n ≤ 400) (hm : m ≤ 400) : ∀ (k i a : Nat), i + k = n → sp_run sp_isD f i k = e → sp_nv f i k a = v → rr_A R_To c_To_splitNumber 6 (some .int) (false, none) { frames := 2, cells := 0, slots := 0, locals := 2 * 64 } (fun r h1 => r = some (.int (nI (e))) ∧ h1 = if v < 2147483648 then x0 :: .inr (3, [.ref 2, .int (nI n)]) :: .inl (1, 400, .inl (f)) :: x3 :: .inr (4, [.ref 5, .ref 6, .ref 7, .int (nI (m + 1))]) :: .inl (0, 401, .inl (upd fk m 9)) :: .inl (0, 401, .inl (upd fv m (nI (v)))) :: .inl (0, 401, .inl (upd fp m (nI p))) :: g else x0 :: .inr (3, [.ref 2, .int (nI n)]) :: .inl (1, 400, .inl (f)) :: x3 :: .inr (4, [.ref 5, .ref 6, .ref 7, .int (nI (m + 1))]) :: .inl (0, 401, .inl (upd fk m 1)) :: .inl (0, 401, .inl (upd fv m 0)) :: .inl (0, 401, .inl (upd fp m (nI p))) :: g) 0 0 5 [(5, .int (nI i)), (3, .long (lN (min a 2147483648))), (0, .ref 4), (1, .ref 1), (2, .int (nI p))] [] (x0 :: .inr (3, [.ref 2, .int (nI n)]) :: .inl (1, 400, .inl (f)) :: x3 :: .inr (4, [.ref 5, .ref 6, .ref 7, .int (nI m)]) :: .inl (0, 401, .inl (fk)) :: .inl (0, 401, .inl (fv)) :: .inl (0, 401, .inl (fp)) :: g) := by
  have fin : ∀ a : Nat, a = v → rr_A R_To c_To_splitNumber 6 (some .int) (false, none) { frames := 2, cells := 0, slots := 0, locals := 2 * 64 } (fun r h1 => r = some (.int (nI (e))) ∧ h1 = if v < 2147483648 then x0 :: .inr (3, [.ref 2, .int (nI n)]) :: .inl (1, 400, .inl (f)) :: x3 :: .inr (4, [.ref 5, .ref 6, .ref 7, .int (nI (m + 1))]) :: .inl (0, 401, .inl (upd fk m 9)) :: .inl (0, 401, .inl (upd fv m (nI (v)))) :: .inl (0, 401, .inl (upd fp m (nI p))) :: g else x0 :: .inr (3, [.ref 2, .int (nI n)]) :: .inl (1, 400, .inl (f)) :: x3 :: .inr (4, [.ref 5, .ref 6, .ref 7, .int (nI (m + 1))]) :: .inl (0, 401, .inl (upd fk m 1)) :: .inl (0, 401, .inl (upd fv m 0)) :: .inl (0, 401, .inl (upd fp m (nI p))) :: g) 0 0 57 [(5, .int (nI e)), (3, .long (lN (min a 2147483648))), (0, .ref 4), (1, .ref 1), (2, .int (nI p))] [] (x0 :: .inr (3, [.ref 2, .int (nI n)]) :: .inl (1, 400, .inl (f)) :: x3 :: .inr (4, [.ref 5, .ref 6, .ref 7, .int (nI m)]) :: .inl (0, 401, .inl (fk)) :: .inl (0, 401, .inl (fv)) :: .inl (0, 401, .inl (fp)) :: g) := by
    rintro a rfl
    refine rr_lload_n d_To_splitNumber_57 rfl rfl ?_
    refine rr_ldc2 d_To_splitNumber_58 kl_To_73 ?_
    refine rr_lcmp d_To_splitNumber_61 ?_
    refine rr_if_le 75 d_To_splitNumber_62 (by decide) (fun hc => ?_) (fun hc => ?_)
    · have hv := nu_end.mp hc
      rw [if_pos hv]
      refine rr_aload_n d_To_splitNumber_75 rfl rfl ?_
      refine rr_bipush 9 d_To_splitNumber_76 rfl ?_
      refine rr_lload_n d_To_splitNumber_78 rfl rfl ?_
      refine rr_l2i d_To_splitNumber_79 ?_
      refine rr_iload_n d_To_splitNumber_80 rfl rfl ?_
      rw [Nat.min_eq_left (by omega : a ≤ 2147483648), lN_i]
      refine rr_callV d_To_splitNumber_81 il_To_38 m_To_add (s_To_add hm) rfl rfl rfl rfl (Nat.le_of_ble_eq_true rfl) (Nat.le_of_ble_eq_true rfl) (Nat.le_of_ble_eq_true rfl) (Nat.le_of_ble_eq_true rfl) (Nat.le_of_ble_eq_true rfl) (fun r h1 hq => ?_)
      obtain ⟨rfl, rfl⟩ := hq
      refine rr_iload d_To_splitNumber_84 rfl ?_
      exact rr_ireturn d_To_splitNumber_86 rfl rfl (Nat.le_of_ble_eq_true rfl) (Nat.le_of_ble_eq_true rfl) (⟨rfl, rfl⟩)
    · have hv : ¬ a < 2147483648 := fun q => hc (nu_end.mpr q)
      rw [if_neg hv]
      refine rr_aload_n d_To_splitNumber_65 rfl rfl ?_
      refine rr_iconst 1 d_To_splitNumber_66 rfl ?_
      refine rr_iconst 0 d_To_splitNumber_67 rfl ?_
      refine rr_iload_n d_To_splitNumber_68 rfl rfl ?_
      refine rr_callV d_To_splitNumber_69 il_To_38 m_To_add (s_To_add hm) rfl rfl rfl rfl (Nat.le_of_ble_eq_true rfl) (Nat.le_of_ble_eq_true rfl) (Nat.le_of_ble_eq_true rfl) (Nat.le_of_ble_eq_true rfl) (Nat.le_of_ble_eq_true rfl) (fun r h1 hq => ?_)
      obtain ⟨rfl, rfl⟩ := hq
      refine rr_goto 84 d_To_splitNumber_72 (by decide) ?_
      refine rr_iload d_To_splitNumber_84 rfl ?_
      exact rr_ireturn d_To_splitNumber_86 rfl rfl (Nat.le_of_ble_eq_true rfl) (Nat.le_of_ble_eq_true rfl) (⟨rfl, rfl⟩)
  intro k
  induction k with
  | zero =>
    intro i a hi he hv
    have : i = e := he
    subst this
    refine rr_iload d_To_splitNumber_5 rfl ?_
    refine rr_aload_n d_To_splitNumber_7 rfl rfl ?_
    refine rr_getf d_To_splitNumber_8 fl_To_25 rfl rfl ?_
    refine rr_icmp_ge 57 d_To_splitNumber_11 (by decide) (fun _ => ?_) (fun c9 => absurd (nI_le (by omega) (by omega)) c9)
    exact fin a hv
  | succ k ih =>
    intro i a hi he hv
    refine rr_iload d_To_splitNumber_5 rfl ?_
    refine rr_aload_n d_To_splitNumber_7 rfl rfl ?_
    refine rr_getf d_To_splitNumber_8 fl_To_25 rfl rfl ?_
    refine rr_icmp_ge 57 d_To_splitNumber_11 (by decide) (fun c9 => absurd c9 (nI_ge (by omega) (by omega))) (fun _ => ?_)
    refine rr_aload_n d_To_splitNumber_14 rfl rfl ?_
    refine rr_getf d_To_splitNumber_15 fl_To_30 rfl rfl ?_
    refine rr_iload d_To_splitNumber_18 rfl ?_
    refine rr_bald d_To_splitNumber_20 rfl (vp_in_nI (n := i) (by omega) (by decide)) ?_
    rw [nI_clamp (by omega)]
    refine rr_callS d_To_splitNumber_21 il_To_49 m_To_isDigit (s_To_isDigit) rfl rfl (Nat.le_of_ble_eq_true rfl) (Nat.le_of_ble_eq_true rfl) (Nat.le_of_ble_eq_true rfl) (Nat.le_of_ble_eq_true rfl) (Nat.le_of_ble_eq_true rfl) (fun r h1 hq => ?_)
    obtain ⟨rfl, rfl⟩ := hq
    unfold sp_run at he
    unfold sp_nv at hv
    by_cases hc : sp_isD (f i) = true
    · rw [if_pos hc] at he hv
      rw [hc]
      refine rr_if_eq 57 d_To_splitNumber_24 (by decide) (fun c9 => absurd c9 (by decide)) (fun _ => ?_)
      refine rr_lload_n d_To_splitNumber_27 rfl rfl ?_
      refine rr_ldc2 d_To_splitNumber_28 kl_To_63 ?_
      refine rr_lmul d_To_splitNumber_31 ?_
      refine rr_aload_n d_To_splitNumber_32 rfl rfl ?_
      refine rr_getf d_To_splitNumber_33 fl_To_30 rfl rfl ?_
      refine rr_iload d_To_splitNumber_36 rfl ?_
      refine rr_bald d_To_splitNumber_38 rfl (vp_in_nI (n := i) (by omega) (by decide)) ?_
      refine rr_bipush 48 d_To_splitNumber_39 rfl ?_
      refine rr_isub d_To_splitNumber_41 ?_
      refine rr_i2l d_To_splitNumber_42 ?_
      refine rr_ladd d_To_splitNumber_43 ?_
      refine rr_ldc2 d_To_splitNumber_44 kl_To_65 ?_
      refine rr_minJ d_To_splitNumber_47 ml_To_67 (Nat.le_of_ble_eq_true rfl) (Nat.le_of_ble_eq_true rfl) (Nat.le_of_ble_eq_true rfl) (Nat.le_of_ble_eq_true rfl) ?_
      rw [nI_clamp (by omega), nu_step hc]
      refine rr_lstore_n d_To_splitNumber_50 rfl (by decide) ?_
      refine rr_iinc 1 d_To_splitNumber_51 rfl rfl (by decide) ?_
      refine rr_goto 5 d_To_splitNumber_54 (by decide) ?_
      rw [nI_1]
      exact rr_lvs _ rfl (ih (i + 1) _ (by omega) he hv)
    · rw [if_neg hc] at he hv
      subst he
      rw [(Bool.not_eq_true _).mp hc]
      refine rr_if_eq 57 d_To_splitNumber_24 (by decide) (fun _ => ?_) (fun c9 => absurd (rfl) c9)
      exact fin a hv

set_option maxRecDepth 100000 in
set_option maxHeartbeats 4000000 in
theorem s_To_splitNumber {x0 x3 : va_E} {g : rr_H} {n m : Nat} {f fk fv fp : Nat → Int32} {p : Nat} (hn : n ≤ 400) (hm : m ≤ 400) (hp : p ≤ n) : rr_Spec 2 y_To_splitNumber c_To_splitNumber 6 (some .int) 0 0 [.ref 4, .ref 1, .int (nI p)] (x0 :: .inr (3, [.ref 2, .int (nI n)]) :: .inl (1, 400, .inl (f)) :: x3 :: .inr (4, [.ref 5, .ref 6, .ref 7, .int (nI m)]) :: .inl (0, 401, .inl (fk)) :: .inl (0, 401, .inl (fv)) :: .inl (0, 401, .inl (fp)) :: g) (fun r h1 => r = some (.int (nI (sp_run sp_isD f p (n - p)))) ∧ h1 = if sp_nv f p (n - p) 0 < 2147483648 then x0 :: .inr (3, [.ref 2, .int (nI n)]) :: .inl (1, 400, .inl (f)) :: x3 :: .inr (4, [.ref 5, .ref 6, .ref 7, .int (nI (m + 1))]) :: .inl (0, 401, .inl (upd fk m 9)) :: .inl (0, 401, .inl (upd fv m (nI (sp_nv f p (n - p) 0)))) :: .inl (0, 401, .inl (upd fp m (nI p))) :: g else x0 :: .inr (3, [.ref 2, .int (nI n)]) :: .inl (1, 400, .inl (f)) :: x3 :: .inr (4, [.ref 5, .ref 6, .ref 7, .int (nI (m + 1))]) :: .inl (0, 401, .inl (upd fk m 1)) :: .inl (0, 401, .inl (upd fv m 0)) :: .inl (0, 401, .inl (upd fp m (nI p))) :: g) := by
  refine rr_met (own := R_To) (kd := (false, none)) (by decide +kernel) rfl (fun h => by cases h) rfl (Nat.le_of_ble_eq_true rfl) ?_
  refine rr_lconst 0 d_To_splitNumber_0 rfl ?_
  refine rr_lstore_n d_To_splitNumber_1 rfl (by decide) ?_
  refine rr_iload_n d_To_splitNumber_2 rfl rfl ?_
  refine rr_istore d_To_splitNumber_3 (by decide) ?_
  exact rr_lvs _ rfl (l_splitNumber hn hm (n - p) p 0 (by omega) rfl rfl)

set_option maxRecDepth 100000 in
set_option maxHeartbeats 4000000 in
theorem s_To_splitOne {x0 x3 : va_E} {g : rr_H} {n m : Nat} {f fk fv fp : Nat → Int32} {p : Nat} (hn : n ≤ 400) (hm : m ≤ 400) (hp : p < n) : rr_Spec 7 y_To_splitOne c_To_splitOne 4 (some .int) 0 0 [.ref 4, .ref 1, .int (nI p)] (x0 :: .inr (3, [.ref 2, .int (nI n)]) :: .inl (1, 400, .inl (f)) :: x3 :: .inr (4, [.ref 5, .ref 6, .ref 7, .int (nI m)]) :: .inl (0, 401, .inl (fk)) :: .inl (0, 401, .inl (fv)) :: .inl (0, 401, .inl (fp)) :: g) (fun r h1 => r = some (.int (nI (sp_tok f n p).2.2)) ∧ h1 = x0 :: .inr (3, [.ref 2, .int (nI n)]) :: .inl (1, 400, .inl (f)) :: x3 :: .inr (4, [.ref 5, .ref 6, .ref 7, .int (nI (m + 1))]) :: .inl (0, 401, .inl (upd fk m (nI (sp_tok f n p).1))) :: .inl (0, 401, .inl (upd fv m (sp_tok f n p).2.1)) :: .inl (0, 401, .inl (upd fp m (nI p))) :: g) := by
  refine rr_met (own := R_To) (kd := (false, none)) (by decide +kernel) rfl (fun h => by cases h) rfl (Nat.le_of_ble_eq_true rfl) ?_
  refine rr_aload_n d_To_splitOne_0 rfl rfl ?_
  refine rr_getf d_To_splitOne_1 fl_To_30 rfl rfl ?_
  refine rr_iload_n d_To_splitOne_4 rfl rfl ?_
  refine rr_bald d_To_splitOne_5 rfl (vp_in_nI (n := p) (by omega) (by decide)) ?_
  refine rr_istore_n d_To_splitOne_6 rfl (by decide) ?_
  refine rr_iload_n d_To_splitOne_7 rfl rfl ?_
  rw [nI_clamp (by omega)]
  refine rr_callS d_To_splitOne_8 il_To_42 m_To_isLetter (s_To_isLetter) rfl rfl (Nat.le_of_ble_eq_true rfl) (Nat.le_of_ble_eq_true rfl) (Nat.le_of_ble_eq_true rfl) (Nat.le_of_ble_eq_true rfl) (Nat.le_of_ble_eq_true rfl) (fun r h1 hq => ?_)
  obtain ⟨rfl, rfl⟩ := hq
  by_cases hL : sp_isL (f p) = true
  · have e : sp_tok f n p = (sp_wk f p (sp_run sp_isL f p (n - p)), 0, sp_run sp_isL f p (n - p)) := by unfold sp_tok; rw [if_pos hL]
    rw [e, hL]
    refine rr_if_eq 21 d_To_splitOne_11 (by decide) (fun c9 => absurd c9 (by decide)) (fun _ => ?_)
    refine rr_aload_n d_To_splitOne_14 rfl rfl ?_
    refine rr_aload_n d_To_splitOne_15 rfl rfl ?_
    refine rr_iload_n d_To_splitOne_16 rfl rfl ?_
    refine rr_callV d_To_splitOne_17 il_To_46 m_To_splitWord (s_To_splitWord hn hm (by omega)) rfl rfl rfl rfl (Nat.le_of_ble_eq_true rfl) (Nat.le_of_ble_eq_true rfl) (Nat.le_of_ble_eq_true rfl) (Nat.le_of_ble_eq_true rfl) (Nat.le_of_ble_eq_true rfl) (fun r h1 hq => ?_)
    obtain ⟨rfl, rfl⟩ := hq
    exact rr_ireturn d_To_splitOne_20 rfl rfl (Nat.le_of_ble_eq_true rfl) (Nat.le_of_ble_eq_true rfl) (⟨rfl, rfl⟩)
  rw [(Bool.not_eq_true _).mp hL]
  refine rr_if_eq 21 d_To_splitOne_11 (by decide) (fun _ => ?_) (fun c9 => absurd (rfl) c9)
  refine rr_iload_n d_To_splitOne_21 rfl rfl ?_
  refine rr_callS d_To_splitOne_22 il_To_49 m_To_isDigit (s_To_isDigit) rfl rfl (Nat.le_of_ble_eq_true rfl) (Nat.le_of_ble_eq_true rfl) (Nat.le_of_ble_eq_true rfl) (Nat.le_of_ble_eq_true rfl) (Nat.le_of_ble_eq_true rfl) (fun r h1 hq => ?_)
  obtain ⟨rfl, rfl⟩ := hq
  by_cases hD : sp_isD (f p) = true
  · have e : sp_tok f n p = if sp_nv f p (n - p) 0 < 2147483648 then (9, nI (sp_nv f p (n - p) 0), sp_run sp_isD f p (n - p)) else (1, 0, sp_run sp_isD f p (n - p)) := by unfold sp_tok; rw [if_neg hL, if_pos hD]
    rw [e, hD]
    refine rr_if_eq 35 d_To_splitOne_25 (by decide) (fun c9 => absurd c9 (by decide)) (fun _ => ?_)
    refine rr_aload_n d_To_splitOne_28 rfl rfl ?_
    refine rr_aload_n d_To_splitOne_29 rfl rfl ?_
    refine rr_iload_n d_To_splitOne_30 rfl rfl ?_
    refine rr_callV d_To_splitOne_31 il_To_52 m_To_splitNumber (s_To_splitNumber hn hm (by omega)) rfl rfl rfl rfl (Nat.le_of_ble_eq_true rfl) (Nat.le_of_ble_eq_true rfl) (Nat.le_of_ble_eq_true rfl) (Nat.le_of_ble_eq_true rfl) (Nat.le_of_ble_eq_true rfl) (fun r h1 hq => ?_)
    obtain ⟨rfl, rfl⟩ := hq
    by_cases hv : sp_nv f p (n - p) 0 < 2147483648
    · simp only [if_pos hv]
      exact rr_ireturn d_To_splitOne_34 rfl rfl (Nat.le_of_ble_eq_true rfl) (Nat.le_of_ble_eq_true rfl) (⟨rfl, rfl⟩)
    · simp only [if_neg hv]
      exact rr_ireturn d_To_splitOne_34 rfl rfl (Nat.le_of_ble_eq_true rfl) (Nat.le_of_ble_eq_true rfl) (⟨rfl, rfl⟩)
  rw [(Bool.not_eq_true _).mp hD]
  refine rr_if_eq 35 d_To_splitOne_25 (by decide) (fun _ => ?_) (fun c9 => absurd (rfl) c9)
  refine rr_iload_n d_To_splitOne_35 rfl rfl ?_
  refine rr_bipush 58 d_To_splitOne_36 rfl ?_
  have eN : ¬ (f p = 58 ∧ p + 1 < n ∧ f (p + 1) = 61) → rr_A R_To c_To_splitOne 4 (some .int) (false, none) { frames := 7, cells := 0, slots := 0, locals := 7 * 64 } (fun r h1 => r = some (.int (nI (sp_tok f n p).2.2)) ∧ h1 = x0 :: .inr (3, [.ref 2, .int (nI n)]) :: .inl (1, 400, .inl (f)) :: x3 :: .inr (4, [.ref 5, .ref 6, .ref 7, .int (nI (m + 1))]) :: .inl (0, 401, .inl (upd fk m (nI (sp_tok f n p).1))) :: .inl (0, 401, .inl (upd fv m (sp_tok f n p).2.1)) :: .inl (0, 401, .inl (upd fp m (nI p))) :: g) 0 0 76 [(3, .int (f p)), (0, .ref 4), (1, .ref 1), (2, .int (nI p))] [] (x0 :: .inr (3, [.ref 2, .int (nI n)]) :: .inl (1, 400, .inl (f)) :: x3 :: .inr (4, [.ref 5, .ref 6, .ref 7, .int (nI m)]) :: .inl (0, 401, .inl (fk)) :: .inl (0, 401, .inl (fv)) :: .inl (0, 401, .inl (fp)) :: g) := by
    intro hq
    have e : sp_tok f n p = (sp_sk (f p), 0, p + 1) := by unfold sp_tok; rw [if_neg hL, if_neg hD, if_neg hq]
    rw [e]
    refine rr_aload_n d_To_splitOne_76 rfl rfl ?_
    refine rr_iload_n d_To_splitOne_77 rfl rfl ?_
    refine rr_callS d_To_splitOne_78 il_To_55 m_To_signKind (s_To_signKind) rfl rfl (Nat.le_of_ble_eq_true rfl) (Nat.le_of_ble_eq_true rfl) (Nat.le_of_ble_eq_true rfl) (Nat.le_of_ble_eq_true rfl) (Nat.le_of_ble_eq_true rfl) (fun r h1 hq => ?_)
    obtain ⟨rfl, rfl⟩ := hq
    refine rr_iconst 0 d_To_splitOne_81 rfl ?_
    refine rr_iload_n d_To_splitOne_82 rfl rfl ?_
    refine rr_callV d_To_splitOne_83 il_To_38 m_To_add (s_To_add hm) rfl rfl rfl rfl (Nat.le_of_ble_eq_true rfl) (Nat.le_of_ble_eq_true rfl) (Nat.le_of_ble_eq_true rfl) (Nat.le_of_ble_eq_true rfl) (Nat.le_of_ble_eq_true rfl) (fun r h1 hq => ?_)
    obtain ⟨rfl, rfl⟩ := hq
    refine rr_iload_n d_To_splitOne_86 rfl rfl ?_
    refine rr_iconst 1 d_To_splitOne_87 rfl ?_
    refine rr_iadd d_To_splitOne_88 ?_
    rw [nI_1]
    exact rr_ireturn d_To_splitOne_89 rfl rfl (Nat.le_of_ble_eq_true rfl) (Nat.le_of_ble_eq_true rfl) (⟨rfl, rfl⟩)
  refine rr_icmp_ne 76 d_To_splitOne_38 (by decide) (fun hc => ?_) (fun hc => ?_)
  · exact rr_lvs _ rfl (eN (fun q => hc q.1))
  refine rr_iload_n d_To_splitOne_41 rfl rfl ?_
  refine rr_iconst 1 d_To_splitOne_42 rfl ?_
  refine rr_iadd d_To_splitOne_43 ?_
  refine rr_aload_n d_To_splitOne_44 rfl rfl ?_
  refine rr_getf d_To_splitOne_45 fl_To_25 rfl rfl ?_
  rw [nI_1]
  refine rr_icmp_ge 76 d_To_splitOne_48 (by decide) (fun hd => ?_) (fun hd => ?_)
  · exact rr_lvs _ rfl (eN (fun q => nI_ge q.2.1 (by omega) hd))
  have hd2 : p + 1 < n := Nat.not_le.mp (fun q => hd (nI_le q (by omega)))
  refine rr_aload_n d_To_splitOne_51 rfl rfl ?_
  refine rr_getf d_To_splitOne_52 fl_To_30 rfl rfl ?_
  refine rr_iload_n d_To_splitOne_55 rfl rfl ?_
  refine rr_iconst 1 d_To_splitOne_56 rfl ?_
  refine rr_iadd d_To_splitOne_57 ?_
  rw [nI_1]
  refine rr_bald d_To_splitOne_58 rfl (vp_in_nI (n := p + 1) (by omega) (by decide)) ?_
  refine rr_bipush 61 d_To_splitOne_59 rfl ?_
  rw [nI_clamp (by omega)]
  refine rr_icmp_ne 76 d_To_splitOne_61 (by decide) (fun he => ?_) (fun he => ?_)
  · exact rr_lvs _ rfl (eN (fun q => he q.2.2))
  have e : sp_tok f n p = (17, 0, p + 2) := by unfold sp_tok; rw [if_neg hL, if_neg hD, if_pos ⟨hc, hd2, he⟩]
  rw [e]
  refine rr_aload_n d_To_splitOne_64 rfl rfl ?_
  refine rr_bipush 17 d_To_splitOne_65 rfl ?_
  refine rr_iconst 0 d_To_splitOne_67 rfl ?_
  refine rr_iload_n d_To_splitOne_68 rfl rfl ?_
  refine rr_callV d_To_splitOne_69 il_To_38 m_To_add (s_To_add hm) rfl rfl rfl rfl (Nat.le_of_ble_eq_true rfl) (Nat.le_of_ble_eq_true rfl) (Nat.le_of_ble_eq_true rfl) (Nat.le_of_ble_eq_true rfl) (Nat.le_of_ble_eq_true rfl) (fun r h1 hq => ?_)
  obtain ⟨rfl, rfl⟩ := hq
  refine rr_iload_n d_To_splitOne_72 rfl rfl ?_
  refine rr_iconst 2 d_To_splitOne_73 rfl ?_
  refine rr_iadd d_To_splitOne_74 ?_
  rw [show (nI p + 2 : Int32) = nI (p + 2) from nI_add p 2]
  exact rr_ireturn d_To_splitOne_75 rfl rfl (Nat.le_of_ble_eq_true rfl) (Nat.le_of_ble_eq_true rfl) (⟨rfl, rfl⟩)
