/-! The tape; cells; counts. -/
/-- a byte is put -/
def ta_b (x s : Int32) : Int32 := vp_nar .byte (x >>> (s &&& 31)).toInt8.toInt32
def ta_4 (f : Nat → Int32) (n : Nat) (x : Int32) : Nat → Int32 := upd (upd (upd (upd f n (ta_b x 24)) (n + 1) (ta_b x 16)) (n + 2) (ta_b x 8)) (n + 3) (ta_b x 0)
def ta_20 (f : Nat → Int32) (n : Nat) (a b c d e : Int32) : Nat → Int32 := ta_4 (ta_4 (ta_4 (ta_4 (ta_4 f n a) (n + 4) b) (n + 8) c) (n + 12) d) (n + 16) e

set_option maxRecDepth 100000 in
set_option maxHeartbeats 4000000 in
theorem s_Ta_append {x0 : va_E} {g : rr_H} {n : Nat} {f : Nat → Int32} {x : Int32} (hn : n + 4 ≤ 400) : rr_Spec 1 y_Ta_append c_Ta_append 3 none 0 0 [.ref 1, .int x] (x0 :: .inr (3, [.ref 2, .int (nI n)]) :: .inl (1, 400, .inl (f)) :: g) (fun r h1 => r = none ∧ h1 = x0 :: .inr (3, [.ref 2, .int (nI (n + 4))]) :: .inl (1, 400, .inl (ta_4 f n x)) :: g) := by
  refine rr_met (own := R_Ta) (kd := (false, none)) (by decide +kernel) rfl (fun h => by cases h) rfl (Nat.le_of_ble_eq_true rfl) ?_
  refine rr_bipush 24 d_Ta_append_0 rfl ?_
  refine rr_istore_n d_Ta_append_2 rfl (by decide) ?_
  refine rr_iload_n d_Ta_append_3 rfl rfl ?_
  refine rr_if_lt 46 d_Ta_append_4 (by decide) (fun c9 => absurd c9 (by decide)) (fun _ => ?_)
  refine rr_aload_n d_Ta_append_7 rfl rfl ?_
  refine rr_getf d_Ta_append_8 fl_Ta_15 rfl rfl ?_
  refine rr_sipush 400 d_Ta_append_11 rfl ?_
  refine rr_icmp_ge 40 d_Ta_append_14 (by decide) (fun c9 => absurd c9 (nI_ge (a := n) (b := 400) (by omega) (by decide))) (fun _ => ?_)
  refine rr_aload_n d_Ta_append_17 rfl rfl ?_
  refine rr_getf d_Ta_append_18 fl_Ta_9 rfl rfl ?_
  refine rr_aload_n d_Ta_append_21 rfl rfl ?_
  refine rr_getf d_Ta_append_22 fl_Ta_15 rfl rfl ?_
  refine rr_iload_n d_Ta_append_25 rfl rfl ?_
  refine rr_iload_n d_Ta_append_26 rfl rfl ?_
  refine rr_ishr d_Ta_append_27 ?_
  refine rr_i2b d_Ta_append_28 ?_
  refine rr_bast d_Ta_append_29 rfl (vp_in_nI (n := n) (by omega) (by decide)) ?_
  refine rr_aload_n d_Ta_append_30 rfl rfl ?_
  refine rr_dup d_Ta_append_31 rfl ?_
  refine rr_getf d_Ta_append_32 fl_Ta_15 rfl rfl ?_
  refine rr_iconst 1 d_Ta_append_35 rfl ?_
  refine rr_iadd d_Ta_append_36 ?_
  refine rr_putf d_Ta_append_37 fl_Ta_15 rfl rfl rfl rfl ?_
  refine rr_iinc (-8) d_Ta_append_40 rfl rfl (by decide) ?_
  refine rr_goto 3 d_Ta_append_43 (by decide) ?_
  rw [nI_1, nI_clamp (by omega)]
  refine rr_iload_n d_Ta_append_3 rfl rfl ?_
  refine rr_if_lt 46 d_Ta_append_4 (by decide) (fun c9 => absurd c9 (by decide)) (fun _ => ?_)
  refine rr_aload_n d_Ta_append_7 rfl rfl ?_
  refine rr_getf d_Ta_append_8 fl_Ta_15 rfl rfl ?_
  refine rr_sipush 400 d_Ta_append_11 rfl ?_
  refine rr_icmp_ge 40 d_Ta_append_14 (by decide) (fun c9 => absurd c9 (nI_ge (a := (n + 1)) (b := 400) (by omega) (by decide))) (fun _ => ?_)
  refine rr_aload_n d_Ta_append_17 rfl rfl ?_
  refine rr_getf d_Ta_append_18 fl_Ta_9 rfl rfl ?_
  refine rr_aload_n d_Ta_append_21 rfl rfl ?_
  refine rr_getf d_Ta_append_22 fl_Ta_15 rfl rfl ?_
  refine rr_iload_n d_Ta_append_25 rfl rfl ?_
  refine rr_iload_n d_Ta_append_26 rfl rfl ?_
  refine rr_ishr d_Ta_append_27 ?_
  refine rr_i2b d_Ta_append_28 ?_
  refine rr_bast d_Ta_append_29 rfl (vp_in_nI (n := (n + 1)) (by omega) (by decide)) ?_
  refine rr_aload_n d_Ta_append_30 rfl rfl ?_
  refine rr_dup d_Ta_append_31 rfl ?_
  refine rr_getf d_Ta_append_32 fl_Ta_15 rfl rfl ?_
  refine rr_iconst 1 d_Ta_append_35 rfl ?_
  refine rr_iadd d_Ta_append_36 ?_
  refine rr_putf d_Ta_append_37 fl_Ta_15 rfl rfl rfl rfl ?_
  refine rr_iinc (-8) d_Ta_append_40 rfl rfl (by decide) ?_
  refine rr_goto 3 d_Ta_append_43 (by decide) ?_
  rw [nI_1, nI_clamp (by omega)]
  refine rr_iload_n d_Ta_append_3 rfl rfl ?_
  refine rr_if_lt 46 d_Ta_append_4 (by decide) (fun c9 => absurd c9 (by decide)) (fun _ => ?_)
  refine rr_aload_n d_Ta_append_7 rfl rfl ?_
  refine rr_getf d_Ta_append_8 fl_Ta_15 rfl rfl ?_
  refine rr_sipush 400 d_Ta_append_11 rfl ?_
  refine rr_icmp_ge 40 d_Ta_append_14 (by decide) (fun c9 => absurd c9 (nI_ge (a := (n + 2)) (b := 400) (by omega) (by decide))) (fun _ => ?_)
  refine rr_aload_n d_Ta_append_17 rfl rfl ?_
  refine rr_getf d_Ta_append_18 fl_Ta_9 rfl rfl ?_
  refine rr_aload_n d_Ta_append_21 rfl rfl ?_
  refine rr_getf d_Ta_append_22 fl_Ta_15 rfl rfl ?_
  refine rr_iload_n d_Ta_append_25 rfl rfl ?_
  refine rr_iload_n d_Ta_append_26 rfl rfl ?_
  refine rr_ishr d_Ta_append_27 ?_
  refine rr_i2b d_Ta_append_28 ?_
  refine rr_bast d_Ta_append_29 rfl (vp_in_nI (n := (n + 2)) (by omega) (by decide)) ?_
  refine rr_aload_n d_Ta_append_30 rfl rfl ?_
  refine rr_dup d_Ta_append_31 rfl ?_
  refine rr_getf d_Ta_append_32 fl_Ta_15 rfl rfl ?_
  refine rr_iconst 1 d_Ta_append_35 rfl ?_
  refine rr_iadd d_Ta_append_36 ?_
  refine rr_putf d_Ta_append_37 fl_Ta_15 rfl rfl rfl rfl ?_
  refine rr_iinc (-8) d_Ta_append_40 rfl rfl (by decide) ?_
  refine rr_goto 3 d_Ta_append_43 (by decide) ?_
  rw [nI_1, nI_clamp (by omega)]
  refine rr_iload_n d_Ta_append_3 rfl rfl ?_
  refine rr_if_lt 46 d_Ta_append_4 (by decide) (fun c9 => absurd c9 (by decide)) (fun _ => ?_)
  refine rr_aload_n d_Ta_append_7 rfl rfl ?_
  refine rr_getf d_Ta_append_8 fl_Ta_15 rfl rfl ?_
  refine rr_sipush 400 d_Ta_append_11 rfl ?_
  refine rr_icmp_ge 40 d_Ta_append_14 (by decide) (fun c9 => absurd c9 (nI_ge (a := (n + 3)) (b := 400) (by omega) (by decide))) (fun _ => ?_)
  refine rr_aload_n d_Ta_append_17 rfl rfl ?_
  refine rr_getf d_Ta_append_18 fl_Ta_9 rfl rfl ?_
  refine rr_aload_n d_Ta_append_21 rfl rfl ?_
  refine rr_getf d_Ta_append_22 fl_Ta_15 rfl rfl ?_
  refine rr_iload_n d_Ta_append_25 rfl rfl ?_
  refine rr_iload_n d_Ta_append_26 rfl rfl ?_
  refine rr_ishr d_Ta_append_27 ?_
  refine rr_i2b d_Ta_append_28 ?_
  refine rr_bast d_Ta_append_29 rfl (vp_in_nI (n := (n + 3)) (by omega) (by decide)) ?_
  refine rr_aload_n d_Ta_append_30 rfl rfl ?_
  refine rr_dup d_Ta_append_31 rfl ?_
  refine rr_getf d_Ta_append_32 fl_Ta_15 rfl rfl ?_
  refine rr_iconst 1 d_Ta_append_35 rfl ?_
  refine rr_iadd d_Ta_append_36 ?_
  refine rr_putf d_Ta_append_37 fl_Ta_15 rfl rfl rfl rfl ?_
  refine rr_iinc (-8) d_Ta_append_40 rfl rfl (by decide) ?_
  refine rr_goto 3 d_Ta_append_43 (by decide) ?_
  rw [nI_1, nI_clamp (by omega)]
  refine rr_iload_n d_Ta_append_3 rfl rfl ?_
  refine rr_if_lt 46 d_Ta_append_4 (by decide) (fun _ => ?_) (fun c9 => absurd (by decide) c9)
  exact rr_return d_Ta_append_46 rfl (Nat.le_of_ble_eq_true rfl) (Nat.le_of_ble_eq_true rfl) (⟨rfl, rfl⟩)

set_option maxRecDepth 100000 in
set_option maxHeartbeats 4000000 in
theorem s_Ru_feed {g : rr_H} {n : Nat} {f : Nat → Int32} {a b c d e : Int32} (hn : n ≤ 400) : rr_Spec 2 y_Ru_feed c_Ru_feed 6 (some .int) 0 0 [.ref 0, .int a, .int b, .int c, .int d, .int e] (.inr (5, [.ref 1, .ref 3, .ref 12, .ref 20]) :: .inr (3, [.ref 2, .int (nI n)]) :: .inl (1, 400, .inl (f)) :: g) (fun r h1 => if n + 20 ≤ 400 then r = some (.int (nI (n + 20))) ∧ h1 = .inr (5, [.ref 1, .ref 3, .ref 12, .ref 20]) :: .inr (3, [.ref 2, .int (nI (n + 20))]) :: .inl (1, 400, .inl (ta_20 f n a b c d e)) :: g else r = some (.int (-3)) ∧ h1 = .inr (5, [.ref 1, .ref 3, .ref 12, .ref 20]) :: .inr (3, [.ref 2, .int (nI n)]) :: .inl (1, 400, .inl (f)) :: g) := by
  refine rr_met (own := R_Ru) (kd := (false, none)) (by decide +kernel) rfl (fun h => by cases h) rfl (Nat.le_of_ble_eq_true rfl) ?_
  refine rr_aload_n d_Ru_feed_0 rfl rfl ?_
  refine rr_getf d_Ru_feed_1 fl_Ru_12 rfl rfl ?_
  refine rr_getf d_Ru_feed_4 fl_Ru_37 rfl rfl ?_
  refine rr_bipush 20 d_Ru_feed_7 rfl ?_
  refine rr_iadd d_Ru_feed_9 ?_
  refine rr_sipush 400 d_Ru_feed_10 rfl ?_
  rw [show (nI n + 20 : Int32) = nI (n + 20) from nI_add n 20]
  refine rr_icmp_le 19 d_Ru_feed_13 (by decide) (fun hc => ?_) (fun hc => ?_)
  · have h20 : n + 20 ≤ 400 := (nI_leI (by omega) (by decide)).mp hc
    simp only [if_pos h20]
    refine rr_aload_n d_Ru_feed_19 rfl rfl ?_
    refine rr_getf d_Ru_feed_20 fl_Ru_12 rfl rfl ?_
    refine rr_iload_n d_Ru_feed_23 rfl rfl ?_
    refine rr_callV d_Ru_feed_24 il_Ru_41 m_Ta_append (s_Ta_append (n := n) (by omega)) rfl rfl rfl rfl (Nat.le_of_ble_eq_true rfl) (Nat.le_of_ble_eq_true rfl) (Nat.le_of_ble_eq_true rfl) (Nat.le_of_ble_eq_true rfl) (Nat.le_of_ble_eq_true rfl) (fun r h1 hq => ?_)
    obtain ⟨rfl, rfl⟩ := hq
    refine rr_aload_n d_Ru_feed_27 rfl rfl ?_
    refine rr_getf d_Ru_feed_28 fl_Ru_12 rfl rfl ?_
    refine rr_iload_n d_Ru_feed_31 rfl rfl ?_
    refine rr_callV d_Ru_feed_32 il_Ru_41 m_Ta_append (s_Ta_append (n := (n + 4)) (by omega)) rfl rfl rfl rfl (Nat.le_of_ble_eq_true rfl) (Nat.le_of_ble_eq_true rfl) (Nat.le_of_ble_eq_true rfl) (Nat.le_of_ble_eq_true rfl) (Nat.le_of_ble_eq_true rfl) (fun r h1 hq => ?_)
    obtain ⟨rfl, rfl⟩ := hq
    refine rr_aload_n d_Ru_feed_35 rfl rfl ?_
    refine rr_getf d_Ru_feed_36 fl_Ru_12 rfl rfl ?_
    refine rr_iload_n d_Ru_feed_39 rfl rfl ?_
    refine rr_callV d_Ru_feed_40 il_Ru_41 m_Ta_append (s_Ta_append (n := (n + 8)) (by omega)) rfl rfl rfl rfl (Nat.le_of_ble_eq_true rfl) (Nat.le_of_ble_eq_true rfl) (Nat.le_of_ble_eq_true rfl) (Nat.le_of_ble_eq_true rfl) (Nat.le_of_ble_eq_true rfl) (fun r h1 hq => ?_)
    obtain ⟨rfl, rfl⟩ := hq
    refine rr_aload_n d_Ru_feed_43 rfl rfl ?_
    refine rr_getf d_Ru_feed_44 fl_Ru_12 rfl rfl ?_
    refine rr_iload d_Ru_feed_47 rfl ?_
    refine rr_callV d_Ru_feed_49 il_Ru_41 m_Ta_append (s_Ta_append (n := (n + 12)) (by omega)) rfl rfl rfl rfl (Nat.le_of_ble_eq_true rfl) (Nat.le_of_ble_eq_true rfl) (Nat.le_of_ble_eq_true rfl) (Nat.le_of_ble_eq_true rfl) (Nat.le_of_ble_eq_true rfl) (fun r h1 hq => ?_)
    obtain ⟨rfl, rfl⟩ := hq
    refine rr_aload_n d_Ru_feed_52 rfl rfl ?_
    refine rr_getf d_Ru_feed_53 fl_Ru_12 rfl rfl ?_
    refine rr_iload d_Ru_feed_56 rfl ?_
    refine rr_callV d_Ru_feed_58 il_Ru_41 m_Ta_append (s_Ta_append (n := (n + 16)) (by omega)) rfl rfl rfl rfl (Nat.le_of_ble_eq_true rfl) (Nat.le_of_ble_eq_true rfl) (Nat.le_of_ble_eq_true rfl) (Nat.le_of_ble_eq_true rfl) (Nat.le_of_ble_eq_true rfl) (fun r h1 hq => ?_)
    obtain ⟨rfl, rfl⟩ := hq
    refine rr_aload_n d_Ru_feed_61 rfl rfl ?_
    refine rr_getf d_Ru_feed_62 fl_Ru_12 rfl rfl ?_
    refine rr_getf d_Ru_feed_65 fl_Ru_37 rfl rfl ?_
    exact rr_ireturn d_Ru_feed_68 rfl rfl (Nat.le_of_ble_eq_true rfl) (Nat.le_of_ble_eq_true rfl) (⟨rfl, rfl⟩)
  · have h20 : ¬ n + 20 ≤ 400 := fun q => hc ((nI_leI (by omega) (by decide)).mpr q)
    simp only [if_neg h20]
    refine rr_bipush (-3) d_Ru_feed_16 rfl ?_
    exact rr_ireturn d_Ru_feed_18 rfl rfl (Nat.le_of_ble_eq_true rfl) (Nat.le_of_ble_eq_true rfl) (⟨rfl, rfl⟩)

set_option maxRecDepth 100000 in
set_option maxHeartbeats 4000000 in
theorem s_Ru_end {g : rr_H} {n : Nat} {f : Nat → Int32} {x : Int32} (hn : n ≤ 400) : rr_Spec 1 y_Ru_end c_Ru_end 2 (some .int) 0 0 [.ref 0, .int x] (.inr (5, [.ref 1, .ref 3, .ref 12, .ref 20]) :: .inr (3, [.ref 2, .int (nI n)]) :: .inl (1, 400, .inl (f)) :: g) (fun r h1 => (∃ k : Nat, k ≤ n ∧ x = nI k ∧ r = some (.int x) ∧ h1 = .inr (5, [.ref 1, .ref 3, .ref 12, .ref 20]) :: .inr (3, [.ref 2, .int (nI k)]) :: .inl (1, 400, .inl (f)) :: g) ∨ ((x < 0 ∨ ¬ x ≤ nI n) ∧ r = some (.int (-1)) ∧ h1 = .inr (5, [.ref 1, .ref 3, .ref 12, .ref 20]) :: .inr (3, [.ref 2, .int (nI n)]) :: .inl (1, 400, .inl (f)) :: g)) := by
  refine rr_met (own := R_Ru) (kd := (false, none)) (by decide +kernel) rfl (fun h => by cases h) rfl (Nat.le_of_ble_eq_true rfl) ?_
  refine rr_iload_n d_Ru_end_0 rfl rfl ?_
  refine rr_if_lt 15 d_Ru_end_1 (by decide) (fun hc => ?_) (fun hc => ?_)
  · skip
    refine rr_iconst (-1) d_Ru_end_15 rfl ?_
    exact rr_ireturn d_Ru_end_16 rfl rfl (Nat.le_of_ble_eq_true rfl) (Nat.le_of_ble_eq_true rfl) (Or.inr ⟨Or.inl hc, rfl, rfl⟩)
  · skip
    refine rr_iload_n d_Ru_end_4 rfl rfl ?_
    refine rr_aload_n d_Ru_end_5 rfl rfl ?_
    refine rr_getf d_Ru_end_6 fl_Ru_12 rfl rfl ?_
    refine rr_getf d_Ru_end_9 fl_Ru_37 rfl rfl ?_
    refine rr_icmp_le 17 d_Ru_end_12 (by decide) (fun hd => ?_) (fun hd => ?_)
    · obtain ⟨k, hk, rfl⟩ := nI_of2 (nI_toInt (n := n) (by omega)) hc hd
      refine rr_aload_n d_Ru_end_17 rfl rfl ?_
      refine rr_getf d_Ru_end_18 fl_Ru_12 rfl rfl ?_
      refine rr_iload_n d_Ru_end_21 rfl rfl ?_
      refine rr_putf d_Ru_end_22 fl_Ru_37 rfl rfl rfl rfl ?_
      refine rr_iload_n d_Ru_end_25 rfl rfl ?_
      exact rr_ireturn d_Ru_end_26 rfl rfl (Nat.le_of_ble_eq_true rfl) (Nat.le_of_ble_eq_true rfl) (Or.inl ⟨k, hk, rfl, rfl, rfl⟩)
    · skip
      refine rr_iconst (-1) d_Ru_end_15 rfl ?_
      exact rr_ireturn d_Ru_end_16 rfl rfl (Nat.le_of_ble_eq_true rfl) (Nat.le_of_ble_eq_true rfl) (Or.inr ⟨Or.inr hd, rfl, rfl⟩)

set_option maxRecDepth 100000 in
set_option maxHeartbeats 4000000 in
theorem s_Ru_isCell {h : rr_H} {x : Int32} : rr_Spec 0 y_Ru_isCell c_Ru_isCell 1 (some .boolean) 0 0 [.int x] (h) (fun r h1 => r = some (.int (sp_b (decide (0 ≤ x ∧ x < 32)))) ∧ h1 = h) := by
  refine rr_met (own := R_Ru) (kd := (false, none)) (by decide +kernel) rfl (fun h => by cases h) rfl (Nat.le_of_ble_eq_true rfl) ?_
  refine rr_iload_n d_Ru_isCell_0 rfl rfl ?_
  refine rr_if_lt 14 d_Ru_isCell_1 (by decide) (fun hc => ?_) (fun hc => ?_)
  · have e : decide (0 ≤ x ∧ x < 32) = false := decide_eq_false (fun q => Int32.not_le.mpr hc q.1)
    rw [e]
    refine rr_iconst 0 d_Ru_isCell_14 rfl ?_
    exact rr_ireturn d_Ru_isCell_15 rfl rfl (Nat.le_of_ble_eq_true rfl) (Nat.le_of_ble_eq_true rfl) (⟨rfl, rfl⟩)
  · skip
    refine rr_iload_n d_Ru_isCell_4 rfl rfl ?_
    refine rr_bipush 32 d_Ru_isCell_5 rfl ?_
    refine rr_icmp_ge 14 d_Ru_isCell_7 (by decide) (fun hd => ?_) (fun hd => ?_)
    · have e : decide (0 ≤ x ∧ x < 32) = false := decide_eq_false (fun q => Int32.not_lt.mpr hd q.2)
      rw [e]
      refine rr_iconst 0 d_Ru_isCell_14 rfl ?_
      exact rr_ireturn d_Ru_isCell_15 rfl rfl (Nat.le_of_ble_eq_true rfl) (Nat.le_of_ble_eq_true rfl) (⟨rfl, rfl⟩)
    · have e : decide (0 ≤ x ∧ x < 32) = true := decide_eq_true ⟨Int32.not_lt.mp hc, Int32.not_le.mp hd⟩
      rw [e]
      refine rr_iconst 1 d_Ru_isCell_10 rfl ?_
      refine rr_goto 15 d_Ru_isCell_11 (by decide) ?_
      exact rr_ireturn d_Ru_isCell_15 rfl rfl (Nat.le_of_ble_eq_true rfl) (Nat.le_of_ble_eq_true rfl) (⟨rfl, rfl⟩)

theorem ce_in {x : Int32} (h : 0 ≤ x ∧ x < 32) : ∃ k : Nat, k < 32 ∧ x = nI k := by
  obtain ⟨k, hk, rfl⟩ := nI_of (Int32.not_lt.mpr h.1)
  exact ⟨k, (nI_ltI (b := 32) hk (by decide)).mp h.2, rfl⟩

set_option maxRecDepth 100000 in
set_option maxHeartbeats 4000000 in
theorem s_Ru_cell {x1 x2 x3 x4 x5 x6 x7 x8 x9 x10 x11 : va_E} {g : rr_H} {fc : Nat → Int32} {hg ef cg ru x : Int32} : rr_Spec 1 y_Ru_cell c_Ru_cell 2 (some .long) 0 0 [.ref 0, .int x] (.inr (5, [.ref 1, .ref 3, .ref 12, .ref 20]) :: x1 :: x2 :: x3 :: x4 :: x5 :: x6 :: x7 :: x8 :: x9 :: x10 :: x11 :: .inr (1, [.ref 13, .ref 14, .int hg, .ref 15, .ref 16, .int ef, .ref 17, .ref 18, .int cg, .ref 19, .int ru]) :: .inl (0, 32, .inl (fc)) :: g) (fun r h1 => r = some (.long (if 0 ≤ x ∧ x < 32 then (fc x.toNatClampNeg).toInt64 else 1099511627776)) ∧ h1 = .inr (5, [.ref 1, .ref 3, .ref 12, .ref 20]) :: x1 :: x2 :: x3 :: x4 :: x5 :: x6 :: x7 :: x8 :: x9 :: x10 :: x11 :: .inr (1, [.ref 13, .ref 14, .int hg, .ref 15, .ref 16, .int ef, .ref 17, .ref 18, .int cg, .ref 19, .int ru]) :: .inl (0, 32, .inl (fc)) :: g) := by
  refine rr_met (own := R_Ru) (kd := (false, none)) (by decide +kernel) rfl (fun h => by cases h) rfl (Nat.le_of_ble_eq_true rfl) ?_
  refine rr_iload_n d_Ru_cell_0 rfl rfl ?_
  refine rr_callS d_Ru_cell_1 il_Ru_64 m_Ru_isCell (s_Ru_isCell) rfl rfl (Nat.le_of_ble_eq_true rfl) (Nat.le_of_ble_eq_true rfl) (Nat.le_of_ble_eq_true rfl) (Nat.le_of_ble_eq_true rfl) (Nat.le_of_ble_eq_true rfl) (fun r h1 hq => ?_)
  obtain ⟨rfl, rfl⟩ := hq
  by_cases hx : 0 ≤ x ∧ x < 32
  · rw [if_pos hx, show decide (0 ≤ x ∧ x < 32) = true from decide_eq_true hx]
    obtain ⟨k, hk, rfl⟩ := ce_in hx
    refine rr_if_eq 20 d_Ru_cell_4 (by decide) (fun c9 => absurd c9 (by decide)) (fun _ => ?_)
    refine rr_aload_n d_Ru_cell_7 rfl rfl ?_
    refine rr_getf d_Ru_cell_8 fl_Ru_26 rfl rfl ?_
    refine rr_getf d_Ru_cell_11 fl_Ru_68 rfl rfl ?_
    refine rr_iload_n d_Ru_cell_14 rfl rfl ?_
    refine rr_iald d_Ru_cell_15 rfl (vp_in_nI hk (by decide)) ?_
    refine rr_i2l d_Ru_cell_16 ?_
    refine rr_goto 23 d_Ru_cell_17 (by decide) ?_
    exact rr_lreturn d_Ru_cell_23 rfl (Nat.le_of_ble_eq_true rfl) (Nat.le_of_ble_eq_true rfl) (⟨rfl, rfl⟩)
  · rw [if_neg hx, show decide (0 ≤ x ∧ x < 32) = false from decide_eq_false hx]
    refine rr_if_eq 20 d_Ru_cell_4 (by decide) (fun _ => ?_) (fun c9 => absurd (rfl) c9)
    refine rr_ldc2 d_Ru_cell_20 kl_Ru_72 ?_
    exact rr_lreturn d_Ru_cell_23 rfl (Nat.le_of_ble_eq_true rfl) (Nat.le_of_ble_eq_true rfl) (⟨rfl, rfl⟩)

set_option maxRecDepth 100000 in
set_option maxHeartbeats 4000000 in
theorem s_Ru_set {x1 x2 x3 x4 x5 x6 x7 x8 x9 x10 x11 : va_E} {g : rr_H} {fc : Nat → Int32} {ru : Nat} {hg ef cg x v : Int32} (hru : ru ≤ 200) : rr_Spec 1 y_Ru_set c_Ru_set 3 (some .int) 0 0 [.ref 0, .int x, .int v] (.inr (5, [.ref 1, .ref 3, .ref 12, .ref 20]) :: x1 :: x2 :: x3 :: x4 :: x5 :: x6 :: x7 :: x8 :: x9 :: x10 :: x11 :: .inr (1, [.ref 13, .ref 14, .int hg, .ref 15, .ref 16, .int ef, .ref 17, .ref 18, .int cg, .ref 19, .int (nI ru)]) :: .inl (0, 32, .inl (fc)) :: g) (fun r h1 => if 0 ≤ x ∧ x < 32 then (if 0 < ru then r = some (.int (-3)) ∧ h1 = .inr (5, [.ref 1, .ref 3, .ref 12, .ref 20]) :: x1 :: x2 :: x3 :: x4 :: x5 :: x6 :: x7 :: x8 :: x9 :: x10 :: x11 :: .inr (1, [.ref 13, .ref 14, .int hg, .ref 15, .ref 16, .int ef, .ref 17, .ref 18, .int cg, .ref 19, .int (nI ru)]) :: .inl (0, 32, .inl (fc)) :: g else r = some (.int 0) ∧ h1 = .inr (5, [.ref 1, .ref 3, .ref 12, .ref 20]) :: x1 :: x2 :: x3 :: x4 :: x5 :: x6 :: x7 :: x8 :: x9 :: x10 :: x11 :: .inr (1, [.ref 13, .ref 14, .int hg, .ref 15, .ref 16, .int ef, .ref 17, .ref 18, .int cg, .ref 19, .int (nI ru)]) :: .inl (0, 32, .inl (upd fc x.toNatClampNeg v)) :: g) else r = some (.int (-1)) ∧ h1 = .inr (5, [.ref 1, .ref 3, .ref 12, .ref 20]) :: x1 :: x2 :: x3 :: x4 :: x5 :: x6 :: x7 :: x8 :: x9 :: x10 :: x11 :: .inr (1, [.ref 13, .ref 14, .int hg, .ref 15, .ref 16, .int ef, .ref 17, .ref 18, .int cg, .ref 19, .int (nI ru)]) :: .inl (0, 32, .inl (fc)) :: g) := by
  refine rr_met (own := R_Ru) (kd := (false, none)) (by decide +kernel) rfl (fun h => by cases h) rfl (Nat.le_of_ble_eq_true rfl) ?_
  refine rr_iload_n d_Ru_set_0 rfl rfl ?_
  refine rr_callS d_Ru_set_1 il_Ru_64 m_Ru_isCell (s_Ru_isCell) rfl rfl (Nat.le_of_ble_eq_true rfl) (Nat.le_of_ble_eq_true rfl) (Nat.le_of_ble_eq_true rfl) (Nat.le_of_ble_eq_true rfl) (Nat.le_of_ble_eq_true rfl) (fun r h1 hq => ?_)
  obtain ⟨rfl, rfl⟩ := hq
  by_cases hx : 0 ≤ x ∧ x < 32
  · simp only [if_pos hx]
    rw [show decide (0 ≤ x ∧ x < 32) = true from decide_eq_true hx]
    obtain ⟨k, hk, rfl⟩ := ce_in hx
    refine rr_if_ne 9 d_Ru_set_4 (by decide) (fun _ => ?_) (fun c9 => absurd c9 (by decide))
    refine rr_aload_n d_Ru_set_9 rfl rfl ?_
    refine rr_getf d_Ru_set_10 fl_Ru_26 rfl rfl ?_
    refine rr_getf d_Ru_set_13 fl_Ru_74 rfl rfl ?_
    refine rr_if_le 22 d_Ru_set_16 (by decide) (fun hc => ?_) (fun hc => ?_)
    · have h0 : ¬ 0 < ru := fun q => nI_nle q (by omega) hc
      simp only [if_neg h0]
      refine rr_aload_n d_Ru_set_22 rfl rfl ?_
      refine rr_getf d_Ru_set_23 fl_Ru_26 rfl rfl ?_
      refine rr_getf d_Ru_set_26 fl_Ru_68 rfl rfl ?_
      refine rr_iload_n d_Ru_set_29 rfl rfl ?_
      refine rr_iload_n d_Ru_set_30 rfl rfl ?_
      refine rr_iast d_Ru_set_31 rfl (vp_in_nI hk (by decide)) ?_
      refine rr_iconst 0 d_Ru_set_32 rfl ?_
      exact rr_ireturn d_Ru_set_33 rfl rfl (Nat.le_of_ble_eq_true rfl) (Nat.le_of_ble_eq_true rfl) (⟨rfl, rfl⟩)
    · have h0 : 0 < ru := by
        rcases Nat.eq_zero_or_pos ru with rfl | q
        · exact absurd (by decide) hc
        · exact q
      simp only [if_pos h0]
      refine rr_bipush (-3) d_Ru_set_19 rfl ?_
      exact rr_ireturn d_Ru_set_21 rfl rfl (Nat.le_of_ble_eq_true rfl) (Nat.le_of_ble_eq_true rfl) (⟨rfl, rfl⟩)
  · simp only [if_neg hx]
    rw [show decide (0 ≤ x ∧ x < 32) = false from decide_eq_false hx]
    refine rr_if_ne 9 d_Ru_set_4 (by decide) (fun c9 => absurd (rfl) c9) (fun _ => ?_)
    refine rr_iconst (-1) d_Ru_set_7 rfl ?_
    exact rr_ireturn d_Ru_set_8 rfl rfl (Nat.le_of_ble_eq_true rfl) (Nat.le_of_ble_eq_true rfl) (⟨rfl, rfl⟩)

set_option maxRecDepth 100000 in
set_option maxHeartbeats 4000000 in
theorem s_Ru_count {x3 x4 x5 x6 x7 x8 x9 x10 x11 : va_E} {g : rr_H} {n : Nat} {f : Nat → Int32} {hg ef cg ru x : Int32} : rr_Spec 0 y_Ru_count c_Ru_count 2 (some .int) 0 0 [.ref 0, .int x] (.inr (5, [.ref 1, .ref 3, .ref 12, .ref 20]) :: .inr (3, [.ref 2, .int (nI n)]) :: .inl (1, 400, .inl (f)) :: x3 :: x4 :: x5 :: x6 :: x7 :: x8 :: x9 :: x10 :: x11 :: .inr (1, [.ref 13, .ref 14, .int hg, .ref 15, .ref 16, .int ef, .ref 17, .ref 18, .int cg, .ref 19, .int ru]) :: g) (fun r h1 => r = some (.int (if x = 0 then ru else if x = 1 then nI n else -1)) ∧ h1 = .inr (5, [.ref 1, .ref 3, .ref 12, .ref 20]) :: .inr (3, [.ref 2, .int (nI n)]) :: .inl (1, 400, .inl (f)) :: x3 :: x4 :: x5 :: x6 :: x7 :: x8 :: x9 :: x10 :: x11 :: .inr (1, [.ref 13, .ref 14, .int hg, .ref 15, .ref 16, .int ef, .ref 17, .ref 18, .int cg, .ref 19, .int ru]) :: g) := by
  refine rr_met (own := R_Ru) (kd := (false, none)) (by decide +kernel) rfl (fun h => by cases h) rfl (Nat.le_of_ble_eq_true rfl) ?_
  refine rr_iload_n d_Ru_count_0 rfl rfl ?_
  by_cases h0 : x = 0
  · subst h0
    refine rr_lsw 28 27 d_Ru_count_1 (by decide) (by decide) (by decide) ?_
    refine rr_aload_n d_Ru_count_28 rfl rfl ?_
    refine rr_getf d_Ru_count_29 fl_Ru_26 rfl rfl ?_
    refine rr_getf d_Ru_count_32 fl_Ru_74 rfl rfl ?_
    exact rr_ireturn d_Ru_count_35 rfl rfl (Nat.le_of_ble_eq_true rfl) (Nat.le_of_ble_eq_true rfl) (⟨rfl, rfl⟩)
  · by_cases h1 : x = 1
    · subst h1
      refine rr_lsw 36 35 d_Ru_count_1 (by decide) (by decide) (by decide) ?_
      refine rr_aload_n d_Ru_count_36 rfl rfl ?_
      refine rr_getf d_Ru_count_37 fl_Ru_12 rfl rfl ?_
      refine rr_getf d_Ru_count_40 fl_Ru_37 rfl rfl ?_
      exact rr_ireturn d_Ru_count_43 rfl rfl (Nat.le_of_ble_eq_true rfl) (Nat.le_of_ble_eq_true rfl) (⟨rfl, rfl⟩)
    · rw [if_neg h0, if_neg h1]
      refine rr_lsw 44 43 d_Ru_count_1 (by decide) (by rw [lv_osw h0 (by decide), lv_osw h1 (by decide)]; rfl) (by decide) ?_
      refine rr_iconst (-1) d_Ru_count_44 rfl ?_
      exact rr_ireturn d_Ru_count_45 rfl rfl (Nat.le_of_ble_eq_true rfl) (Nat.le_of_ble_eq_true rfl) (⟨rfl, rfl⟩)
