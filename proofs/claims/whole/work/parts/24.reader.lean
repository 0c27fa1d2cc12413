/-! The reader: parts, terms, sums. -/

set_option maxRecDepth 100000 in
set_option maxHeartbeats 4000000 in
theorem s_Co_add {x0 x1 x2 x3 x4 x5 x6 x7 : va_E} {g : rr_H} {rl : Int32} {ck cv : Nat → Int32} {s : Nat} {k v : Int32} (hs : s < 160) : rr_Spec 0 y_Co_add c_Co_add 3 none 0 0 [.ref 8, .int k, .int v] (x0 :: x1 :: x2 :: x3 :: x4 :: x5 :: x6 :: x7 :: .inr (0, [.ref 9, .ref 10, .ref 11, .int (nI s), .int rl]) :: .inl (0, 160, .inl (ck)) :: .inl (0, 160, .inl (cv)) :: g) (fun r h1 => r = none ∧ h1 = x0 :: x1 :: x2 :: x3 :: x4 :: x5 :: x6 :: x7 :: .inr (0, [.ref 9, .ref 10, .ref 11, .int (nI (s + 1)), .int rl]) :: .inl (0, 160, .inl (upd ck s k)) :: .inl (0, 160, .inl (upd cv s v)) :: g) := by
  refine rr_met (own := R_Co) (kd := (false, none)) (by decide +kernel) rfl (fun h => by cases h) rfl (Nat.le_of_ble_eq_true rfl) ?_
  refine rr_aload_n d_Co_add_0 rfl rfl ?_
  refine rr_getf d_Co_add_1 fl_Co_21 rfl rfl ?_
  refine rr_sipush 160 d_Co_add_4 rfl ?_
  refine rr_icmp_ge 40 d_Co_add_7 (by decide) (fun c9 => absurd c9 (nI_ge (a := s) (b := 160) hs (by decide))) (fun _ => ?_)
  refine rr_aload_n d_Co_add_10 rfl rfl ?_
  refine rr_getf d_Co_add_11 fl_Co_9 rfl rfl ?_
  refine rr_aload_n d_Co_add_14 rfl rfl ?_
  refine rr_getf d_Co_add_15 fl_Co_21 rfl rfl ?_
  refine rr_iload_n d_Co_add_18 rfl rfl ?_
  refine rr_iast d_Co_add_19 rfl (vp_in_nI hs (by decide)) ?_
  refine rr_aload_n d_Co_add_20 rfl rfl ?_
  refine rr_getf d_Co_add_21 fl_Co_15 rfl rfl ?_
  refine rr_aload_n d_Co_add_24 rfl rfl ?_
  refine rr_getf d_Co_add_25 fl_Co_21 rfl rfl ?_
  refine rr_iload_n d_Co_add_28 rfl rfl ?_
  refine rr_iast d_Co_add_29 rfl (vp_in_nI hs (by decide)) ?_
  refine rr_aload_n d_Co_add_30 rfl rfl ?_
  refine rr_dup d_Co_add_31 rfl ?_
  refine rr_getf d_Co_add_32 fl_Co_21 rfl rfl ?_
  refine rr_iconst 1 d_Co_add_35 rfl ?_
  refine rr_iadd d_Co_add_36 ?_
  refine rr_putf d_Co_add_37 fl_Co_21 rfl rfl rfl rfl ?_
  rw [nI_1, nI_clamp (by omega)]
  exact rr_return d_Co_add_40 rfl (Nat.le_of_ble_eq_true rfl) (Nat.le_of_ble_eq_true rfl) (⟨rfl, rfl⟩)

set_option maxRecDepth 100000 in
set_option maxHeartbeats 4000000 in
theorem s_Re_pass_t {x0 x1 x2 x7 : va_E} {g : rr_H} {sz rl : Int32} {fk fv ck cv : Nat → Int32} {a p s : Nat} {x : Int32} (ha : a ≤ 400) (hx : fk a = x) : rr_Spec 0 y_Re_pass c_Re_pass 2 (some .boolean) 0 0 [.ref 3, .int x] (x0 :: x1 :: x2 :: .inr (2, [.ref 4, .ref 8, .int (nI a), .int (nI p)]) :: .inr (4, [.ref 5, .ref 6, .ref 7, .int sz]) :: .inl (0, 401, .inl fk) :: .inl (0, 401, .inl fv) :: x7 :: .inr (0, [.ref 9, .ref 10, .ref 11, .int (nI s), .int rl]) :: .inl (0, 160, .inl (ck)) :: .inl (0, 160, .inl (cv)) :: g) (fun r h1 => r = some (.int 1) ∧ h1 = x0 :: x1 :: x2 :: .inr (2, [.ref 4, .ref 8, .int (nI (a + 1)), .int (nI p)]) :: .inr (4, [.ref 5, .ref 6, .ref 7, .int sz]) :: .inl (0, 401, .inl fk) :: .inl (0, 401, .inl fv) :: x7 :: .inr (0, [.ref 9, .ref 10, .ref 11, .int (nI s), .int rl]) :: .inl (0, 160, .inl (ck)) :: .inl (0, 160, .inl (cv)) :: g) := by
  refine rr_met (own := R_Re) (kd := (false, none)) (by decide +kernel) rfl (fun h => by cases h) rfl (Nat.le_of_ble_eq_true rfl) ?_
  refine rr_aload_n d_Re_pass_0 rfl rfl ?_
  refine rr_getf d_Re_pass_1 fl_Re_12 rfl rfl ?_
  refine rr_getf d_Re_pass_4 fl_Re_66 rfl rfl ?_
  refine rr_aload_n d_Re_pass_7 rfl rfl ?_
  refine rr_getf d_Re_pass_8 fl_Re_32 rfl rfl ?_
  refine rr_iald d_Re_pass_11 rfl (vp_in_nI (n := a) (by omega) (by decide)) ?_
  refine rr_iload_n d_Re_pass_12 rfl rfl ?_
  rw [nI_clamp (by omega)]
  refine rr_icmp_eq 18 d_Re_pass_13 (by decide) (fun _ => ?_) (fun c9 => absurd (hx) c9)
  refine rr_aload_n d_Re_pass_18 rfl rfl ?_
  refine rr_dup d_Re_pass_19 rfl ?_
  refine rr_getf d_Re_pass_20 fl_Re_32 rfl rfl ?_
  refine rr_iconst 1 d_Re_pass_23 rfl ?_
  refine rr_iadd d_Re_pass_24 ?_
  refine rr_putf d_Re_pass_25 fl_Re_32 rfl rfl rfl rfl ?_
  refine rr_iconst 1 d_Re_pass_28 rfl ?_
  rw [nI_1]
  exact rr_ireturn d_Re_pass_29 rfl rfl (Nat.le_of_ble_eq_true rfl) (Nat.le_of_ble_eq_true rfl) (⟨rfl, rfl⟩)

set_option maxRecDepth 100000 in
set_option maxHeartbeats 4000000 in
theorem s_Re_pass_f {x0 x1 x2 x7 : va_E} {g : rr_H} {sz rl : Int32} {fk fv ck cv : Nat → Int32} {a p s : Nat} {x : Int32} (ha : a ≤ 400) (hx : ¬ fk a = x) : rr_Spec 0 y_Re_pass c_Re_pass 2 (some .boolean) 0 0 [.ref 3, .int x] (x0 :: x1 :: x2 :: .inr (2, [.ref 4, .ref 8, .int (nI a), .int (nI p)]) :: .inr (4, [.ref 5, .ref 6, .ref 7, .int sz]) :: .inl (0, 401, .inl fk) :: .inl (0, 401, .inl fv) :: x7 :: .inr (0, [.ref 9, .ref 10, .ref 11, .int (nI s), .int rl]) :: .inl (0, 160, .inl (ck)) :: .inl (0, 160, .inl (cv)) :: g) (fun r h1 => r = some (.int 0) ∧ h1 = x0 :: x1 :: x2 :: .inr (2, [.ref 4, .ref 8, .int (nI a), .int (nI p)]) :: .inr (4, [.ref 5, .ref 6, .ref 7, .int sz]) :: .inl (0, 401, .inl fk) :: .inl (0, 401, .inl fv) :: x7 :: .inr (0, [.ref 9, .ref 10, .ref 11, .int (nI s), .int rl]) :: .inl (0, 160, .inl (ck)) :: .inl (0, 160, .inl (cv)) :: g) := by
  refine rr_met (own := R_Re) (kd := (false, none)) (by decide +kernel) rfl (fun h => by cases h) rfl (Nat.le_of_ble_eq_true rfl) ?_
  refine rr_aload_n d_Re_pass_0 rfl rfl ?_
  refine rr_getf d_Re_pass_1 fl_Re_12 rfl rfl ?_
  refine rr_getf d_Re_pass_4 fl_Re_66 rfl rfl ?_
  refine rr_aload_n d_Re_pass_7 rfl rfl ?_
  refine rr_getf d_Re_pass_8 fl_Re_32 rfl rfl ?_
  refine rr_iald d_Re_pass_11 rfl (vp_in_nI (n := a) (by omega) (by decide)) ?_
  refine rr_iload_n d_Re_pass_12 rfl rfl ?_
  rw [nI_clamp (by omega)]
  refine rr_icmp_eq 18 d_Re_pass_13 (by decide) (fun c9 => absurd c9 (hx)) (fun _ => ?_)
  refine rr_iconst 0 d_Re_pass_16 rfl ?_
  exact rr_ireturn d_Re_pass_17 rfl rfl (Nat.le_of_ble_eq_true rfl) (Nat.le_of_ble_eq_true rfl) (⟨rfl, rfl⟩)

set_option maxRecDepth 100000 in
set_option maxHeartbeats 4000000 in
theorem s_Re_looksAt_t {x0 x1 x2 x7 : va_E} {g : rr_H} {sz rl : Int32} {fk fv ck cv : Nat → Int32} {a p s : Nat} {x : Int32} (ha : a ≤ 400) (hx : fk a = x) : rr_Spec 0 y_Re_looksAt c_Re_looksAt 2 (some .boolean) 0 0 [.ref 3, .int x] (x0 :: x1 :: x2 :: .inr (2, [.ref 4, .ref 8, .int (nI a), .int (nI p)]) :: .inr (4, [.ref 5, .ref 6, .ref 7, .int sz]) :: .inl (0, 401, .inl fk) :: .inl (0, 401, .inl fv) :: x7 :: .inr (0, [.ref 9, .ref 10, .ref 11, .int (nI s), .int rl]) :: .inl (0, 160, .inl (ck)) :: .inl (0, 160, .inl (cv)) :: g) (fun r h1 => r = some (.int 1) ∧ h1 = x0 :: x1 :: x2 :: .inr (2, [.ref 4, .ref 8, .int (nI a), .int (nI p)]) :: .inr (4, [.ref 5, .ref 6, .ref 7, .int sz]) :: .inl (0, 401, .inl fk) :: .inl (0, 401, .inl fv) :: x7 :: .inr (0, [.ref 9, .ref 10, .ref 11, .int (nI s), .int rl]) :: .inl (0, 160, .inl (ck)) :: .inl (0, 160, .inl (cv)) :: g) := by
  refine rr_met (own := R_Re) (kd := (false, none)) (by decide +kernel) rfl (fun h => by cases h) rfl (Nat.le_of_ble_eq_true rfl) ?_
  refine rr_aload_n d_Re_looksAt_0 rfl rfl ?_
  refine rr_getf d_Re_looksAt_1 fl_Re_12 rfl rfl ?_
  refine rr_getf d_Re_looksAt_4 fl_Re_66 rfl rfl ?_
  refine rr_aload_n d_Re_looksAt_7 rfl rfl ?_
  refine rr_getf d_Re_looksAt_8 fl_Re_32 rfl rfl ?_
  refine rr_iald d_Re_looksAt_11 rfl (vp_in_nI (n := a) (by omega) (by decide)) ?_
  refine rr_iload_n d_Re_looksAt_12 rfl rfl ?_
  rw [nI_clamp (by omega)]
  refine rr_icmp_ne 20 d_Re_looksAt_13 (by decide) (fun c9 => absurd (hx) c9) (fun _ => ?_)
  refine rr_iconst 1 d_Re_looksAt_16 rfl ?_
  refine rr_goto 21 d_Re_looksAt_17 (by decide) ?_
  exact rr_ireturn d_Re_looksAt_21 rfl rfl (Nat.le_of_ble_eq_true rfl) (Nat.le_of_ble_eq_true rfl) (⟨rfl, rfl⟩)

set_option maxRecDepth 100000 in
set_option maxHeartbeats 4000000 in
theorem s_Re_looksAt_f {x0 x1 x2 x7 : va_E} {g : rr_H} {sz rl : Int32} {fk fv ck cv : Nat → Int32} {a p s : Nat} {x : Int32} (ha : a ≤ 400) (hx : ¬ fk a = x) : rr_Spec 0 y_Re_looksAt c_Re_looksAt 2 (some .boolean) 0 0 [.ref 3, .int x] (x0 :: x1 :: x2 :: .inr (2, [.ref 4, .ref 8, .int (nI a), .int (nI p)]) :: .inr (4, [.ref 5, .ref 6, .ref 7, .int sz]) :: .inl (0, 401, .inl fk) :: .inl (0, 401, .inl fv) :: x7 :: .inr (0, [.ref 9, .ref 10, .ref 11, .int (nI s), .int rl]) :: .inl (0, 160, .inl (ck)) :: .inl (0, 160, .inl (cv)) :: g) (fun r h1 => r = some (.int 0) ∧ h1 = x0 :: x1 :: x2 :: .inr (2, [.ref 4, .ref 8, .int (nI a), .int (nI p)]) :: .inr (4, [.ref 5, .ref 6, .ref 7, .int sz]) :: .inl (0, 401, .inl fk) :: .inl (0, 401, .inl fv) :: x7 :: .inr (0, [.ref 9, .ref 10, .ref 11, .int (nI s), .int rl]) :: .inl (0, 160, .inl (ck)) :: .inl (0, 160, .inl (cv)) :: g) := by
  refine rr_met (own := R_Re) (kd := (false, none)) (by decide +kernel) rfl (fun h => by cases h) rfl (Nat.le_of_ble_eq_true rfl) ?_
  refine rr_aload_n d_Re_looksAt_0 rfl rfl ?_
  refine rr_getf d_Re_looksAt_1 fl_Re_12 rfl rfl ?_
  refine rr_getf d_Re_looksAt_4 fl_Re_66 rfl rfl ?_
  refine rr_aload_n d_Re_looksAt_7 rfl rfl ?_
  refine rr_getf d_Re_looksAt_8 fl_Re_32 rfl rfl ?_
  refine rr_iald d_Re_looksAt_11 rfl (vp_in_nI (n := a) (by omega) (by decide)) ?_
  refine rr_iload_n d_Re_looksAt_12 rfl rfl ?_
  rw [nI_clamp (by omega)]
  refine rr_icmp_ne 20 d_Re_looksAt_13 (by decide) (fun _ => ?_) (fun c9 => absurd c9 (hx))
  refine rr_iconst 0 d_Re_looksAt_20 rfl ?_
  exact rr_ireturn d_Re_looksAt_21 rfl rfl (Nat.le_of_ble_eq_true rfl) (Nat.le_of_ble_eq_true rfl) (⟨rfl, rfl⟩)

set_option maxRecDepth 100000 in
set_option maxHeartbeats 4000000 in
theorem s_Re_looksAtCellNumber_t {x0 x1 x2 x7 : va_E} {g : rr_H} {sz rl : Int32} {fk fv ck cv : Nat → Int32} {a p s : Nat} (ha : a ≤ 400) (hx : fk a = 9 ∧ fv a < 32) : rr_Spec 0 y_Re_looksAtCellNumber c_Re_looksAtCellNumber 1 (some .boolean) 0 0 [.ref 3] (x0 :: x1 :: x2 :: .inr (2, [.ref 4, .ref 8, .int (nI a), .int (nI p)]) :: .inr (4, [.ref 5, .ref 6, .ref 7, .int sz]) :: .inl (0, 401, .inl fk) :: .inl (0, 401, .inl fv) :: x7 :: .inr (0, [.ref 9, .ref 10, .ref 11, .int (nI s), .int rl]) :: .inl (0, 160, .inl (ck)) :: .inl (0, 160, .inl (cv)) :: g) (fun r h1 => r = some (.int 1) ∧ h1 = x0 :: x1 :: x2 :: .inr (2, [.ref 4, .ref 8, .int (nI a), .int (nI p)]) :: .inr (4, [.ref 5, .ref 6, .ref 7, .int sz]) :: .inl (0, 401, .inl fk) :: .inl (0, 401, .inl fv) :: x7 :: .inr (0, [.ref 9, .ref 10, .ref 11, .int (nI s), .int rl]) :: .inl (0, 160, .inl (ck)) :: .inl (0, 160, .inl (cv)) :: g) := by
  refine rr_met (own := R_Re) (kd := (false, none)) (by decide +kernel) rfl (fun h => by cases h) rfl (Nat.le_of_ble_eq_true rfl) ?_
  refine rr_aload_n d_Re_looksAtCellNumber_0 rfl rfl ?_
  refine rr_getf d_Re_looksAtCellNumber_1 fl_Re_12 rfl rfl ?_
  refine rr_getf d_Re_looksAtCellNumber_4 fl_Re_66 rfl rfl ?_
  refine rr_aload_n d_Re_looksAtCellNumber_7 rfl rfl ?_
  refine rr_getf d_Re_looksAtCellNumber_8 fl_Re_32 rfl rfl ?_
  refine rr_iald d_Re_looksAtCellNumber_11 rfl (vp_in_nI (n := a) (by omega) (by decide)) ?_
  refine rr_bipush 9 d_Re_looksAtCellNumber_12 rfl ?_
  rw [nI_clamp (by omega)]
  refine rr_icmp_ne 38 d_Re_looksAtCellNumber_14 (by decide) (fun c9 => absurd (hx.1) c9) (fun _ => ?_)
  refine rr_aload_n d_Re_looksAtCellNumber_17 rfl rfl ?_
  refine rr_getf d_Re_looksAtCellNumber_18 fl_Re_12 rfl rfl ?_
  refine rr_getf d_Re_looksAtCellNumber_21 fl_Re_76 rfl rfl ?_
  refine rr_aload_n d_Re_looksAtCellNumber_24 rfl rfl ?_
  refine rr_getf d_Re_looksAtCellNumber_25 fl_Re_32 rfl rfl ?_
  refine rr_iald d_Re_looksAtCellNumber_28 rfl (vp_in_nI (n := a) (by omega) (by decide)) ?_
  refine rr_bipush 32 d_Re_looksAtCellNumber_29 rfl ?_
  rw [nI_clamp (by omega)]
  refine rr_icmp_ge 38 d_Re_looksAtCellNumber_31 (by decide) (fun c9 => absurd c9 (Int32.not_le.mpr hx.2)) (fun _ => ?_)
  refine rr_iconst 1 d_Re_looksAtCellNumber_34 rfl ?_
  refine rr_goto 39 d_Re_looksAtCellNumber_35 (by decide) ?_
  exact rr_ireturn d_Re_looksAtCellNumber_39 rfl rfl (Nat.le_of_ble_eq_true rfl) (Nat.le_of_ble_eq_true rfl) (⟨rfl, rfl⟩)

set_option maxRecDepth 100000 in
set_option maxHeartbeats 4000000 in
theorem s_Re_looksAtCellNumber_f {x0 x1 x2 x7 : va_E} {g : rr_H} {sz rl : Int32} {fk fv ck cv : Nat → Int32} {a p s : Nat} (ha : a ≤ 400) (hx : ¬ (fk a = 9 ∧ fv a < 32)) : rr_Spec 0 y_Re_looksAtCellNumber c_Re_looksAtCellNumber 1 (some .boolean) 0 0 [.ref 3] (x0 :: x1 :: x2 :: .inr (2, [.ref 4, .ref 8, .int (nI a), .int (nI p)]) :: .inr (4, [.ref 5, .ref 6, .ref 7, .int sz]) :: .inl (0, 401, .inl fk) :: .inl (0, 401, .inl fv) :: x7 :: .inr (0, [.ref 9, .ref 10, .ref 11, .int (nI s), .int rl]) :: .inl (0, 160, .inl (ck)) :: .inl (0, 160, .inl (cv)) :: g) (fun r h1 => r = some (.int 0) ∧ h1 = x0 :: x1 :: x2 :: .inr (2, [.ref 4, .ref 8, .int (nI a), .int (nI p)]) :: .inr (4, [.ref 5, .ref 6, .ref 7, .int sz]) :: .inl (0, 401, .inl fk) :: .inl (0, 401, .inl fv) :: x7 :: .inr (0, [.ref 9, .ref 10, .ref 11, .int (nI s), .int rl]) :: .inl (0, 160, .inl (ck)) :: .inl (0, 160, .inl (cv)) :: g) := by
  refine rr_met (own := R_Re) (kd := (false, none)) (by decide +kernel) rfl (fun h => by cases h) rfl (Nat.le_of_ble_eq_true rfl) ?_
  refine rr_aload_n d_Re_looksAtCellNumber_0 rfl rfl ?_
  refine rr_getf d_Re_looksAtCellNumber_1 fl_Re_12 rfl rfl ?_
  refine rr_getf d_Re_looksAtCellNumber_4 fl_Re_66 rfl rfl ?_
  refine rr_aload_n d_Re_looksAtCellNumber_7 rfl rfl ?_
  refine rr_getf d_Re_looksAtCellNumber_8 fl_Re_32 rfl rfl ?_
  refine rr_iald d_Re_looksAtCellNumber_11 rfl (vp_in_nI (n := a) (by omega) (by decide)) ?_
  refine rr_bipush 9 d_Re_looksAtCellNumber_12 rfl ?_
  rw [nI_clamp (by omega)]
  refine rr_icmp_ne 38 d_Re_looksAtCellNumber_14 (by decide) (fun h9 => ?_) (fun h9 => ?_)
  · skip
    refine rr_iconst 0 d_Re_looksAtCellNumber_38 rfl ?_
    exact rr_ireturn d_Re_looksAtCellNumber_39 rfl rfl (Nat.le_of_ble_eq_true rfl) (Nat.le_of_ble_eq_true rfl) (⟨rfl, rfl⟩)
  refine rr_aload_n d_Re_looksAtCellNumber_17 rfl rfl ?_
  refine rr_getf d_Re_looksAtCellNumber_18 fl_Re_12 rfl rfl ?_
  refine rr_getf d_Re_looksAtCellNumber_21 fl_Re_76 rfl rfl ?_
  refine rr_aload_n d_Re_looksAtCellNumber_24 rfl rfl ?_
  refine rr_getf d_Re_looksAtCellNumber_25 fl_Re_32 rfl rfl ?_
  refine rr_iald d_Re_looksAtCellNumber_28 rfl (vp_in_nI (n := a) (by omega) (by decide)) ?_
  refine rr_bipush 32 d_Re_looksAtCellNumber_29 rfl ?_
  rw [nI_clamp (by omega)]
  refine rr_icmp_ge 38 d_Re_looksAtCellNumber_31 (by decide) (fun _ => ?_) (fun c9 => absurd (Int32.not_lt.mp (fun q => hx ⟨h9, q⟩)) c9)
  refine rr_iconst 0 d_Re_looksAtCellNumber_38 rfl ?_
  exact rr_ireturn d_Re_looksAtCellNumber_39 rfl rfl (Nat.le_of_ble_eq_true rfl) (Nat.le_of_ble_eq_true rfl) (⟨rfl, rfl⟩)

/-- what a reading method answers and does: R is what is read; mk the heap by at, parts, steps and the code's rows -/
def re_Q (M : Nat) (R : sp_R) (s : Nat) (ck cv : Nat → Int32) (mk : Nat → Nat → Nat → (Nat → Int32) → (Nat → Int32) → rr_H) : Option Value → rr_H → Prop := fun r h1 => ∃ (s2 : Nat) (ck2 cv2 : Nat → Int32), r = some (.int (sp_b R.1)) ∧ h1 = mk R.2.1 R.2.2.1 s2 ck2 cv2 ∧ s2 ≤ 160 ∧ (R.1 = true → s2 = s + R.2.2.2.length ∧ ck2 = co_k ck s R.2.2.2 ∧ cv2 = co_v cv s R.2.2.2)

set_option maxRecDepth 100000 in
set_option maxHeartbeats 4000000 in
theorem s_Re_readPart_0 {x0 x1 x2 x7 : va_E} {g : rr_H} {K : Nat → Nat} {V : Nat → Int32} {M : Nat} {sz rl : Int32} {fk fv : Nat → Int32} (ht : tq K V M fk fv) : ∀ (a p s : Nat) (ck cv : Nat → Int32), a ≤ M → p ≤ 80 → s ≤ 2 * p → rr_Spec (3 * 0 + 3) y_Re_readPart c_Re_readPart 3 (some .boolean) 0 0 [.ref 3, .int (nI 6)] (x0 :: x1 :: x2 :: .inr (2, [.ref 4, .ref 8, .int (nI a), .int (nI p)]) :: .inr (4, [.ref 5, .ref 6, .ref 7, .int sz]) :: .inl (0, 401, .inl fk) :: .inl (0, 401, .inl fv) :: x7 :: .inr (0, [.ref 9, .ref 10, .ref 11, .int (nI s), .int rl]) :: .inl (0, 160, .inl (ck)) :: .inl (0, 160, .inl (cv)) :: g) (re_Q M (sp_part K V 0 a p) s ck cv (fun a p s ck cv => x0 :: x1 :: x2 :: .inr (2, [.ref 4, .ref 8, .int (nI a), .int (nI p)]) :: .inr (4, [.ref 5, .ref 6, .ref 7, .int sz]) :: .inl (0, 401, .inl fk) :: .inl (0, 401, .inl fv) :: x7 :: .inr (0, [.ref 9, .ref 10, .ref 11, .int (nI s), .int rl]) :: .inl (0, 160, .inl (ck)) :: .inl (0, 160, .inl (cv)) :: g)) := by
  intro a p s ck cv ha hp hs
  have hM := ht.2.1
  refine rr_met (own := R_Re) (kd := (false, none)) (by decide +kernel) rfl (fun h => by cases h) rfl (Nat.le_of_ble_eq_true rfl) ?_
  have i20 : ∀ {j k : Nat}, j ≤ M → k ≤ 20 → (fk j = nI k ↔ K j = k) := fun hj hk => tq_k ht hj hk
  refine rr_aload_n d_Re_readPart_0 rfl rfl ?_
  refine rr_bipush 19 d_Re_readPart_1 rfl ?_
  by_cases k19 : K a = 19
  · have e19 : fk a = 19 := (i20 (k := 19) ha (by decide)).mpr k19
    refine rr_callV d_Re_readPart_3 il_Re_46 m_Re_looksAt (s_Re_looksAt_t (by omega) e19) rfl rfl rfl rfl (Nat.le_of_ble_eq_true rfl) (by dsimp only; omega) (by dsimp only; omega) (Nat.le_of_ble_eq_true rfl) (Nat.le_of_ble_eq_true rfl) (fun r h1 hq => ?_)
    obtain ⟨rfl, rfl⟩ := hq
    refine rr_if_eq 49 d_Re_readPart_6 (by decide) (fun c9 => absurd c9 (by decide)) (fun _ => ?_)
    refine rr_iload_n d_Re_readPart_9 rfl rfl ?_
    refine rr_bipush 6 d_Re_readPart_10 rfl ?_
    have eR : sp_part K V 0 a p = (false, a, p, []) := by unfold sp_part sp_partOf; rw [if_pos k19]; rfl
    rw [eR]
    refine rr_icmp_ge 47 d_Re_readPart_12 (by decide) (fun _ => ?_) (fun c9 => absurd (by decide) c9)
    refine rr_iconst 0 d_Re_readPart_47 rfl ?_
    exact rr_ireturn d_Re_readPart_48 rfl rfl (Nat.le_of_ble_eq_true rfl) (Nat.le_of_ble_eq_true rfl) (⟨s, ck, cv, rfl, rfl, by omega, fun h => by cases h⟩)
  · have e19 : ¬ fk a = 19 := fun q => k19 ((i20 (k := 19) ha (by decide)).mp q)
    have eR : sp_part K V 0 a p = if 80 ≤ p then (false, a, p, []) else if K a = 8 then (if K (a + 1) = 9 ∧ V (a + 1) < 32 then (true, a + 2, p + 1, [(8, V (a + 1))]) else (false, a + 1, p + 1, [])) else if K a = 9 ∨ K a = 6 ∨ K a = 7 then (true, a + 1, p + 1, [(K a, V a)]) else (false, a, p + 1, []) := by unfold sp_part sp_partOf; rw [if_neg k19]
    rw [eR]
    refine rr_callV d_Re_readPart_3 il_Re_46 m_Re_looksAt (s_Re_looksAt_f (by omega) e19) rfl rfl rfl rfl (Nat.le_of_ble_eq_true rfl) (by dsimp only; omega) (by dsimp only; omega) (Nat.le_of_ble_eq_true rfl) (Nat.le_of_ble_eq_true rfl) (fun r h1 hq => ?_)
    obtain ⟨rfl, rfl⟩ := hq
    refine rr_if_eq 49 d_Re_readPart_6 (by decide) (fun _ => ?_) (fun c9 => absurd (rfl) c9)
    refine rr_aload_n d_Re_readPart_49 rfl rfl ?_
    refine rr_getf d_Re_readPart_50 fl_Re_36 rfl rfl ?_
    refine rr_bipush 80 d_Re_readPart_53 rfl ?_
    by_cases h80 : 80 ≤ p
    · rw [if_pos h80]
      refine rr_icmp_lt 60 d_Re_readPart_55 (by decide) (fun c9 => absurd c9 (nI_nlt h80 (by omega))) (fun _ => ?_)
      refine rr_iconst 0 d_Re_readPart_58 rfl ?_
      exact rr_ireturn d_Re_readPart_59 rfl rfl (Nat.le_of_ble_eq_true rfl) (Nat.le_of_ble_eq_true rfl) (⟨s, ck, cv, rfl, rfl, by omega, fun h => by cases h⟩)
    · rw [if_neg h80]
      refine rr_icmp_lt 60 d_Re_readPart_55 (by decide) (fun _ => ?_) (fun c9 => absurd (nI_lt (a := p) (b := 80) (by omega) (by decide)) c9)
      refine rr_aload_n d_Re_readPart_60 rfl rfl ?_
      refine rr_dup d_Re_readPart_61 rfl ?_
      refine rr_getf d_Re_readPart_62 fl_Re_36 rfl rfl ?_
      refine rr_iconst 1 d_Re_readPart_65 rfl ?_
      refine rr_iadd d_Re_readPart_66 ?_
      refine rr_putf d_Re_readPart_67 fl_Re_36 rfl rfl rfl rfl ?_
      refine rr_aload_n d_Re_readPart_70 rfl rfl ?_
      refine rr_getf d_Re_readPart_71 fl_Re_12 rfl rfl ?_
      refine rr_getf d_Re_readPart_74 fl_Re_66 rfl rfl ?_
      refine rr_aload_n d_Re_readPart_77 rfl rfl ?_
      refine rr_getf d_Re_readPart_78 fl_Re_32 rfl rfl ?_
      refine rr_iald d_Re_readPart_81 rfl (vp_in_nI (n := a) (by omega) (by decide)) ?_
      refine rr_istore_n d_Re_readPart_82 rfl (by decide) ?_
      refine rr_aload_n d_Re_readPart_83 rfl rfl ?_
      refine rr_bipush 8 d_Re_readPart_84 rfl ?_
      rw [nI_1, nI_clamp (by omega)]
      have fin : ∀ (a1 kk : Nat), a1 ≤ M → K a1 ≠ 0 → rr_A R_Re c_Re_readPart 3 (some .boolean) (false, none) { frames := (3 * 0 + 3), cells := 0, slots := 0, locals := ((3 * 0 + 3)) * 64 } (re_Q M (true, a1 + 1, p + 1, [(kk, V a1)]) s ck cv (fun a p s ck cv => x0 :: x1 :: x2 :: .inr (2, [.ref 4, .ref 8, .int (nI a), .int (nI p)]) :: .inr (4, [.ref 5, .ref 6, .ref 7, .int sz]) :: .inl (0, 401, .inl fk) :: .inl (0, 401, .inl fv) :: x7 :: .inr (0, [.ref 9, .ref 10, .ref 11, .int (nI s), .int rl]) :: .inl (0, 160, .inl (ck)) :: .inl (0, 160, .inl (cv)) :: g)) 0 0 121 [(2, .int (nI kk)), (0, .ref 3), (1, .int (nI 6))] [] (x0 :: x1 :: x2 :: .inr (2, [.ref 4, .ref 8, .int (nI a1), .int (nI (p + 1))]) :: .inr (4, [.ref 5, .ref 6, .ref 7, .int sz]) :: .inl (0, 401, .inl fk) :: .inl (0, 401, .inl fv) :: x7 :: .inr (0, [.ref 9, .ref 10, .ref 11, .int (nI s), .int rl]) :: .inl (0, 160, .inl (ck)) :: .inl (0, 160, .inl (cv)) :: g) := by
        intro a1 kk h1 h2
        have hl1 := sp_lt ht.1 h1 rfl h2
        refine rr_aload_n d_Re_readPart_121 rfl rfl ?_
        refine rr_getf d_Re_readPart_122 fl_Re_21 rfl rfl ?_
        refine rr_iload_n d_Re_readPart_125 rfl rfl ?_
        refine rr_aload_n d_Re_readPart_126 rfl rfl ?_
        refine rr_getf d_Re_readPart_127 fl_Re_12 rfl rfl ?_
        refine rr_getf d_Re_readPart_130 fl_Re_76 rfl rfl ?_
        refine rr_aload_n d_Re_readPart_133 rfl rfl ?_
        refine rr_getf d_Re_readPart_134 fl_Re_32 rfl rfl ?_
        refine rr_iald d_Re_readPart_137 rfl (vp_in_nI (n := a1) (by omega) (by decide)) ?_
        rw [nI_clamp (by omega), (ht.2.2.1 a1 h1).2]
        refine rr_callV d_Re_readPart_138 il_Re_69 m_Co_add (s_Co_add (by omega)) rfl rfl rfl rfl (Nat.le_of_ble_eq_true rfl) (by dsimp only; omega) (by dsimp only; omega) (Nat.le_of_ble_eq_true rfl) (Nat.le_of_ble_eq_true rfl) (fun r h1 hq => ?_)
        obtain ⟨rfl, rfl⟩ := hq
        refine rr_aload_n d_Re_readPart_141 rfl rfl ?_
        refine rr_dup d_Re_readPart_142 rfl ?_
        refine rr_getf d_Re_readPart_143 fl_Re_32 rfl rfl ?_
        refine rr_iconst 1 d_Re_readPart_146 rfl ?_
        refine rr_iadd d_Re_readPart_147 ?_
        refine rr_putf d_Re_readPart_148 fl_Re_32 rfl rfl rfl rfl ?_
        refine rr_iconst 1 d_Re_readPart_151 rfl ?_
        rw [nI_1]
        exact rr_ireturn d_Re_readPart_152 rfl rfl (Nat.le_of_ble_eq_true rfl) (Nat.le_of_ble_eq_true rfl) (⟨s + 1, _, _, rfl, rfl, by omega, fun _ => ⟨rfl, rfl, rfl⟩⟩)
      by_cases k8 : K a = 8
      · rw [if_pos k8]
        have hl := sp_lt ht.1 ha k8 (by decide)
        have e8 : fk a = 8 := (i20 (k := 8) ha (by decide)).mpr k8
        refine rr_callV d_Re_readPart_86 il_Re_50 m_Re_pass (s_Re_pass_t (by omega) e8) rfl rfl rfl rfl (Nat.le_of_ble_eq_true rfl) (by dsimp only; omega) (by dsimp only; omega) (Nat.le_of_ble_eq_true rfl) (Nat.le_of_ble_eq_true rfl) (fun r h1 hq => ?_)
        obtain ⟨rfl, rfl⟩ := hq
        refine rr_if_eq 101 d_Re_readPart_89 (by decide) (fun c9 => absurd c9 (by decide)) (fun _ => ?_)
        refine rr_aload_n d_Re_readPart_92 rfl rfl ?_
        by_cases k9 : K (a + 1) = 9 ∧ V (a + 1) < 32
        · rw [if_pos k9]
          have e9 : fk (a + 1) = 9 ∧ fv (a + 1) < 32 := ⟨(i20 (k := 9) hl (by decide)).mpr k9.1, by rw [(ht.2.2.1 (a + 1) hl).2]; exact k9.2⟩
          refine rr_callV d_Re_readPart_93 il_Re_73 m_Re_looksAtCellNumber (s_Re_looksAtCellNumber_t (by omega) e9) rfl rfl rfl rfl (Nat.le_of_ble_eq_true rfl) (by dsimp only; omega) (by dsimp only; omega) (Nat.le_of_ble_eq_true rfl) (Nat.le_of_ble_eq_true rfl) (fun r h1 hq => ?_)
          obtain ⟨rfl, rfl⟩ := hq
          refine rr_if_ne 121 d_Re_readPart_96 (by decide) (fun _ => ?_) (fun c9 => absurd c9 (by decide))
          rw [e8]
          exact rr_lvs _ rfl (fin (a + 1) 8 hl (by rw [k9.1]; decide))
        · rw [if_neg k9]
          have e9 : ¬ (fk (a + 1) = 9 ∧ fv (a + 1) < 32) := fun q => k9 ⟨(i20 (k := 9) hl (by decide)).mp q.1, by rw [← (ht.2.2.1 (a + 1) hl).2]; exact q.2⟩
          refine rr_callV d_Re_readPart_93 il_Re_73 m_Re_looksAtCellNumber (s_Re_looksAtCellNumber_f (by omega) e9) rfl rfl rfl rfl (Nat.le_of_ble_eq_true rfl) (by dsimp only; omega) (by dsimp only; omega) (Nat.le_of_ble_eq_true rfl) (Nat.le_of_ble_eq_true rfl) (fun r h1 hq => ?_)
          obtain ⟨rfl, rfl⟩ := hq
          refine rr_if_ne 121 d_Re_readPart_96 (by decide) (fun c9 => absurd (rfl) c9) (fun _ => ?_)
          refine rr_iconst 0 d_Re_readPart_99 rfl ?_
          exact rr_ireturn d_Re_readPart_100 rfl rfl (Nat.le_of_ble_eq_true rfl) (Nat.le_of_ble_eq_true rfl) (⟨s, ck, cv, rfl, rfl, by omega, fun h => by cases h⟩)
      · rw [if_neg k8]
        have e8 : ¬ fk a = 8 := fun q => k8 ((i20 (k := 8) ha (by decide)).mp q)
        refine rr_callV d_Re_readPart_86 il_Re_50 m_Re_pass (s_Re_pass_f (by omega) e8) rfl rfl rfl rfl (Nat.le_of_ble_eq_true rfl) (by dsimp only; omega) (by dsimp only; omega) (Nat.le_of_ble_eq_true rfl) (Nat.le_of_ble_eq_true rfl) (fun r h1 hq => ?_)
        obtain ⟨rfl, rfl⟩ := hq
        refine rr_if_eq 101 d_Re_readPart_89 (by decide) (fun _ => ?_) (fun c9 => absurd (rfl) c9)
        refine rr_iload_n d_Re_readPart_101 rfl rfl ?_
        refine rr_bipush 9 d_Re_readPart_102 rfl ?_
        have ek : fk a = nI (K a) := (ht.2.2.1 a ha).1
        by_cases kx : K a = 9 ∨ K a = 6 ∨ K a = 7
        · rw [if_pos kx]
          have hne : K a ≠ 0 := by omega
          refine rr_icmp_eq 121 d_Re_readPart_104 (by decide) (fun h9 => ?_) (fun h9 => ?_)
          · rw [ek]
            exact rr_lvs _ rfl (fin a (K a) ha hne)
          refine rr_iload_n d_Re_readPart_107 rfl rfl ?_
          refine rr_bipush 6 d_Re_readPart_108 rfl ?_
          refine rr_icmp_eq 121 d_Re_readPart_110 (by decide) (fun h6 => ?_) (fun h6 => ?_)
          · rw [ek]
            exact rr_lvs _ rfl (fin a (K a) ha hne)
          refine rr_iload_n d_Re_readPart_113 rfl rfl ?_
          refine rr_bipush 7 d_Re_readPart_114 rfl ?_
          refine rr_icmp_eq 121 d_Re_readPart_116 (by decide) (fun h7 => ?_) (fun h7 => ?_)
          · rw [ek]
            exact rr_lvs _ rfl (fin a (K a) ha hne)
          rcases kx with q | q | q
          · exact absurd ((i20 (k := 9) ha (by decide)).mpr q) h9
          · exact absurd ((i20 (k := 6) ha (by decide)).mpr q) h6
          · exact absurd ((i20 (k := 7) ha (by decide)).mpr q) h7
        · rw [if_neg kx]
          refine rr_icmp_eq 121 d_Re_readPart_104 (by decide) (fun c9 => absurd c9 (fun q => kx (Or.inl ((i20 (k := 9) ha (by decide)).mp q)))) (fun _ => ?_)
          refine rr_iload_n d_Re_readPart_107 rfl rfl ?_
          refine rr_bipush 6 d_Re_readPart_108 rfl ?_
          refine rr_icmp_eq 121 d_Re_readPart_110 (by decide) (fun c9 => absurd c9 (fun q => kx (Or.inr (Or.inl ((i20 (k := 6) ha (by decide)).mp q))))) (fun _ => ?_)
          refine rr_iload_n d_Re_readPart_113 rfl rfl ?_
          refine rr_bipush 7 d_Re_readPart_114 rfl ?_
          refine rr_icmp_eq 121 d_Re_readPart_116 (by decide) (fun c9 => absurd c9 (fun q => kx (Or.inr (Or.inr ((i20 (k := 7) ha (by decide)).mp q))))) (fun _ => ?_)
          refine rr_iconst 0 d_Re_readPart_119 rfl ?_
          exact rr_ireturn d_Re_readPart_120 rfl rfl (Nat.le_of_ble_eq_true rfl) (Nat.le_of_ble_eq_true rfl) (⟨s, ck, cv, rfl, rfl, by omega, fun h => by cases h⟩)

set_option maxRecDepth 100000 in
set_option maxHeartbeats 4000000 in
theorem s_Re_readPart_1 {x0 x1 x2 x7 : va_E} {g : rr_H} {K : Nat → Nat} {V : Nat → Int32} {M : Nat} {sz rl : Int32} {fk fv : Nat → Int32} {d e : Nat} (ht : tq K V M fk fv) (he : e < 6) (hin : (∀ (a p s : Nat) (ck cv : Nat → Int32), a ≤ M → p ≤ 80 → s ≤ 2 * p → rr_Spec (3 * d + 5) y_Re_readSum c_Re_readSum 4 (some .boolean) 0 0 [.ref 3, .int (nI (e + 1))] (x0 :: x1 :: x2 :: .inr (2, [.ref 4, .ref 8, .int (nI a), .int (nI p)]) :: .inr (4, [.ref 5, .ref 6, .ref 7, .int sz]) :: .inl (0, 401, .inl fk) :: .inl (0, 401, .inl fv) :: x7 :: .inr (0, [.ref 9, .ref 10, .ref 11, .int (nI s), .int rl]) :: .inl (0, 160, .inl (ck)) :: .inl (0, 160, .inl (cv)) :: g) (re_Q M (sp_sum K V d a p) s ck cv (fun a p s ck cv => x0 :: x1 :: x2 :: .inr (2, [.ref 4, .ref 8, .int (nI a), .int (nI p)]) :: .inr (4, [.ref 5, .ref 6, .ref 7, .int sz]) :: .inl (0, 401, .inl fk) :: .inl (0, 401, .inl fv) :: x7 :: .inr (0, [.ref 9, .ref 10, .ref 11, .int (nI s), .int rl]) :: .inl (0, 160, .inl (ck)) :: .inl (0, 160, .inl (cv)) :: g)))) : ∀ (a p s : Nat) (ck cv : Nat → Int32), a ≤ M → p ≤ 80 → s ≤ 2 * p → rr_Spec (3 * (d + 1) + 3) y_Re_readPart c_Re_readPart 3 (some .boolean) 0 0 [.ref 3, .int (nI e)] (x0 :: x1 :: x2 :: .inr (2, [.ref 4, .ref 8, .int (nI a), .int (nI p)]) :: .inr (4, [.ref 5, .ref 6, .ref 7, .int sz]) :: .inl (0, 401, .inl fk) :: .inl (0, 401, .inl fv) :: x7 :: .inr (0, [.ref 9, .ref 10, .ref 11, .int (nI s), .int rl]) :: .inl (0, 160, .inl (ck)) :: .inl (0, 160, .inl (cv)) :: g) (re_Q M (sp_part K V (d + 1) a p) s ck cv (fun a p s ck cv => x0 :: x1 :: x2 :: .inr (2, [.ref 4, .ref 8, .int (nI a), .int (nI p)]) :: .inr (4, [.ref 5, .ref 6, .ref 7, .int sz]) :: .inl (0, 401, .inl fk) :: .inl (0, 401, .inl fv) :: x7 :: .inr (0, [.ref 9, .ref 10, .ref 11, .int (nI s), .int rl]) :: .inl (0, 160, .inl (ck)) :: .inl (0, 160, .inl (cv)) :: g)) := by
  intro a p s ck cv ha hp hs
  have hM := ht.2.1
  refine rr_met (own := R_Re) (kd := (false, none)) (by decide +kernel) rfl (fun h => by cases h) rfl (Nat.le_of_ble_eq_true rfl) ?_
  have i20 : ∀ {j k : Nat}, j ≤ M → k ≤ 20 → (fk j = nI k ↔ K j = k) := fun hj hk => tq_k ht hj hk
  refine rr_aload_n d_Re_readPart_0 rfl rfl ?_
  refine rr_bipush 19 d_Re_readPart_1 rfl ?_
  by_cases k19 : K a = 19
  · have e19 : fk a = 19 := (i20 (k := 19) ha (by decide)).mpr k19
    refine rr_callV d_Re_readPart_3 il_Re_46 m_Re_looksAt (s_Re_looksAt_t (by omega) e19) rfl rfl rfl rfl (Nat.le_of_ble_eq_true rfl) (by dsimp only; omega) (by dsimp only; omega) (Nat.le_of_ble_eq_true rfl) (Nat.le_of_ble_eq_true rfl) (fun r h1 hq => ?_)
    obtain ⟨rfl, rfl⟩ := hq
    refine rr_if_eq 49 d_Re_readPart_6 (by decide) (fun c9 => absurd c9 (by decide)) (fun _ => ?_)
    refine rr_iload_n d_Re_readPart_9 rfl rfl ?_
    refine rr_bipush 6 d_Re_readPart_10 rfl ?_
    have hl := sp_lt ht.1 ha k19 (by decide)
    have eR : sp_part K V (d + 1) a p = if (sp_sum K V d (a + 1) p).1 = true then (if K (sp_sum K V d (a + 1) p).2.1 = 20 then (true, (sp_sum K V d (a + 1) p).2.1 + 1, (sp_sum K V d (a + 1) p).2.2) else (false, (sp_sum K V d (a + 1) p).2.1, (sp_sum K V d (a + 1) p).2.2)) else sp_sum K V d (a + 1) p := by
      show sp_partOf K V (some (sp_sum K V d)) a p = _
      unfold sp_partOf
      rw [if_pos k19]
    rw [eR]
    have hsd := sp_snd_s (V := V) ht.1 d (a + 1) p hl hp
    refine rr_icmp_ge 47 d_Re_readPart_12 (by decide) (fun c9 => absurd c9 (nI_ge (a := e) (b := 6) (by omega) (by decide))) (fun _ => ?_)
    refine rr_aload_n d_Re_readPart_15 rfl rfl ?_
    refine rr_bipush 19 d_Re_readPart_16 rfl ?_
    refine rr_callV d_Re_readPart_18 il_Re_50 m_Re_pass (s_Re_pass_t (by omega) e19) rfl rfl rfl rfl (Nat.le_of_ble_eq_true rfl) (by dsimp only; omega) (by dsimp only; omega) (Nat.le_of_ble_eq_true rfl) (Nat.le_of_ble_eq_true rfl) (fun r h1 hq => ?_)
    obtain ⟨rfl, rfl⟩ := hq
    refine rr_if_eq 47 d_Re_readPart_21 (by decide) (fun c9 => absurd c9 (by decide)) (fun _ => ?_)
    refine rr_aload_n d_Re_readPart_24 rfl rfl ?_
    refine rr_iload_n d_Re_readPart_25 rfl rfl ?_
    refine rr_iconst 1 d_Re_readPart_26 rfl ?_
    refine rr_iadd d_Re_readPart_27 ?_
    rw [nI_1]
    refine rr_callV d_Re_readPart_28 il_Re_63 m_Re_readSum (hin (a + 1) p s ck cv hl hp hs) rfl rfl rfl rfl (Nat.le_of_ble_eq_true rfl) (by dsimp only; omega) (by dsimp only; omega) (Nat.le_of_ble_eq_true rfl) (Nat.le_of_ble_eq_true rfl) (fun r h1 hq => ?_)
    obtain ⟨s2, ck2, cv2, rfl, rfl, hs2, hok⟩ := hq
    by_cases ho : (sp_sum K V d (a + 1) p).1 = true
    · rw [if_pos ho, ho]
      refine rr_if_eq 47 d_Re_readPart_31 (by decide) (fun c9 => absurd c9 (by decide)) (fun _ => ?_)
      refine rr_aload_n d_Re_readPart_34 rfl rfl ?_
      refine rr_bipush 20 d_Re_readPart_35 rfl ?_
      by_cases k20 : K (sp_sum K V d (a + 1) p).2.1 = 20
      · rw [if_pos k20]
        have e20 := (i20 (k := 20) hsd.1 (by decide)).mpr k20
        refine rr_callV d_Re_readPart_37 il_Re_50 m_Re_pass (s_Re_pass_t (by omega) e20) rfl rfl rfl rfl (Nat.le_of_ble_eq_true rfl) (by dsimp only; omega) (by dsimp only; omega) (Nat.le_of_ble_eq_true rfl) (Nat.le_of_ble_eq_true rfl) (fun r h1 hq => ?_)
        obtain ⟨rfl, rfl⟩ := hq
        refine rr_if_eq 47 d_Re_readPart_40 (by decide) (fun c9 => absurd c9 (by decide)) (fun _ => ?_)
        refine rr_iconst 1 d_Re_readPart_43 rfl ?_
        refine rr_goto 48 d_Re_readPart_44 (by decide) ?_
        exact rr_ireturn d_Re_readPart_48 rfl rfl (Nat.le_of_ble_eq_true rfl) (Nat.le_of_ble_eq_true rfl) (⟨s2, ck2, cv2, rfl, rfl, hs2, fun _ => hok ho⟩)
      · rw [if_neg k20]
        have e20 : ¬ fk (sp_sum K V d (a + 1) p).2.1 = 20 := fun q => k20 ((i20 (k := 20) hsd.1 (by decide)).mp q)
        refine rr_callV d_Re_readPart_37 il_Re_50 m_Re_pass (s_Re_pass_f (by omega) e20) rfl rfl rfl rfl (Nat.le_of_ble_eq_true rfl) (by dsimp only; omega) (by dsimp only; omega) (Nat.le_of_ble_eq_true rfl) (Nat.le_of_ble_eq_true rfl) (fun r h1 hq => ?_)
        obtain ⟨rfl, rfl⟩ := hq
        refine rr_if_eq 47 d_Re_readPart_40 (by decide) (fun _ => ?_) (fun c9 => absurd (rfl) c9)
        refine rr_iconst 0 d_Re_readPart_47 rfl ?_
        exact rr_ireturn d_Re_readPart_48 rfl rfl (Nat.le_of_ble_eq_true rfl) (Nat.le_of_ble_eq_true rfl) (⟨s2, ck2, cv2, rfl, rfl, hs2, fun h => by cases h⟩)
    · rw [if_neg ho]
      rw [(Bool.not_eq_true _).mp ho]
      refine rr_if_eq 47 d_Re_readPart_31 (by decide) (fun _ => ?_) (fun c9 => absurd (rfl) c9)
      refine rr_iconst 0 d_Re_readPart_47 rfl ?_
      exact rr_ireturn d_Re_readPart_48 rfl rfl (Nat.le_of_ble_eq_true rfl) (Nat.le_of_ble_eq_true rfl) (⟨s2, ck2, cv2, by rw [(Bool.not_eq_true _).mp ho]; rfl, rfl, hs2, fun h => absurd h ho⟩)
  · have e19 : ¬ fk a = 19 := fun q => k19 ((i20 (k := 19) ha (by decide)).mp q)
    have eR : sp_part K V (d + 1) a p = if 80 ≤ p then (false, a, p, []) else if K a = 8 then (if K (a + 1) = 9 ∧ V (a + 1) < 32 then (true, a + 2, p + 1, [(8, V (a + 1))]) else (false, a + 1, p + 1, [])) else if K a = 9 ∨ K a = 6 ∨ K a = 7 then (true, a + 1, p + 1, [(K a, V a)]) else (false, a, p + 1, []) := by unfold sp_part sp_partOf; rw [if_neg k19]
    rw [eR]
    refine rr_callV d_Re_readPart_3 il_Re_46 m_Re_looksAt (s_Re_looksAt_f (by omega) e19) rfl rfl rfl rfl (Nat.le_of_ble_eq_true rfl) (by dsimp only; omega) (by dsimp only; omega) (Nat.le_of_ble_eq_true rfl) (Nat.le_of_ble_eq_true rfl) (fun r h1 hq => ?_)
    obtain ⟨rfl, rfl⟩ := hq
    refine rr_if_eq 49 d_Re_readPart_6 (by decide) (fun _ => ?_) (fun c9 => absurd (rfl) c9)
    refine rr_aload_n d_Re_readPart_49 rfl rfl ?_
    refine rr_getf d_Re_readPart_50 fl_Re_36 rfl rfl ?_
    refine rr_bipush 80 d_Re_readPart_53 rfl ?_
    by_cases h80 : 80 ≤ p
    · rw [if_pos h80]
      refine rr_icmp_lt 60 d_Re_readPart_55 (by decide) (fun c9 => absurd c9 (nI_nlt h80 (by omega))) (fun _ => ?_)
      refine rr_iconst 0 d_Re_readPart_58 rfl ?_
      exact rr_ireturn d_Re_readPart_59 rfl rfl (Nat.le_of_ble_eq_true rfl) (Nat.le_of_ble_eq_true rfl) (⟨s, ck, cv, rfl, rfl, by omega, fun h => by cases h⟩)
    · rw [if_neg h80]
      refine rr_icmp_lt 60 d_Re_readPart_55 (by decide) (fun _ => ?_) (fun c9 => absurd (nI_lt (a := p) (b := 80) (by omega) (by decide)) c9)
      refine rr_aload_n d_Re_readPart_60 rfl rfl ?_
      refine rr_dup d_Re_readPart_61 rfl ?_
      refine rr_getf d_Re_readPart_62 fl_Re_36 rfl rfl ?_
      refine rr_iconst 1 d_Re_readPart_65 rfl ?_
      refine rr_iadd d_Re_readPart_66 ?_
      refine rr_putf d_Re_readPart_67 fl_Re_36 rfl rfl rfl rfl ?_
      refine rr_aload_n d_Re_readPart_70 rfl rfl ?_
      refine rr_getf d_Re_readPart_71 fl_Re_12 rfl rfl ?_
      refine rr_getf d_Re_readPart_74 fl_Re_66 rfl rfl ?_
      refine rr_aload_n d_Re_readPart_77 rfl rfl ?_
      refine rr_getf d_Re_readPart_78 fl_Re_32 rfl rfl ?_
      refine rr_iald d_Re_readPart_81 rfl (vp_in_nI (n := a) (by omega) (by decide)) ?_
      refine rr_istore_n d_Re_readPart_82 rfl (by decide) ?_
      refine rr_aload_n d_Re_readPart_83 rfl rfl ?_
      refine rr_bipush 8 d_Re_readPart_84 rfl ?_
      rw [nI_1, nI_clamp (by omega)]
      have fin : ∀ (a1 kk : Nat), a1 ≤ M → K a1 ≠ 0 → rr_A R_Re c_Re_readPart 3 (some .boolean) (false, none) { frames := (3 * (d + 1) + 3), cells := 0, slots := 0, locals := ((3 * (d + 1) + 3)) * 64 } (re_Q M (true, a1 + 1, p + 1, [(kk, V a1)]) s ck cv (fun a p s ck cv => x0 :: x1 :: x2 :: .inr (2, [.ref 4, .ref 8, .int (nI a), .int (nI p)]) :: .inr (4, [.ref 5, .ref 6, .ref 7, .int sz]) :: .inl (0, 401, .inl fk) :: .inl (0, 401, .inl fv) :: x7 :: .inr (0, [.ref 9, .ref 10, .ref 11, .int (nI s), .int rl]) :: .inl (0, 160, .inl (ck)) :: .inl (0, 160, .inl (cv)) :: g)) 0 0 121 [(2, .int (nI kk)), (0, .ref 3), (1, .int (nI e))] [] (x0 :: x1 :: x2 :: .inr (2, [.ref 4, .ref 8, .int (nI a1), .int (nI (p + 1))]) :: .inr (4, [.ref 5, .ref 6, .ref 7, .int sz]) :: .inl (0, 401, .inl fk) :: .inl (0, 401, .inl fv) :: x7 :: .inr (0, [.ref 9, .ref 10, .ref 11, .int (nI s), .int rl]) :: .inl (0, 160, .inl (ck)) :: .inl (0, 160, .inl (cv)) :: g) := by
        intro a1 kk h1 h2
        have hl1 := sp_lt ht.1 h1 rfl h2
        refine rr_aload_n d_Re_readPart_121 rfl rfl ?_
        refine rr_getf d_Re_readPart_122 fl_Re_21 rfl rfl ?_
        refine rr_iload_n d_Re_readPart_125 rfl rfl ?_
        refine rr_aload_n d_Re_readPart_126 rfl rfl ?_
        refine rr_getf d_Re_readPart_127 fl_Re_12 rfl rfl ?_
        refine rr_getf d_Re_readPart_130 fl_Re_76 rfl rfl ?_
        refine rr_aload_n d_Re_readPart_133 rfl rfl ?_
        refine rr_getf d_Re_readPart_134 fl_Re_32 rfl rfl ?_
        refine rr_iald d_Re_readPart_137 rfl (vp_in_nI (n := a1) (by omega) (by decide)) ?_
        rw [nI_clamp (by omega), (ht.2.2.1 a1 h1).2]
        refine rr_callV d_Re_readPart_138 il_Re_69 m_Co_add (s_Co_add (by omega)) rfl rfl rfl rfl (Nat.le_of_ble_eq_true rfl) (by dsimp only; omega) (by dsimp only; omega) (Nat.le_of_ble_eq_true rfl) (Nat.le_of_ble_eq_true rfl) (fun r h1 hq => ?_)
        obtain ⟨rfl, rfl⟩ := hq
        refine rr_aload_n d_Re_readPart_141 rfl rfl ?_
        refine rr_dup d_Re_readPart_142 rfl ?_
        refine rr_getf d_Re_readPart_143 fl_Re_32 rfl rfl ?_
        refine rr_iconst 1 d_Re_readPart_146 rfl ?_
        refine rr_iadd d_Re_readPart_147 ?_
        refine rr_putf d_Re_readPart_148 fl_Re_32 rfl rfl rfl rfl ?_
        refine rr_iconst 1 d_Re_readPart_151 rfl ?_
        rw [nI_1]
        exact rr_ireturn d_Re_readPart_152 rfl rfl (Nat.le_of_ble_eq_true rfl) (Nat.le_of_ble_eq_true rfl) (⟨s + 1, _, _, rfl, rfl, by omega, fun _ => ⟨rfl, rfl, rfl⟩⟩)
      by_cases k8 : K a = 8
      · rw [if_pos k8]
        have hl := sp_lt ht.1 ha k8 (by decide)
        have e8 : fk a = 8 := (i20 (k := 8) ha (by decide)).mpr k8
        refine rr_callV d_Re_readPart_86 il_Re_50 m_Re_pass (s_Re_pass_t (by omega) e8) rfl rfl rfl rfl (Nat.le_of_ble_eq_true rfl) (by dsimp only; omega) (by dsimp only; omega) (Nat.le_of_ble_eq_true rfl) (Nat.le_of_ble_eq_true rfl) (fun r h1 hq => ?_)
        obtain ⟨rfl, rfl⟩ := hq
        refine rr_if_eq 101 d_Re_readPart_89 (by decide) (fun c9 => absurd c9 (by decide)) (fun _ => ?_)
        refine rr_aload_n d_Re_readPart_92 rfl rfl ?_
        by_cases k9 : K (a + 1) = 9 ∧ V (a + 1) < 32
        · rw [if_pos k9]
          have e9 : fk (a + 1) = 9 ∧ fv (a + 1) < 32 := ⟨(i20 (k := 9) hl (by decide)).mpr k9.1, by rw [(ht.2.2.1 (a + 1) hl).2]; exact k9.2⟩
          refine rr_callV d_Re_readPart_93 il_Re_73 m_Re_looksAtCellNumber (s_Re_looksAtCellNumber_t (by omega) e9) rfl rfl rfl rfl (Nat.le_of_ble_eq_true rfl) (by dsimp only; omega) (by dsimp only; omega) (Nat.le_of_ble_eq_true rfl) (Nat.le_of_ble_eq_true rfl) (fun r h1 hq => ?_)
          obtain ⟨rfl, rfl⟩ := hq
          refine rr_if_ne 121 d_Re_readPart_96 (by decide) (fun _ => ?_) (fun c9 => absurd c9 (by decide))
          rw [e8]
          exact rr_lvs _ rfl (fin (a + 1) 8 hl (by rw [k9.1]; decide))
        · rw [if_neg k9]
          have e9 : ¬ (fk (a + 1) = 9 ∧ fv (a + 1) < 32) := fun q => k9 ⟨(i20 (k := 9) hl (by decide)).mp q.1, by rw [← (ht.2.2.1 (a + 1) hl).2]; exact q.2⟩
          refine rr_callV d_Re_readPart_93 il_Re_73 m_Re_looksAtCellNumber (s_Re_looksAtCellNumber_f (by omega) e9) rfl rfl rfl rfl (Nat.le_of_ble_eq_true rfl) (by dsimp only; omega) (by dsimp only; omega) (Nat.le_of_ble_eq_true rfl) (Nat.le_of_ble_eq_true rfl) (fun r h1 hq => ?_)
          obtain ⟨rfl, rfl⟩ := hq
          refine rr_if_ne 121 d_Re_readPart_96 (by decide) (fun c9 => absurd (rfl) c9) (fun _ => ?_)
          refine rr_iconst 0 d_Re_readPart_99 rfl ?_
          exact rr_ireturn d_Re_readPart_100 rfl rfl (Nat.le_of_ble_eq_true rfl) (Nat.le_of_ble_eq_true rfl) (⟨s, ck, cv, rfl, rfl, by omega, fun h => by cases h⟩)
      · rw [if_neg k8]
        have e8 : ¬ fk a = 8 := fun q => k8 ((i20 (k := 8) ha (by decide)).mp q)
        refine rr_callV d_Re_readPart_86 il_Re_50 m_Re_pass (s_Re_pass_f (by omega) e8) rfl rfl rfl rfl (Nat.le_of_ble_eq_true rfl) (by dsimp only; omega) (by dsimp only; omega) (Nat.le_of_ble_eq_true rfl) (Nat.le_of_ble_eq_true rfl) (fun r h1 hq => ?_)
        obtain ⟨rfl, rfl⟩ := hq
        refine rr_if_eq 101 d_Re_readPart_89 (by decide) (fun _ => ?_) (fun c9 => absurd (rfl) c9)
        refine rr_iload_n d_Re_readPart_101 rfl rfl ?_
        refine rr_bipush 9 d_Re_readPart_102 rfl ?_
        have ek : fk a = nI (K a) := (ht.2.2.1 a ha).1
        by_cases kx : K a = 9 ∨ K a = 6 ∨ K a = 7
        · rw [if_pos kx]
          have hne : K a ≠ 0 := by omega
          refine rr_icmp_eq 121 d_Re_readPart_104 (by decide) (fun h9 => ?_) (fun h9 => ?_)
          · rw [ek]
            exact rr_lvs _ rfl (fin a (K a) ha hne)
          refine rr_iload_n d_Re_readPart_107 rfl rfl ?_
          refine rr_bipush 6 d_Re_readPart_108 rfl ?_
          refine rr_icmp_eq 121 d_Re_readPart_110 (by decide) (fun h6 => ?_) (fun h6 => ?_)
          · rw [ek]
            exact rr_lvs _ rfl (fin a (K a) ha hne)
          refine rr_iload_n d_Re_readPart_113 rfl rfl ?_
          refine rr_bipush 7 d_Re_readPart_114 rfl ?_
          refine rr_icmp_eq 121 d_Re_readPart_116 (by decide) (fun h7 => ?_) (fun h7 => ?_)
          · rw [ek]
            exact rr_lvs _ rfl (fin a (K a) ha hne)
          rcases kx with q | q | q
          · exact absurd ((i20 (k := 9) ha (by decide)).mpr q) h9
          · exact absurd ((i20 (k := 6) ha (by decide)).mpr q) h6
          · exact absurd ((i20 (k := 7) ha (by decide)).mpr q) h7
        · rw [if_neg kx]
          refine rr_icmp_eq 121 d_Re_readPart_104 (by decide) (fun c9 => absurd c9 (fun q => kx (Or.inl ((i20 (k := 9) ha (by decide)).mp q)))) (fun _ => ?_)
          refine rr_iload_n d_Re_readPart_107 rfl rfl ?_
          refine rr_bipush 6 d_Re_readPart_108 rfl ?_
          refine rr_icmp_eq 121 d_Re_readPart_110 (by decide) (fun c9 => absurd c9 (fun q => kx (Or.inr (Or.inl ((i20 (k := 6) ha (by decide)).mp q))))) (fun _ => ?_)
          refine rr_iload_n d_Re_readPart_113 rfl rfl ?_
          refine rr_bipush 7 d_Re_readPart_114 rfl ?_
          refine rr_icmp_eq 121 d_Re_readPart_116 (by decide) (fun c9 => absurd c9 (fun q => kx (Or.inr (Or.inr ((i20 (k := 7) ha (by decide)).mp q))))) (fun _ => ?_)
          refine rr_iconst 0 d_Re_readPart_119 rfl ?_
          exact rr_ireturn d_Re_readPart_120 rfl rfl (Nat.le_of_ble_eq_true rfl) (Nat.le_of_ble_eq_true rfl) (⟨s, ck, cv, rfl, rfl, by omega, fun h => by cases h⟩)

theorem co_k_1 (f : Nat → Int32) (s k : Nat) (v : Int32) : co_k f s [(k, v)] = upd f s (nI k) := rfl
theorem co_v_1 (f : Nat → Int32) (s k : Nat) (v : Int32) : co_v f s [(k, v)] = upd f s v := rfl
theorem co_k_3 (f : Nat → Int32) (s : Nat) (o i : List (Nat × Int32)) (k : Nat) (v : Int32) : upd (co_k (co_k f s o) (s + o.length) i) (s + o.length + i.length) (nI k) = co_k f s (o ++ i ++ [(k, v)]) := by
  rw [co_k_app, co_k_app, co_k_1, List.length_append, Nat.add_assoc]
theorem co_v_3 (f : Nat → Int32) (s : Nat) (o i : List (Nat × Int32)) (k : Nat) (v : Int32) : upd (co_v (co_v f s o) (s + o.length) i) (s + o.length + i.length) v = co_v f s (o ++ i ++ [(k, v)]) := by
  rw [co_v_app, co_v_app, co_v_1, List.length_append, Nat.add_assoc]
theorem co_l_3 (s : Nat) (o i : List (Nat × Int32)) (q : Nat × Int32) : s + o.length + i.length + 1 = s + (o ++ i ++ [q]).length := by
  rw [List.length_append, List.length_append]
  show _ = s + (o.length + i.length + 1)
  omega

set_option maxRecDepth 100000 in
set_option maxHeartbeats 4000000 in
theorem l_Re_readTerm {x0 x1 x2 x7 : va_E} {g : rr_H} {K : Nat → Nat} {V : Nat → Int32} {M : Nat} {sz rl : Int32} {fk fv : Nat → Int32} {d e p0 s : Nat} {ck cv : Nat → Int32} (ht : tq K V M fk fv) (hp : (∀ (a p s : Nat) (ck cv : Nat → Int32), a ≤ M → p ≤ 80 → s ≤ 2 * p → rr_Spec (3 * d + 3) y_Re_readPart c_Re_readPart 3 (some .boolean) 0 0 [.ref 3, .int (nI e)] (x0 :: x1 :: x2 :: .inr (2, [.ref 4, .ref 8, .int (nI a), .int (nI p)]) :: .inr (4, [.ref 5, .ref 6, .ref 7, .int sz]) :: .inl (0, 401, .inl fk) :: .inl (0, 401, .inl fv) :: x7 :: .inr (0, [.ref 9, .ref 10, .ref 11, .int (nI s), .int rl]) :: .inl (0, 160, .inl (ck)) :: .inl (0, 160, .inl (cv)) :: g) (re_Q M (sp_part K V d a p) s ck cv (fun a p s ck cv => x0 :: x1 :: x2 :: .inr (2, [.ref 4, .ref 8, .int (nI a), .int (nI p)]) :: .inr (4, [.ref 5, .ref 6, .ref 7, .int sz]) :: .inl (0, 401, .inl fk) :: .inl (0, 401, .inl fv) :: x7 :: .inr (0, [.ref 9, .ref 10, .ref 11, .int (nI s), .int rl]) :: .inl (0, 160, .inl (ck)) :: .inl (0, 160, .inl (cv)) :: g)))) (hs : s ≤ 2 * p0) : ∀ (n a p : Nat) (o : List (Nat × Int32)), n ≤ 80 → a ≤ M → p ≤ 80 → p0 < p → o.length + 1 = 2 * (p - p0) → rr_A R_Re c_Re_readTerm 3 (some .boolean) (false, none) { frames := (3 * d + 4), cells := 0, slots := 0, locals := ((3 * d + 4)) * 64 } (re_Q M (sp_tl K sp_s1 (sp_part K V d) n a p o) s ck cv (fun a p s ck cv => x0 :: x1 :: x2 :: .inr (2, [.ref 4, .ref 8, .int (nI a), .int (nI p)]) :: .inr (4, [.ref 5, .ref 6, .ref 7, .int sz]) :: .inl (0, 401, .inl fk) :: .inl (0, 401, .inl fv) :: x7 :: .inr (0, [.ref 9, .ref 10, .ref 11, .int (nI s), .int rl]) :: .inl (0, 160, .inl (ck)) :: .inl (0, 160, .inl (cv)) :: g)) 0 0 12 [(2, .int (nI (81 - n))), (0, .ref 3), (1, .int (nI e))] [] (x0 :: x1 :: x2 :: .inr (2, [.ref 4, .ref 8, .int (nI a), .int (nI p)]) :: .inr (4, [.ref 5, .ref 6, .ref 7, .int sz]) :: .inl (0, 401, .inl fk) :: .inl (0, 401, .inl fv) :: x7 :: .inr (0, [.ref 9, .ref 10, .ref 11, .int (nI (s + o.length)), .int rl]) :: .inl (0, 160, .inl (co_k ck s o)) :: .inl (0, 160, .inl (co_v cv s o)) :: g) := by
  have hM := ht.2.1
  have i20 : ∀ {j k : Nat}, j ≤ M → k ≤ 20 → (fk j = nI k ↔ K j = k) := fun hj hk => tq_k ht hj hk
  intro n
  induction n with
  | zero =>
    intro a p o hn ha hp80 hp0 ho
    refine rr_iload_n d_Re_readTerm_12 rfl rfl ?_
    refine rr_bipush 80 d_Re_readTerm_13 rfl ?_
    refine rr_icmp_gt 55 d_Re_readTerm_15 (by decide) (fun _ => ?_) (fun c9 => absurd (by decide) c9)
    refine rr_iconst 0 d_Re_readTerm_55 rfl ?_
    exact rr_ireturn d_Re_readTerm_56 rfl rfl (Nat.le_of_ble_eq_true rfl) (Nat.le_of_ble_eq_true rfl) (⟨s + o.length, _, _, rfl, rfl, by omega, fun h => by cases h⟩)
  | succ n ih =>
    intro a p o hn ha hp80 hp0 ho
    refine rr_iload_n d_Re_readTerm_12 rfl rfl ?_
    refine rr_bipush 80 d_Re_readTerm_13 rfl ?_
    refine rr_icmp_gt 55 d_Re_readTerm_15 (by decide) (fun c9 => absurd c9 (nI_nlt (a := 80) (b := 81 - (n + 1)) (by omega) (by omega))) (fun _ => ?_)
    refine rr_aload_n d_Re_readTerm_18 rfl rfl ?_
    refine rr_bipush 16 d_Re_readTerm_19 rfl ?_
    unfold sp_tl
    have go : sp_s1 (K a) = true → rr_A R_Re c_Re_readTerm 3 (some .boolean) (false, none) { frames := (3 * d + 4), cells := 0, slots := 0, locals := ((3 * d + 4)) * 64 } (re_Q M (if (sp_part K V d (a + 1) p).1 = true then sp_tl K sp_s1 (sp_part K V d) n (sp_part K V d (a + 1) p).2.1 (sp_part K V d (a + 1) p).2.2.1 (o ++ (sp_part K V d (a + 1) p).2.2.2 ++ [(K a, 0)]) else (false, (sp_part K V d (a + 1) p).2.1, (sp_part K V d (a + 1) p).2.2.1, o)) s ck cv (fun a p s ck cv => x0 :: x1 :: x2 :: .inr (2, [.ref 4, .ref 8, .int (nI a), .int (nI p)]) :: .inr (4, [.ref 5, .ref 6, .ref 7, .int sz]) :: .inl (0, 401, .inl fk) :: .inl (0, 401, .inl fv) :: x7 :: .inr (0, [.ref 9, .ref 10, .ref 11, .int (nI s), .int rl]) :: .inl (0, 160, .inl (ck)) :: .inl (0, 160, .inl (cv)) :: g)) 0 0 29 [(2, .int (nI (81 - (n + 1)))), (0, .ref 3), (1, .int (nI e))] [] (x0 :: x1 :: x2 :: .inr (2, [.ref 4, .ref 8, .int (nI (a + 1)), .int (nI p)]) :: .inr (4, [.ref 5, .ref 6, .ref 7, .int sz]) :: .inl (0, 401, .inl fk) :: .inl (0, 401, .inl fv) :: x7 :: .inr (0, [.ref 9, .ref 10, .ref 11, .int (nI (s + o.length)), .int rl]) :: .inl (0, 160, .inl (co_k ck s o)) :: .inl (0, 160, .inl (co_v cv s o)) :: g) := by
      intro hsg
      have hl : a < M := by
        rcases Nat.lt_or_ge a M with h | h
        · exact h
        · obtain rfl : a = M := by omega
          rw [ht.1] at hsg
          cases hsg
      have hsd := sp_snd_p (V := V) ht.1 d (a + 1) p hl hp80
      refine rr_aload_n d_Re_readTerm_29 rfl rfl ?_
      refine rr_iload_n d_Re_readTerm_30 rfl rfl ?_
      refine rr_callV d_Re_readTerm_31 il_Re_82 m_Re_readPart (hp (a + 1) p (s + o.length) (co_k ck s o) (co_v cv s o) hl hp80 (by omega)) rfl rfl rfl rfl (Nat.le_of_ble_eq_true rfl) (by dsimp only; omega) (by dsimp only; omega) (Nat.le_of_ble_eq_true rfl) (Nat.le_of_ble_eq_true rfl) (fun r h1 hq => ?_)
      obtain ⟨s2, ck2, cv2, rfl, rfl, hs2, hok⟩ := hq
      by_cases ho1 : (sp_part K V d (a + 1) p).1 = true
      · rw [if_pos ho1, ho1]
        obtain ⟨rfl, rfl, rfl⟩ := hok ho1
        obtain ⟨j1, j2, j3⟩ := hsd.2 ho1
        refine rr_if_ne 39 d_Re_readTerm_34 (by decide) (fun _ => ?_) (fun c9 => absurd c9 (by decide))
        refine rr_aload_n d_Re_readTerm_39 rfl rfl ?_
        refine rr_getf d_Re_readTerm_40 fl_Re_21 rfl rfl ?_
        refine rr_bipush 16 d_Re_readTerm_43 rfl ?_
        refine rr_iconst 0 d_Re_readTerm_45 rfl ?_
        refine rr_callV d_Re_readTerm_46 il_Re_69 m_Co_add (s_Co_add (by omega)) rfl rfl rfl rfl (Nat.le_of_ble_eq_true rfl) (by dsimp only; omega) (by dsimp only; omega) (Nat.le_of_ble_eq_true rfl) (Nat.le_of_ble_eq_true rfl) (fun r h1 hq => ?_)
        obtain ⟨rfl, rfl⟩ := hq
        refine rr_iinc 1 d_Re_readTerm_49 rfl rfl (by decide) ?_
        refine rr_goto 12 d_Re_readTerm_52 (by decide) ?_
        have ka : K a = 16 := by simpa [sp_s1] using hsg
        rw [show (16 : Int32) = nI (K a) by rw [ka]; rfl]
        rw [nI_1, co_k_3 ck s o _ (K a) 0, co_v_3 cv s o _ (K a) 0, co_l_3 s o _ (K a, 0), show 81 - (n + 1) + 1 = 81 - n by omega]
        exact rr_lvs _ rfl (ih _ _ _ (by omega) hsd.1 j2 (by omega) (by simp; omega))
      · rw [if_neg ho1, (Bool.not_eq_true _).mp ho1]
        refine rr_if_ne 39 d_Re_readTerm_34 (by decide) (fun c9 => absurd (rfl) c9) (fun _ => ?_)
        refine rr_iconst 0 d_Re_readTerm_37 rfl ?_
        exact rr_ireturn d_Re_readTerm_38 rfl rfl (Nat.le_of_ble_eq_true rfl) (Nat.le_of_ble_eq_true rfl) (⟨s2, ck2, cv2, rfl, rfl, hs2, fun h => by cases h⟩)
    by_cases k16 : K a = 16
    · have hsg : sp_s1 (K a) = true := by rw [k16]; rfl
      rw [if_pos hsg]
      have e16 : fk a = 16 := (i20 (k := 16) ha (by decide)).mpr k16
      refine rr_callV d_Re_readTerm_21 il_Re_50 m_Re_pass (s_Re_pass_t (by omega) e16) rfl rfl rfl rfl (Nat.le_of_ble_eq_true rfl) (by dsimp only; omega) (by dsimp only; omega) (Nat.le_of_ble_eq_true rfl) (Nat.le_of_ble_eq_true rfl) (fun r h1 hq => ?_)
      obtain ⟨rfl, rfl⟩ := hq
      refine rr_if_ne 29 d_Re_readTerm_24 (by decide) (fun _ => ?_) (fun c9 => absurd c9 (by decide))
      exact go hsg
    · have hsg : ¬ sp_s1 (K a) = true := by simpa [sp_s1] using k16
      rw [if_neg hsg]
      have e16 : ¬ fk a = 16 := fun q => k16 ((i20 (k := 16) ha (by decide)).mp q)
      refine rr_callV d_Re_readTerm_21 il_Re_50 m_Re_pass (s_Re_pass_f (by omega) e16) rfl rfl rfl rfl (Nat.le_of_ble_eq_true rfl) (by dsimp only; omega) (by dsimp only; omega) (Nat.le_of_ble_eq_true rfl) (Nat.le_of_ble_eq_true rfl) (fun r h1 hq => ?_)
      obtain ⟨rfl, rfl⟩ := hq
      refine rr_if_ne 29 d_Re_readTerm_24 (by decide) (fun c9 => absurd (rfl) c9) (fun _ => ?_)
      refine rr_iconst 1 d_Re_readTerm_27 rfl ?_
      exact rr_ireturn d_Re_readTerm_28 rfl rfl (Nat.le_of_ble_eq_true rfl) (Nat.le_of_ble_eq_true rfl) (⟨s + o.length, _, _, rfl, rfl, by omega, fun _ => ⟨rfl, rfl, rfl⟩⟩)

set_option maxRecDepth 100000 in
set_option maxHeartbeats 4000000 in
theorem s_Re_readTerm {x0 x1 x2 x7 : va_E} {g : rr_H} {K : Nat → Nat} {V : Nat → Int32} {M : Nat} {sz rl : Int32} {fk fv : Nat → Int32} {d e : Nat} (ht : tq K V M fk fv) (hp : (∀ (a p s : Nat) (ck cv : Nat → Int32), a ≤ M → p ≤ 80 → s ≤ 2 * p → rr_Spec (3 * d + 3) y_Re_readPart c_Re_readPart 3 (some .boolean) 0 0 [.ref 3, .int (nI e)] (x0 :: x1 :: x2 :: .inr (2, [.ref 4, .ref 8, .int (nI a), .int (nI p)]) :: .inr (4, [.ref 5, .ref 6, .ref 7, .int sz]) :: .inl (0, 401, .inl fk) :: .inl (0, 401, .inl fv) :: x7 :: .inr (0, [.ref 9, .ref 10, .ref 11, .int (nI s), .int rl]) :: .inl (0, 160, .inl (ck)) :: .inl (0, 160, .inl (cv)) :: g) (re_Q M (sp_part K V d a p) s ck cv (fun a p s ck cv => x0 :: x1 :: x2 :: .inr (2, [.ref 4, .ref 8, .int (nI a), .int (nI p)]) :: .inr (4, [.ref 5, .ref 6, .ref 7, .int sz]) :: .inl (0, 401, .inl fk) :: .inl (0, 401, .inl fv) :: x7 :: .inr (0, [.ref 9, .ref 10, .ref 11, .int (nI s), .int rl]) :: .inl (0, 160, .inl (ck)) :: .inl (0, 160, .inl (cv)) :: g)))) : ∀ (a p s : Nat) (ck cv : Nat → Int32), a ≤ M → p ≤ 80 → s ≤ 2 * p → rr_Spec (3 * d + 4) y_Re_readTerm c_Re_readTerm 3 (some .boolean) 0 0 [.ref 3, .int (nI e)] (x0 :: x1 :: x2 :: .inr (2, [.ref 4, .ref 8, .int (nI a), .int (nI p)]) :: .inr (4, [.ref 5, .ref 6, .ref 7, .int sz]) :: .inl (0, 401, .inl fk) :: .inl (0, 401, .inl fv) :: x7 :: .inr (0, [.ref 9, .ref 10, .ref 11, .int (nI s), .int rl]) :: .inl (0, 160, .inl (ck)) :: .inl (0, 160, .inl (cv)) :: g) (re_Q M (sp_term K V d a p) s ck cv (fun a p s ck cv => x0 :: x1 :: x2 :: .inr (2, [.ref 4, .ref 8, .int (nI a), .int (nI p)]) :: .inr (4, [.ref 5, .ref 6, .ref 7, .int sz]) :: .inl (0, 401, .inl fk) :: .inl (0, 401, .inl fv) :: x7 :: .inr (0, [.ref 9, .ref 10, .ref 11, .int (nI s), .int rl]) :: .inl (0, 160, .inl (ck)) :: .inl (0, 160, .inl (cv)) :: g)) := by
  intro a p s ck cv ha hp80 hs
  have hM := ht.2.1
  have hsd := sp_snd_p (V := V) ht.1 d a p ha hp80
  refine rr_met (own := R_Re) (kd := (false, none)) (by decide +kernel) rfl (fun h => by cases h) rfl (Nat.le_of_ble_eq_true rfl) ?_
  refine rr_aload_n d_Re_readTerm_0 rfl rfl ?_
  refine rr_iload_n d_Re_readTerm_1 rfl rfl ?_
  refine rr_callV d_Re_readTerm_2 il_Re_82 m_Re_readPart (hp a p s ck cv ha hp80 hs) rfl rfl rfl rfl (Nat.le_of_ble_eq_true rfl) (by dsimp only; omega) (by dsimp only; omega) (Nat.le_of_ble_eq_true rfl) (Nat.le_of_ble_eq_true rfl) (fun r h1 hq => ?_)
  obtain ⟨s2, ck2, cv2, rfl, rfl, hs2, hok⟩ := hq
  unfold sp_term sp_lp
  by_cases ho1 : (sp_part K V d a p).1 = true
  · rw [if_pos ho1, ho1]
    obtain ⟨rfl, rfl, rfl⟩ := hok ho1
    obtain ⟨j1, j2, j3⟩ := hsd.2 ho1
    refine rr_if_ne 10 d_Re_readTerm_5 (by decide) (fun _ => ?_) (fun c9 => absurd c9 (by decide))
    refine rr_iconst 1 d_Re_readTerm_10 rfl ?_
    refine rr_istore_n d_Re_readTerm_11 rfl (by decide) ?_
    exact rr_lvs _ rfl (l_Re_readTerm ht hp hs 80 _ _ _ (Nat.le_refl _) hsd.1 j2 j1 j3)
  · rw [if_neg ho1, (Bool.not_eq_true _).mp ho1]
    refine rr_if_ne 10 d_Re_readTerm_5 (by decide) (fun c9 => absurd (rfl) c9) (fun _ => ?_)
    refine rr_iconst 0 d_Re_readTerm_8 rfl ?_
    exact rr_ireturn d_Re_readTerm_9 rfl rfl (Nat.le_of_ble_eq_true rfl) (Nat.le_of_ble_eq_true rfl) (⟨s2, ck2, cv2, by rw [(Bool.not_eq_true _).mp ho1]; rfl, rfl, hs2, fun h => absurd h ho1⟩)

set_option maxRecDepth 100000 in
set_option maxHeartbeats 4000000 in
theorem l_Re_readSum {x0 x1 x2 x7 : va_E} {g : rr_H} {K : Nat → Nat} {V : Nat → Int32} {M : Nat} {sz rl : Int32} {fk fv : Nat → Int32} {d e p0 s : Nat} {ck cv : Nat → Int32} (ht : tq K V M fk fv) (hp : (∀ (a p s : Nat) (ck cv : Nat → Int32), a ≤ M → p ≤ 80 → s ≤ 2 * p → rr_Spec (3 * d + 4) y_Re_readTerm c_Re_readTerm 3 (some .boolean) 0 0 [.ref 3, .int (nI e)] (x0 :: x1 :: x2 :: .inr (2, [.ref 4, .ref 8, .int (nI a), .int (nI p)]) :: .inr (4, [.ref 5, .ref 6, .ref 7, .int sz]) :: .inl (0, 401, .inl fk) :: .inl (0, 401, .inl fv) :: x7 :: .inr (0, [.ref 9, .ref 10, .ref 11, .int (nI s), .int rl]) :: .inl (0, 160, .inl (ck)) :: .inl (0, 160, .inl (cv)) :: g) (re_Q M (sp_term K V d a p) s ck cv (fun a p s ck cv => x0 :: x1 :: x2 :: .inr (2, [.ref 4, .ref 8, .int (nI a), .int (nI p)]) :: .inr (4, [.ref 5, .ref 6, .ref 7, .int sz]) :: .inl (0, 401, .inl fk) :: .inl (0, 401, .inl fv) :: x7 :: .inr (0, [.ref 9, .ref 10, .ref 11, .int (nI s), .int rl]) :: .inl (0, 160, .inl (ck)) :: .inl (0, 160, .inl (cv)) :: g)))) (hs : s ≤ 2 * p0) : ∀ (n a p : Nat) (o : List (Nat × Int32)), n ≤ 80 → a ≤ M → p ≤ 80 → p0 < p → o.length + 1 = 2 * (p - p0) → rr_A R_Re c_Re_readSum 4 (some .boolean) (false, none) { frames := (3 * d + 5), cells := 0, slots := 0, locals := ((3 * d + 5)) * 64 } (re_Q M (sp_tl K sp_s2 (sp_term K V d) n a p o) s ck cv (fun a p s ck cv => x0 :: x1 :: x2 :: .inr (2, [.ref 4, .ref 8, .int (nI a), .int (nI p)]) :: .inr (4, [.ref 5, .ref 6, .ref 7, .int sz]) :: .inl (0, 401, .inl fk) :: .inl (0, 401, .inl fv) :: x7 :: .inr (0, [.ref 9, .ref 10, .ref 11, .int (nI s), .int rl]) :: .inl (0, 160, .inl (ck)) :: .inl (0, 160, .inl (cv)) :: g)) 0 0 12 [(2, .int (nI (81 - n))), (0, .ref 3), (1, .int (nI e))] [] (x0 :: x1 :: x2 :: .inr (2, [.ref 4, .ref 8, .int (nI a), .int (nI p)]) :: .inr (4, [.ref 5, .ref 6, .ref 7, .int sz]) :: .inl (0, 401, .inl fk) :: .inl (0, 401, .inl fv) :: x7 :: .inr (0, [.ref 9, .ref 10, .ref 11, .int (nI (s + o.length)), .int rl]) :: .inl (0, 160, .inl (co_k ck s o)) :: .inl (0, 160, .inl (co_v cv s o)) :: g) := by
  have hM := ht.2.1
  have i20 : ∀ {j k : Nat}, j ≤ M → k ≤ 20 → (fk j = nI k ↔ K j = k) := fun hj hk => tq_k ht hj hk
  intro n
  induction n with
  | zero =>
    intro a p o hn ha hp80 hp0 ho
    refine rr_iload_n d_Re_readSum_12 rfl rfl ?_
    refine rr_bipush 80 d_Re_readSum_13 rfl ?_
    refine rr_icmp_gt 76 d_Re_readSum_15 (by decide) (fun _ => ?_) (fun c9 => absurd (by decide) c9)
    refine rr_iconst 0 d_Re_readSum_76 rfl ?_
    exact rr_ireturn d_Re_readSum_77 rfl rfl (Nat.le_of_ble_eq_true rfl) (Nat.le_of_ble_eq_true rfl) (⟨s + o.length, _, _, rfl, rfl, by omega, fun h => by cases h⟩)
  | succ n ih =>
    intro a p o hn ha hp80 hp0 ho
    refine rr_iload_n d_Re_readSum_12 rfl rfl ?_
    refine rr_bipush 80 d_Re_readSum_13 rfl ?_
    refine rr_icmp_gt 76 d_Re_readSum_15 (by decide) (fun c9 => absurd c9 (nI_nlt (a := 80) (b := 81 - (n + 1)) (by omega) (by omega))) (fun _ => ?_)
    refine rr_aload_n d_Re_readSum_18 rfl rfl ?_
    refine rr_getf d_Re_readSum_19 fl_Re_12 rfl rfl ?_
    refine rr_getf d_Re_readSum_22 fl_Re_66 rfl rfl ?_
    refine rr_aload_n d_Re_readSum_25 rfl rfl ?_
    refine rr_getf d_Re_readSum_26 fl_Re_32 rfl rfl ?_
    refine rr_iald d_Re_readSum_29 rfl (vp_in_nI (n := a) (by omega) (by decide)) ?_
    refine rr_istore_n d_Re_readSum_30 rfl (by decide) ?_
    refine rr_aload_n d_Re_readSum_31 rfl rfl ?_
    refine rr_bipush 14 d_Re_readSum_32 rfl ?_
    unfold sp_tl
    have go : sp_s2 (K a) = true → rr_A R_Re c_Re_readSum 4 (some .boolean) (false, none) { frames := (3 * d + 5), cells := 0, slots := 0, locals := ((3 * d + 5)) * 64 } (re_Q M (if (sp_term K V d (a + 1) p).1 = true then sp_tl K sp_s2 (sp_term K V d) n (sp_term K V d (a + 1) p).2.1 (sp_term K V d (a + 1) p).2.2.1 (o ++ (sp_term K V d (a + 1) p).2.2.2 ++ [(K a, 0)]) else (false, (sp_term K V d (a + 1) p).2.1, (sp_term K V d (a + 1) p).2.2.1, o)) s ck cv (fun a p s ck cv => x0 :: x1 :: x2 :: .inr (2, [.ref 4, .ref 8, .int (nI a), .int (nI p)]) :: .inr (4, [.ref 5, .ref 6, .ref 7, .int sz]) :: .inl (0, 401, .inl fk) :: .inl (0, 401, .inl fv) :: x7 :: .inr (0, [.ref 9, .ref 10, .ref 11, .int (nI s), .int rl]) :: .inl (0, 160, .inl (ck)) :: .inl (0, 160, .inl (cv)) :: g)) 0 0 51 ((3, .int (nI (K a))) :: [(2, .int (nI (81 - (n + 1)))), (0, .ref 3), (1, .int (nI e))]) [] (x0 :: x1 :: x2 :: .inr (2, [.ref 4, .ref 8, .int (nI (a + 1)), .int (nI p)]) :: .inr (4, [.ref 5, .ref 6, .ref 7, .int sz]) :: .inl (0, 401, .inl fk) :: .inl (0, 401, .inl fv) :: x7 :: .inr (0, [.ref 9, .ref 10, .ref 11, .int (nI (s + o.length)), .int rl]) :: .inl (0, 160, .inl (co_k ck s o)) :: .inl (0, 160, .inl (co_v cv s o)) :: g) := by
      intro hsg
      have hl : a < M := by
        rcases Nat.lt_or_ge a M with h | h
        · exact h
        · obtain rfl : a = M := by omega
          rw [ht.1] at hsg
          cases hsg
      have hsd := sp_snd_t (V := V) ht.1 d (a + 1) p hl hp80
      refine rr_aload_n d_Re_readSum_51 rfl rfl ?_
      refine rr_iload_n d_Re_readSum_52 rfl rfl ?_
      refine rr_callV d_Re_readSum_53 il_Re_79 m_Re_readTerm (hp (a + 1) p (s + o.length) (co_k ck s o) (co_v cv s o) hl hp80 (by omega)) rfl rfl rfl rfl (Nat.le_of_ble_eq_true rfl) (by dsimp only; omega) (by dsimp only; omega) (Nat.le_of_ble_eq_true rfl) (Nat.le_of_ble_eq_true rfl) (fun r h1 hq => ?_)
      obtain ⟨s2, ck2, cv2, rfl, rfl, hs2, hok⟩ := hq
      by_cases ho1 : (sp_term K V d (a + 1) p).1 = true
      · rw [if_pos ho1, ho1]
        obtain ⟨rfl, rfl, rfl⟩ := hok ho1
        obtain ⟨j1, j2, j3⟩ := hsd.2 ho1
        refine rr_if_ne 61 d_Re_readSum_56 (by decide) (fun _ => ?_) (fun c9 => absurd c9 (by decide))
        refine rr_aload_n d_Re_readSum_61 rfl rfl ?_
        refine rr_getf d_Re_readSum_62 fl_Re_21 rfl rfl ?_
        refine rr_iload_n d_Re_readSum_65 rfl rfl ?_
        refine rr_iconst 0 d_Re_readSum_66 rfl ?_
        refine rr_callV d_Re_readSum_67 il_Re_69 m_Co_add (s_Co_add (by omega)) rfl rfl rfl rfl (Nat.le_of_ble_eq_true rfl) (by dsimp only; omega) (by dsimp only; omega) (Nat.le_of_ble_eq_true rfl) (Nat.le_of_ble_eq_true rfl) (fun r h1 hq => ?_)
        obtain ⟨rfl, rfl⟩ := hq
        refine rr_iinc 1 d_Re_readSum_70 rfl rfl (by decide) ?_
        refine rr_goto 12 d_Re_readSum_73 (by decide) ?_
        rw [nI_1, co_k_3 ck s o _ (K a) 0, co_v_3 cv s o _ (K a) 0, co_l_3 s o _ (K a, 0), show 81 - (n + 1) + 1 = 81 - n by omega]
        exact rr_lvs _ rfl (ih _ _ _ (by omega) hsd.1 j2 (by omega) (by simp; omega))
      · rw [if_neg ho1, (Bool.not_eq_true _).mp ho1]
        refine rr_if_ne 61 d_Re_readSum_56 (by decide) (fun c9 => absurd (rfl) c9) (fun _ => ?_)
        refine rr_iconst 0 d_Re_readSum_59 rfl ?_
        exact rr_ireturn d_Re_readSum_60 rfl rfl (Nat.le_of_ble_eq_true rfl) (Nat.le_of_ble_eq_true rfl) (⟨s2, ck2, cv2, rfl, rfl, hs2, fun h => by cases h⟩)
    rw [nI_clamp (by omega), (ht.2.2.1 a ha).1]
    by_cases k14 : K a = 14
    · have hsg : sp_s2 (K a) = true := by rw [k14]; rfl
      rw [if_pos hsg]
      have e14 : fk a = 14 := (i20 (k := 14) ha (by decide)).mpr k14
      refine rr_callV d_Re_readSum_34 il_Re_50 m_Re_pass (s_Re_pass_t (by omega) e14) rfl rfl rfl rfl (Nat.le_of_ble_eq_true rfl) (by dsimp only; omega) (by dsimp only; omega) (Nat.le_of_ble_eq_true rfl) (Nat.le_of_ble_eq_true rfl) (fun r h1 hq => ?_)
      obtain ⟨rfl, rfl⟩ := hq
      refine rr_if_ne 51 d_Re_readSum_37 (by decide) (fun _ => ?_) (fun c9 => absurd c9 (by decide))
      exact rr_lvs _ rfl (go hsg)
    · have e14 : ¬ fk a = 14 := fun q => k14 ((i20 (k := 14) ha (by decide)).mp q)
      refine rr_callV d_Re_readSum_34 il_Re_50 m_Re_pass (s_Re_pass_f (by omega) e14) rfl rfl rfl rfl (Nat.le_of_ble_eq_true rfl) (by dsimp only; omega) (by dsimp only; omega) (Nat.le_of_ble_eq_true rfl) (Nat.le_of_ble_eq_true rfl) (fun r h1 hq => ?_)
      obtain ⟨rfl, rfl⟩ := hq
      refine rr_if_ne 51 d_Re_readSum_37 (by decide) (fun c9 => absurd (rfl) c9) (fun _ => ?_)
      refine rr_aload_n d_Re_readSum_40 rfl rfl ?_
      refine rr_bipush 15 d_Re_readSum_41 rfl ?_
      by_cases k15 : K a = 15
      · have hsg : sp_s2 (K a) = true := by rw [k15]; rfl
        rw [if_pos hsg]
        have e15 : fk a = 15 := (i20 (k := 15) ha (by decide)).mpr k15
        refine rr_callV d_Re_readSum_43 il_Re_50 m_Re_pass (s_Re_pass_t (by omega) e15) rfl rfl rfl rfl (Nat.le_of_ble_eq_true rfl) (by dsimp only; omega) (by dsimp only; omega) (Nat.le_of_ble_eq_true rfl) (Nat.le_of_ble_eq_true rfl) (fun r h1 hq => ?_)
        obtain ⟨rfl, rfl⟩ := hq
        refine rr_if_ne 51 d_Re_readSum_46 (by decide) (fun _ => ?_) (fun c9 => absurd c9 (by decide))
        exact rr_lvs _ rfl (go hsg)
      · have hsg : ¬ sp_s2 (K a) = true := by simp [sp_s2, k14, k15]
        rw [if_neg hsg]
        have e15 : ¬ fk a = 15 := fun q => k15 ((i20 (k := 15) ha (by decide)).mp q)
        refine rr_callV d_Re_readSum_43 il_Re_50 m_Re_pass (s_Re_pass_f (by omega) e15) rfl rfl rfl rfl (Nat.le_of_ble_eq_true rfl) (by dsimp only; omega) (by dsimp only; omega) (Nat.le_of_ble_eq_true rfl) (Nat.le_of_ble_eq_true rfl) (fun r h1 hq => ?_)
        obtain ⟨rfl, rfl⟩ := hq
        refine rr_if_ne 51 d_Re_readSum_46 (by decide) (fun c9 => absurd (rfl) c9) (fun _ => ?_)
        refine rr_iconst 1 d_Re_readSum_49 rfl ?_
        exact rr_ireturn d_Re_readSum_50 rfl rfl (Nat.le_of_ble_eq_true rfl) (Nat.le_of_ble_eq_true rfl) (⟨s + o.length, _, _, rfl, rfl, by omega, fun _ => ⟨rfl, rfl, rfl⟩⟩)

set_option maxRecDepth 100000 in
set_option maxHeartbeats 4000000 in
theorem s_Re_readSum {x0 x1 x2 x7 : va_E} {g : rr_H} {K : Nat → Nat} {V : Nat → Int32} {M : Nat} {sz rl : Int32} {fk fv : Nat → Int32} {d e : Nat} (ht : tq K V M fk fv) (hp : (∀ (a p s : Nat) (ck cv : Nat → Int32), a ≤ M → p ≤ 80 → s ≤ 2 * p → rr_Spec (3 * d + 4) y_Re_readTerm c_Re_readTerm 3 (some .boolean) 0 0 [.ref 3, .int (nI e)] (x0 :: x1 :: x2 :: .inr (2, [.ref 4, .ref 8, .int (nI a), .int (nI p)]) :: .inr (4, [.ref 5, .ref 6, .ref 7, .int sz]) :: .inl (0, 401, .inl fk) :: .inl (0, 401, .inl fv) :: x7 :: .inr (0, [.ref 9, .ref 10, .ref 11, .int (nI s), .int rl]) :: .inl (0, 160, .inl (ck)) :: .inl (0, 160, .inl (cv)) :: g) (re_Q M (sp_term K V d a p) s ck cv (fun a p s ck cv => x0 :: x1 :: x2 :: .inr (2, [.ref 4, .ref 8, .int (nI a), .int (nI p)]) :: .inr (4, [.ref 5, .ref 6, .ref 7, .int sz]) :: .inl (0, 401, .inl fk) :: .inl (0, 401, .inl fv) :: x7 :: .inr (0, [.ref 9, .ref 10, .ref 11, .int (nI s), .int rl]) :: .inl (0, 160, .inl (ck)) :: .inl (0, 160, .inl (cv)) :: g)))) : ∀ (a p s : Nat) (ck cv : Nat → Int32), a ≤ M → p ≤ 80 → s ≤ 2 * p → rr_Spec (3 * d + 5) y_Re_readSum c_Re_readSum 4 (some .boolean) 0 0 [.ref 3, .int (nI e)] (x0 :: x1 :: x2 :: .inr (2, [.ref 4, .ref 8, .int (nI a), .int (nI p)]) :: .inr (4, [.ref 5, .ref 6, .ref 7, .int sz]) :: .inl (0, 401, .inl fk) :: .inl (0, 401, .inl fv) :: x7 :: .inr (0, [.ref 9, .ref 10, .ref 11, .int (nI s), .int rl]) :: .inl (0, 160, .inl (ck)) :: .inl (0, 160, .inl (cv)) :: g) (re_Q M (sp_sum K V d a p) s ck cv (fun a p s ck cv => x0 :: x1 :: x2 :: .inr (2, [.ref 4, .ref 8, .int (nI a), .int (nI p)]) :: .inr (4, [.ref 5, .ref 6, .ref 7, .int sz]) :: .inl (0, 401, .inl fk) :: .inl (0, 401, .inl fv) :: x7 :: .inr (0, [.ref 9, .ref 10, .ref 11, .int (nI s), .int rl]) :: .inl (0, 160, .inl (ck)) :: .inl (0, 160, .inl (cv)) :: g)) := by
  intro a p s ck cv ha hp80 hs
  have hM := ht.2.1
  have hsd := sp_snd_t (V := V) ht.1 d a p ha hp80
  refine rr_met (own := R_Re) (kd := (false, none)) (by decide +kernel) rfl (fun h => by cases h) rfl (Nat.le_of_ble_eq_true rfl) ?_
  refine rr_aload_n d_Re_readSum_0 rfl rfl ?_
  refine rr_iload_n d_Re_readSum_1 rfl rfl ?_
  refine rr_callV d_Re_readSum_2 il_Re_79 m_Re_readTerm (hp a p s ck cv ha hp80 hs) rfl rfl rfl rfl (Nat.le_of_ble_eq_true rfl) (by dsimp only; omega) (by dsimp only; omega) (Nat.le_of_ble_eq_true rfl) (Nat.le_of_ble_eq_true rfl) (fun r h1 hq => ?_)
  obtain ⟨s2, ck2, cv2, rfl, rfl, hs2, hok⟩ := hq
  unfold sp_sum sp_lp
  by_cases ho1 : (sp_term K V d a p).1 = true
  · rw [if_pos ho1, ho1]
    obtain ⟨rfl, rfl, rfl⟩ := hok ho1
    obtain ⟨j1, j2, j3⟩ := hsd.2 ho1
    refine rr_if_ne 10 d_Re_readSum_5 (by decide) (fun _ => ?_) (fun c9 => absurd c9 (by decide))
    refine rr_iconst 1 d_Re_readSum_10 rfl ?_
    refine rr_istore_n d_Re_readSum_11 rfl (by decide) ?_
    exact rr_lvs _ rfl (l_Re_readSum ht hp hs 80 _ _ _ (Nat.le_refl _) hsd.1 j2 j1 j3)
  · rw [if_neg ho1, (Bool.not_eq_true _).mp ho1]
    refine rr_if_ne 10 d_Re_readSum_5 (by decide) (fun c9 => absurd (rfl) c9) (fun _ => ?_)
    refine rr_iconst 0 d_Re_readSum_8 rfl ?_
    exact rr_ireturn d_Re_readSum_9 rfl rfl (Nat.le_of_ble_eq_true rfl) (Nat.le_of_ble_eq_true rfl) (⟨s2, ck2, cv2, by rw [(Bool.not_eq_true _).mp ho1]; rfl, rfl, hs2, fun h => absurd h ho1⟩)

theorem s_sum_all {x0 x1 x2 x7 : va_E} {g : rr_H} {K : Nat → Nat} {V : Nat → Int32} {M : Nat} {sz rl : Int32} {fk fv : Nat → Int32} (ht : tq K V M fk fv) : ∀ (d e : Nat), e + d = 6 → (∀ (a p s : Nat) (ck cv : Nat → Int32), a ≤ M → p ≤ 80 → s ≤ 2 * p → rr_Spec (3 * d + 5) y_Re_readSum c_Re_readSum 4 (some .boolean) 0 0 [.ref 3, .int (nI e)] (x0 :: x1 :: x2 :: .inr (2, [.ref 4, .ref 8, .int (nI a), .int (nI p)]) :: .inr (4, [.ref 5, .ref 6, .ref 7, .int sz]) :: .inl (0, 401, .inl fk) :: .inl (0, 401, .inl fv) :: x7 :: .inr (0, [.ref 9, .ref 10, .ref 11, .int (nI s), .int rl]) :: .inl (0, 160, .inl (ck)) :: .inl (0, 160, .inl (cv)) :: g) (re_Q M (sp_sum K V d a p) s ck cv (fun a p s ck cv => x0 :: x1 :: x2 :: .inr (2, [.ref 4, .ref 8, .int (nI a), .int (nI p)]) :: .inr (4, [.ref 5, .ref 6, .ref 7, .int sz]) :: .inl (0, 401, .inl fk) :: .inl (0, 401, .inl fv) :: x7 :: .inr (0, [.ref 9, .ref 10, .ref 11, .int (nI s), .int rl]) :: .inl (0, 160, .inl (ck)) :: .inl (0, 160, .inl (cv)) :: g)))
  | 0, e, he => by
    obtain rfl : e = 6 := by omega
    exact s_Re_readSum ht (s_Re_readTerm ht (s_Re_readPart_0 ht))
  | d + 1, e, he => s_Re_readSum (d := d + 1) ht (s_Re_readTerm ht (s_Re_readPart_1 ht (by omega) (s_sum_all ht d (e + 1) (by omega))))
