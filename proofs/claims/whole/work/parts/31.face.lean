/-! The face: run, undo; making. -/

set_option maxRecDepth 100000 in
set_option maxHeartbeats 4000000 in
theorem s_Ru_run {x1 x2 x3 x4 x5 x6 x7 x8 x9 x10 x11 : va_E} {g0 : rr_H} {r g : Nat} {s0 sv sp : Int32} {fc cc cf cb ck cv re : Nat → Int32} {us : List sp_U} {hg ef : Int32} {fs ec ev : Nat → Int32} (hco : co_is us ck cv re) (hgu : ∀ u ∈ us, gu u) (hr : r ≤ 200) (hg2 : r < 200 → g + 8 ≤ 1600) : rr_Spec 4 y_Ru_run c_Ru_run 3 (some .int) 0 0 [.ref 0, .int sv, .int sp] (.inr (5, [.ref 1, .ref 3, .ref 12, .ref 20]) :: x1 :: x2 :: x3 :: x4 :: x5 :: x6 :: x7 :: x8 :: x9 :: x10 :: x11 :: .inr (1, [.ref 13, .ref 14, .int hg, .ref 15, .ref 16, .int ef, .ref 17, .ref 18, .int (nI g), .ref 19, .int (nI r)]) :: .inl (0, 32, .inl (fc)) :: .inl (0, 80, .inl (fs)) :: .inl (0, 8, .inl (ec)) :: .inl (0, 8, .inl (ev)) :: .inl (0, 1600, .inl (cc)) :: .inl (0, 1600, .inl (cf)) :: .inl (0, 200, .inl (cb)) :: .inr (0, [.ref 21, .ref 22, .ref 23, .int s0, .int (nI us.length)]) :: .inl (0, 160, .inl ck) :: .inl (0, 160, .inl cv) :: .inl (0, 6, .inl re) :: g0) (fun rv h1 => if us.length = 0 then rv = some (.int (-2)) ∧ h1 = .inr (5, [.ref 1, .ref 3, .ref 12, .ref 20]) :: x1 :: x2 :: x3 :: x4 :: x5 :: x6 :: x7 :: x8 :: x9 :: x10 :: x11 :: .inr (1, [.ref 13, .ref 14, .int hg, .ref 15, .ref 16, .int ef, .ref 17, .ref 18, .int (nI g), .ref 19, .int (nI r)]) :: .inl (0, 32, .inl (fc)) :: .inl (0, 80, .inl (fs)) :: .inl (0, 8, .inl (ec)) :: .inl (0, 8, .inl (ev)) :: .inl (0, 1600, .inl (cc)) :: .inl (0, 1600, .inl (cf)) :: .inl (0, 200, .inl (cb)) :: .inr (0, [.ref 21, .ref 22, .ref 23, .int s0, .int (nI us.length)]) :: .inl (0, 160, .inl ck) :: .inl (0, 160, .inl cv) :: .inl (0, 6, .inl re) :: g0 else if r < 200 then (fun rv h1 => ∃ (hg2 ef2 : Int32) (fs2 ec2 ev2 : Nat → Int32), (sp_pick fc sv sp us 0 = none ∧ rv = some (.int 0) ∧ h1 = .inr (5, [.ref 1, .ref 3, .ref 12, .ref 20]) :: x1 :: x2 :: x3 :: x4 :: x5 :: x6 :: x7 :: x8 :: x9 :: x10 :: x11 :: .inr (1, [.ref 13, .ref 14, .int hg2, .ref 15, .ref 16, .int ef2, .ref 17, .ref 18, .int (nI g), .ref 19, .int (nI (r + 1))]) :: .inl (0, 32, .inl (fc)) :: .inl (0, 80, .inl (fs2)) :: .inl (0, 8, .inl (ec2)) :: .inl (0, 8, .inl (ev2)) :: .inl (0, 1600, .inl (cc)) :: .inl (0, 1600, .inl (cf)) :: .inl (0, 200, .inl ((upd cb r (nI g)))) :: .inr (0, [.ref 21, .ref 22, .ref 23, .int s0, .int (nI us.length)]) :: .inl (0, 160, .inl ck) :: .inl (0, 160, .inl cv) :: .inl (0, 6, .inl re) :: g0) ∨ ∃ (k2 : Nat) (L2 : List (Nat × Int32)), sp_pick fc sv sp us 0 = some (k2, L2) ∧ rv = some (.int (nI k2)) ∧ h1 = .inr (5, [.ref 1, .ref 3, .ref 12, .ref 20]) :: x1 :: x2 :: x3 :: x4 :: x5 :: x6 :: x7 :: x8 :: x9 :: x10 :: x11 :: .inr (1, [.ref 13, .ref 14, .int hg2, .ref 15, .ref 16, .int ef2, .ref 17, .ref 18, .int (nI (g + L2.length)), .ref 19, .int (nI (r + 1))]) :: .inl (0, 32, .inl (ch_c L2 fc)) :: .inl (0, 80, .inl (fs2)) :: .inl (0, 8, .inl (ec2)) :: .inl (0, 8, .inl (ev2)) :: .inl (0, 1600, .inl (ch_k L2 cc g)) :: .inl (0, 1600, .inl (ch_v L2 fc cf g)) :: .inl (0, 200, .inl ((upd cb r (nI g)))) :: .inr (0, [.ref 21, .ref 22, .ref 23, .int s0, .int (nI us.length)]) :: .inl (0, 160, .inl ck) :: .inl (0, 160, .inl cv) :: .inl (0, 6, .inl re) :: g0) rv h1 else rv = some (.int (-3)) ∧ h1 = .inr (5, [.ref 1, .ref 3, .ref 12, .ref 20]) :: x1 :: x2 :: x3 :: x4 :: x5 :: x6 :: x7 :: x8 :: x9 :: x10 :: x11 :: .inr (1, [.ref 13, .ref 14, .int hg, .ref 15, .ref 16, .int ef, .ref 17, .ref 18, .int (nI g), .ref 19, .int (nI r)]) :: .inl (0, 32, .inl (fc)) :: .inl (0, 80, .inl (fs)) :: .inl (0, 8, .inl (ec)) :: .inl (0, 8, .inl (ev)) :: .inl (0, 1600, .inl (cc)) :: .inl (0, 1600, .inl (cf)) :: .inl (0, 200, .inl (cb)) :: .inr (0, [.ref 21, .ref 22, .ref 23, .int s0, .int (nI us.length)]) :: .inl (0, 160, .inl ck) :: .inl (0, 160, .inl cv) :: .inl (0, 6, .inl re) :: g0) := by
  refine rr_met (own := R_Ru) (kd := (false, none)) (by decide +kernel) rfl (fun h => by cases h) rfl (Nat.le_of_ble_eq_true rfl) ?_
  refine rr_aload_n d_Ru_run_0 rfl rfl ?_
  refine rr_getf d_Ru_run_1 fl_Ru_33 rfl rfl ?_
  refine rr_getf d_Ru_run_4 fl_Ru_53 rfl rfl ?_
  by_cases h0 : us.length = 0
  · simp only [if_pos h0]
    refine rr_if_ne 15 d_Ru_run_7 (by decide) (fun c9 => absurd (by rw [h0]; rfl) c9) (fun _ => ?_)
    refine rr_bipush (-2) d_Ru_run_10 rfl ?_
    refine rr_goto 28 d_Ru_run_12 (by decide) ?_
    exact rr_ireturn d_Ru_run_28 rfl rfl (Nat.le_of_ble_eq_true rfl) (Nat.le_of_ble_eq_true rfl) (⟨rfl, rfl⟩)
  · simp only [if_neg h0]
    have h6 := hco.1
    refine rr_if_ne 15 d_Ru_run_7 (by decide) (fun _ => ?_) (fun c9 => absurd c9 (nI_ne0 (by omega) (by omega)))
    refine rr_aload_n d_Ru_run_15 rfl rfl ?_
    refine rr_getf d_Ru_run_16 fl_Ru_26 rfl rfl ?_
    refine rr_aload_n d_Ru_run_19 rfl rfl ?_
    refine rr_getf d_Ru_run_20 fl_Ru_33 rfl rfl ?_
    refine rr_iload_n d_Ru_run_23 rfl rfl ?_
    refine rr_iload_n d_Ru_run_24 rfl rfl ?_
    refine rr_callV d_Ru_run_25 il_Ru_56 m_Ma_perform (s_Ma_perform hco hgu hr hg2) rfl rfl rfl rfl (Nat.le_of_ble_eq_true rfl) (Nat.le_of_ble_eq_true rfl) (Nat.le_of_ble_eq_true rfl) (Nat.le_of_ble_eq_true rfl) (Nat.le_of_ble_eq_true rfl) (fun rv9 hp9 hq => ?_)
    by_cases hr2 : r < 200
    · rw [if_pos hr2] at hq
      obtain ⟨hg2, ef2, fs2, ec2, ev2, ⟨e1, rfl, rfl⟩ | ⟨k2, L2, e1, rfl, rfl⟩⟩ := hq
      · simp only [if_pos hr2]
        exact rr_ireturn d_Ru_run_28 rfl rfl (Nat.le_of_ble_eq_true rfl) (Nat.le_of_ble_eq_true rfl) (⟨_, _, _, _, _, Or.inl ⟨e1, rfl, rfl⟩⟩)
      · simp only [if_pos hr2]
        exact rr_ireturn d_Ru_run_28 rfl rfl (Nat.le_of_ble_eq_true rfl) (Nat.le_of_ble_eq_true rfl) (⟨_, _, _, _, _, Or.inr ⟨_, _, e1, rfl, rfl⟩⟩)
    · rw [if_neg hr2] at hq
      obtain ⟨rfl, rfl⟩ := hq
      simp only [if_neg hr2]
      exact rr_ireturn d_Ru_run_28 rfl rfl (Nat.le_of_ble_eq_true rfl) (Nat.le_of_ble_eq_true rfl) (⟨rfl, rfl⟩)

set_option maxRecDepth 100000 in
set_option maxHeartbeats 4000000 in
theorem s_Ru_undo {x1 x2 x3 x4 x5 x6 x7 x8 x9 x10 x11 x14 x15 x16 : va_E} {g0 : rr_H} {r g lo : Nat} {hg ef : Int32} {fc cc cf cb : Nat → Int32} (hr : r ≤ 200) (hlo : 0 < r → cb (r - 1) = nI lo ∧ lo ≤ g) (hc : ∀ i, i < g → ∃ c : Nat, c < 32 ∧ cc i = nI c) (hg2 : g ≤ 1600) : rr_Spec 1 y_Ru_undo c_Ru_undo 1 (some .int) 0 0 [.ref 0] (.inr (5, [.ref 1, .ref 3, .ref 12, .ref 20]) :: x1 :: x2 :: x3 :: x4 :: x5 :: x6 :: x7 :: x8 :: x9 :: x10 :: x11 :: .inr (1, [.ref 13, .ref 14, .int hg, .ref 15, .ref 16, .int ef, .ref 17, .ref 18, .int (nI g), .ref 19, .int (nI r)]) :: .inl (0, 32, .inl (fc)) :: x14 :: x15 :: x16 :: .inl (0, 1600, .inl (cc)) :: .inl (0, 1600, .inl (cf)) :: .inl (0, 200, .inl (cb)) :: g0) (fun rv h1 => if r = 0 then rv = some (.int (-2)) ∧ h1 = .inr (5, [.ref 1, .ref 3, .ref 12, .ref 20]) :: x1 :: x2 :: x3 :: x4 :: x5 :: x6 :: x7 :: x8 :: x9 :: x10 :: x11 :: .inr (1, [.ref 13, .ref 14, .int hg, .ref 15, .ref 16, .int ef, .ref 17, .ref 18, .int (nI g), .ref 19, .int (nI r)]) :: .inl (0, 32, .inl (fc)) :: x14 :: x15 :: x16 :: .inl (0, 1600, .inl (cc)) :: .inl (0, 1600, .inl (cf)) :: .inl (0, 200, .inl (cb)) :: g0 else rv = some (.int (nI (r - 1))) ∧ h1 = .inr (5, [.ref 1, .ref 3, .ref 12, .ref 20]) :: x1 :: x2 :: x3 :: x4 :: x5 :: x6 :: x7 :: x8 :: x9 :: x10 :: x11 :: .inr (1, [.ref 13, .ref 14, .int hg, .ref 15, .ref 16, .int ef, .ref 17, .ref 18, .int (nI lo), .ref 19, .int (nI (r - 1))]) :: .inl (0, 32, .inl (rb cc cf lo (g - lo) fc)) :: x14 :: x15 :: x16 :: .inl (0, 1600, .inl (cc)) :: .inl (0, 1600, .inl (cf)) :: .inl (0, 200, .inl (cb)) :: g0) := by
  refine rr_met (own := R_Ru) (kd := (false, none)) (by decide +kernel) rfl (fun h => by cases h) rfl (Nat.le_of_ble_eq_true rfl) ?_
  refine rr_aload_n d_Ru_undo_0 rfl rfl ?_
  refine rr_getf d_Ru_undo_1 fl_Ru_26 rfl rfl ?_
  refine rr_callV d_Ru_undo_4 il_Ru_60 m_Ma_takeBack (s_Ma_takeBack hr hlo hc hg2) rfl rfl rfl rfl (Nat.le_of_ble_eq_true rfl) (Nat.le_of_ble_eq_true rfl) (Nat.le_of_ble_eq_true rfl) (Nat.le_of_ble_eq_true rfl) (Nat.le_of_ble_eq_true rfl) (fun rv9 hp9 hq => ?_)
  by_cases h0 : r = 0
  · rw [if_pos h0] at hq
    obtain ⟨rfl, rfl⟩ := hq
    simp only [if_pos h0]
    exact rr_ireturn d_Ru_undo_7 rfl rfl (Nat.le_of_ble_eq_true rfl) (Nat.le_of_ble_eq_true rfl) (⟨rfl, rfl⟩)
  · rw [if_neg h0] at hq
    obtain ⟨rfl, rfl⟩ := hq
    simp only [if_neg h0]
    exact rr_ireturn d_Ru_undo_7 rfl rfl (Nat.le_of_ble_eq_true rfl) (Nat.le_of_ble_eq_true rfl) (⟨rfl, rfl⟩)

set_option maxRecDepth 100000 in
set_option maxHeartbeats 4000000 in
theorem s_Ta_init {x0 : va_E} : rr_Spec 1 y_Ta_init c_Ta_init 1 none 1 400 [.ref 1] (x0 :: .inr (3, [.null, .int 0]) :: []) (fun r h1 => r = none ∧ h1 = x0 :: .inr (3, [.ref 2, .int 0]) :: .inl (1, 400, .inl (fun _ => 0)) :: []) := by
  refine rr_met (own := R_Ta) (kd := (true, none)) (by decide +kernel) rfl (fun _ => rfl) rfl (Nat.le_of_ble_eq_true rfl) ?_
  refine rr_aload_n d_Ta_init_0 rfl rfl ?_
  refine rr_objInit d_Ta_init_1 ol_Ta_3 (Nat.le_of_ble_eq_true rfl) (Nat.le_of_ble_eq_true rfl) ?_
  refine rr_aload_n d_Ta_init_4 rfl rfl ?_
  refine rr_sipush 400 d_Ta_init_5 rfl ?_
  refine rr_newB (400) d_Ta_init_8 (by decide) (by decide) (Nat.le_of_ble_eq_true rfl) (Nat.le_of_ble_eq_true rfl) (Nat.le_of_ble_eq_true rfl) (Nat.le_of_ble_eq_true rfl) ?_
  refine rr_putF d_Ta_init_10 rfl fF_Ta_9 rfl rfl rfl ?_
  exact rr_return d_Ta_init_13 rfl (Nat.le_of_ble_eq_true rfl) (Nat.le_of_ble_eq_true rfl) (⟨rfl, rfl⟩)

set_option maxRecDepth 100000 in
set_option maxHeartbeats 4000000 in
theorem s_To_init {x0 x1 x2 x3 : va_E} : rr_Spec 1 y_To_init c_To_init 1 none 3 1203 [.ref 4] (x0 :: x1 :: x2 :: x3 :: .inr (4, [.null, .null, .null, .int 0]) :: []) (fun r h1 => r = none ∧ h1 = x0 :: x1 :: x2 :: x3 :: .inr (4, [.ref 5, .ref 6, .ref 7, .int 0]) :: .inl (0, 401, .inl (fun _ => 0)) :: .inl (0, 401, .inl (fun _ => 0)) :: .inl (0, 401, .inl (fun _ => 0)) :: []) := by
  refine rr_met (own := R_To) (kd := (true, none)) (by decide +kernel) rfl (fun _ => rfl) rfl (Nat.le_of_ble_eq_true rfl) ?_
  refine rr_aload_n d_To_init_0 rfl rfl ?_
  refine rr_objInit d_To_init_1 ol_To_3 (Nat.le_of_ble_eq_true rfl) (Nat.le_of_ble_eq_true rfl) ?_
  refine rr_aload_n d_To_init_4 rfl rfl ?_
  refine rr_sipush 401 d_To_init_5 rfl ?_
  refine rr_newI (401) d_To_init_8 (by decide) (by decide) (Nat.le_of_ble_eq_true rfl) (Nat.le_of_ble_eq_true rfl) (Nat.le_of_ble_eq_true rfl) (Nat.le_of_ble_eq_true rfl) ?_
  refine rr_putF d_To_init_10 rfl fF_To_9 rfl rfl rfl ?_
  refine rr_aload_n d_To_init_13 rfl rfl ?_
  refine rr_sipush 401 d_To_init_14 rfl ?_
  refine rr_newI (401) d_To_init_17 (by decide) (by decide) (Nat.le_of_ble_eq_true rfl) (Nat.le_of_ble_eq_true rfl) (Nat.le_of_ble_eq_true rfl) (Nat.le_of_ble_eq_true rfl) ?_
  refine rr_putF d_To_init_19 rfl fF_To_15 rfl rfl rfl ?_
  refine rr_aload_n d_To_init_22 rfl rfl ?_
  refine rr_sipush 401 d_To_init_23 rfl ?_
  refine rr_newI (401) d_To_init_26 (by decide) (by decide) (Nat.le_of_ble_eq_true rfl) (Nat.le_of_ble_eq_true rfl) (Nat.le_of_ble_eq_true rfl) (Nat.le_of_ble_eq_true rfl) ?_
  refine rr_putF d_To_init_28 rfl fF_To_18 rfl rfl rfl ?_
  exact rr_return d_To_init_31 rfl (Nat.le_of_ble_eq_true rfl) (Nat.le_of_ble_eq_true rfl) (⟨rfl, rfl⟩)

set_option maxRecDepth 100000 in
set_option maxHeartbeats 4000000 in
theorem s_Co_init_8 {x0 x1 x2 x3 x4 x5 x6 x7 : va_E} : rr_Spec 1 y_Co_init c_Co_init 1 none 3 326 [.ref 8] (x0 :: x1 :: x2 :: x3 :: x4 :: x5 :: x6 :: x7 :: .inr (0, [.null, .null, .null, .int 0, .int 0]) :: []) (fun r h1 => r = none ∧ h1 = x0 :: x1 :: x2 :: x3 :: x4 :: x5 :: x6 :: x7 :: .inr (0, [.ref 9, .ref 10, .ref 11, .int 0, .int 0]) :: .inl (0, 160, .inl (fun _ => 0)) :: .inl (0, 160, .inl (fun _ => 0)) :: .inl (0, 6, .inl (fun _ => 0)) :: []) := by
  refine rr_met (own := R_Co) (kd := (true, none)) (by decide +kernel) rfl (fun _ => rfl) rfl (Nat.le_of_ble_eq_true rfl) ?_
  refine rr_aload_n d_Co_init_0 rfl rfl ?_
  refine rr_objInit d_Co_init_1 ol_Co_3 (Nat.le_of_ble_eq_true rfl) (Nat.le_of_ble_eq_true rfl) ?_
  refine rr_aload_n d_Co_init_4 rfl rfl ?_
  refine rr_sipush 160 d_Co_init_5 rfl ?_
  refine rr_newI (160) d_Co_init_8 (by decide) (by decide) (Nat.le_of_ble_eq_true rfl) (Nat.le_of_ble_eq_true rfl) (Nat.le_of_ble_eq_true rfl) (Nat.le_of_ble_eq_true rfl) ?_
  refine rr_putF d_Co_init_10 rfl fF_Co_9 rfl rfl rfl ?_
  refine rr_aload_n d_Co_init_13 rfl rfl ?_
  refine rr_sipush 160 d_Co_init_14 rfl ?_
  refine rr_newI (160) d_Co_init_17 (by decide) (by decide) (Nat.le_of_ble_eq_true rfl) (Nat.le_of_ble_eq_true rfl) (Nat.le_of_ble_eq_true rfl) (Nat.le_of_ble_eq_true rfl) ?_
  refine rr_putF d_Co_init_19 rfl fF_Co_15 rfl rfl rfl ?_
  refine rr_aload_n d_Co_init_22 rfl rfl ?_
  refine rr_bipush 6 d_Co_init_23 rfl ?_
  refine rr_newI (6) d_Co_init_25 (by decide) (by decide) (Nat.le_of_ble_eq_true rfl) (Nat.le_of_ble_eq_true rfl) (Nat.le_of_ble_eq_true rfl) (Nat.le_of_ble_eq_true rfl) ?_
  refine rr_putF d_Co_init_27 rfl fF_Co_18 rfl rfl rfl ?_
  exact rr_return d_Co_init_30 rfl (Nat.le_of_ble_eq_true rfl) (Nat.le_of_ble_eq_true rfl) (⟨rfl, rfl⟩)

set_option maxRecDepth 100000 in
set_option maxHeartbeats 4000000 in
theorem s_Co_init_20 {x0 x1 x2 x3 x4 x5 x6 x7 x8 x9 x10 x11 x12 x13 x14 x15 x16 x17 x18 x19 : va_E} : rr_Spec 1 y_Co_init c_Co_init 1 none 3 326 [.ref 20] (x0 :: x1 :: x2 :: x3 :: x4 :: x5 :: x6 :: x7 :: x8 :: x9 :: x10 :: x11 :: x12 :: x13 :: x14 :: x15 :: x16 :: x17 :: x18 :: x19 :: .inr (0, [.null, .null, .null, .int 0, .int 0]) :: []) (fun r h1 => r = none ∧ h1 = x0 :: x1 :: x2 :: x3 :: x4 :: x5 :: x6 :: x7 :: x8 :: x9 :: x10 :: x11 :: x12 :: x13 :: x14 :: x15 :: x16 :: x17 :: x18 :: x19 :: .inr (0, [.ref 21, .ref 22, .ref 23, .int 0, .int 0]) :: .inl (0, 160, .inl (fun _ => 0)) :: .inl (0, 160, .inl (fun _ => 0)) :: .inl (0, 6, .inl (fun _ => 0)) :: []) := by
  refine rr_met (own := R_Co) (kd := (true, none)) (by decide +kernel) rfl (fun _ => rfl) rfl (Nat.le_of_ble_eq_true rfl) ?_
  refine rr_aload_n d_Co_init_0 rfl rfl ?_
  refine rr_objInit d_Co_init_1 ol_Co_3 (Nat.le_of_ble_eq_true rfl) (Nat.le_of_ble_eq_true rfl) ?_
  refine rr_aload_n d_Co_init_4 rfl rfl ?_
  refine rr_sipush 160 d_Co_init_5 rfl ?_
  refine rr_newI (160) d_Co_init_8 (by decide) (by decide) (Nat.le_of_ble_eq_true rfl) (Nat.le_of_ble_eq_true rfl) (Nat.le_of_ble_eq_true rfl) (Nat.le_of_ble_eq_true rfl) ?_
  refine rr_putF d_Co_init_10 rfl fF_Co_9 rfl rfl rfl ?_
  refine rr_aload_n d_Co_init_13 rfl rfl ?_
  refine rr_sipush 160 d_Co_init_14 rfl ?_
  refine rr_newI (160) d_Co_init_17 (by decide) (by decide) (Nat.le_of_ble_eq_true rfl) (Nat.le_of_ble_eq_true rfl) (Nat.le_of_ble_eq_true rfl) (Nat.le_of_ble_eq_true rfl) ?_
  refine rr_putF d_Co_init_19 rfl fF_Co_15 rfl rfl rfl ?_
  refine rr_aload_n d_Co_init_22 rfl rfl ?_
  refine rr_bipush 6 d_Co_init_23 rfl ?_
  refine rr_newI (6) d_Co_init_25 (by decide) (by decide) (Nat.le_of_ble_eq_true rfl) (Nat.le_of_ble_eq_true rfl) (Nat.le_of_ble_eq_true rfl) (Nat.le_of_ble_eq_true rfl) ?_
  refine rr_putF d_Co_init_27 rfl fF_Co_18 rfl rfl rfl ?_
  exact rr_return d_Co_init_30 rfl (Nat.le_of_ble_eq_true rfl) (Nat.le_of_ble_eq_true rfl) (⟨rfl, rfl⟩)

set_option maxRecDepth 100000 in
set_option maxHeartbeats 4000000 in
theorem s_Ma_init {x0 x1 x2 x3 x4 x5 x6 x7 x8 x9 x10 x11 : va_E} : rr_Spec 1 y_Ma_init c_Ma_init 1 none 7 3528 [.ref 12] (x0 :: x1 :: x2 :: x3 :: x4 :: x5 :: x6 :: x7 :: x8 :: x9 :: x10 :: x11 :: .inr (1, [.null, .null, .int 0, .null, .null, .int 0, .null, .null, .int 0, .null, .int 0]) :: []) (fun r h1 => r = none ∧ h1 = x0 :: x1 :: x2 :: x3 :: x4 :: x5 :: x6 :: x7 :: x8 :: x9 :: x10 :: x11 :: .inr (1, [.ref 13, .ref 14, .int 0, .ref 15, .ref 16, .int 0, .ref 17, .ref 18, .int 0, .ref 19, .int 0]) :: .inl (0, 32, .inl (fun _ => 0)) :: .inl (0, 80, .inl (fun _ => 0)) :: .inl (0, 8, .inl (fun _ => 0)) :: .inl (0, 8, .inl (fun _ => 0)) :: .inl (0, 1600, .inl (fun _ => 0)) :: .inl (0, 1600, .inl (fun _ => 0)) :: .inl (0, 200, .inl (fun _ => 0)) :: []) := by
  refine rr_met (own := R_Ma) (kd := (true, none)) (by decide +kernel) rfl (fun _ => rfl) rfl (Nat.le_of_ble_eq_true rfl) ?_
  refine rr_aload_n d_Ma_init_0 rfl rfl ?_
  refine rr_objInit d_Ma_init_1 ol_Ma_3 (Nat.le_of_ble_eq_true rfl) (Nat.le_of_ble_eq_true rfl) ?_
  refine rr_aload_n d_Ma_init_4 rfl rfl ?_
  refine rr_bipush 32 d_Ma_init_5 rfl ?_
  refine rr_newI (32) d_Ma_init_7 (by decide) (by decide) (Nat.le_of_ble_eq_true rfl) (Nat.le_of_ble_eq_true rfl) (Nat.le_of_ble_eq_true rfl) (Nat.le_of_ble_eq_true rfl) ?_
  refine rr_putF d_Ma_init_9 rfl fF_Ma_9 rfl rfl rfl ?_
  refine rr_aload_n d_Ma_init_12 rfl rfl ?_
  refine rr_bipush 80 d_Ma_init_13 rfl ?_
  refine rr_newI (80) d_Ma_init_15 (by decide) (by decide) (Nat.le_of_ble_eq_true rfl) (Nat.le_of_ble_eq_true rfl) (Nat.le_of_ble_eq_true rfl) (Nat.le_of_ble_eq_true rfl) ?_
  refine rr_putF d_Ma_init_17 rfl fF_Ma_15 rfl rfl rfl ?_
  refine rr_aload_n d_Ma_init_20 rfl rfl ?_
  refine rr_bipush 8 d_Ma_init_21 rfl ?_
  refine rr_newI (8) d_Ma_init_23 (by decide) (by decide) (Nat.le_of_ble_eq_true rfl) (Nat.le_of_ble_eq_true rfl) (Nat.le_of_ble_eq_true rfl) (Nat.le_of_ble_eq_true rfl) ?_
  refine rr_putF d_Ma_init_25 rfl fF_Ma_18 rfl rfl rfl ?_
  refine rr_aload_n d_Ma_init_28 rfl rfl ?_
  refine rr_bipush 8 d_Ma_init_29 rfl ?_
  refine rr_newI (8) d_Ma_init_31 (by decide) (by decide) (Nat.le_of_ble_eq_true rfl) (Nat.le_of_ble_eq_true rfl) (Nat.le_of_ble_eq_true rfl) (Nat.le_of_ble_eq_true rfl) ?_
  refine rr_putF d_Ma_init_33 rfl fF_Ma_21 rfl rfl rfl ?_
  refine rr_aload_n d_Ma_init_36 rfl rfl ?_
  refine rr_sipush 1600 d_Ma_init_37 rfl ?_
  refine rr_newI (1600) d_Ma_init_40 (by decide) (by decide) (Nat.le_of_ble_eq_true rfl) (Nat.le_of_ble_eq_true rfl) (Nat.le_of_ble_eq_true rfl) (Nat.le_of_ble_eq_true rfl) ?_
  refine rr_putF d_Ma_init_42 rfl fF_Ma_24 rfl rfl rfl ?_
  refine rr_aload_n d_Ma_init_45 rfl rfl ?_
  refine rr_sipush 1600 d_Ma_init_46 rfl ?_
  refine rr_newI (1600) d_Ma_init_49 (by decide) (by decide) (Nat.le_of_ble_eq_true rfl) (Nat.le_of_ble_eq_true rfl) (Nat.le_of_ble_eq_true rfl) (Nat.le_of_ble_eq_true rfl) ?_
  refine rr_putF d_Ma_init_51 rfl fF_Ma_27 rfl rfl rfl ?_
  refine rr_aload_n d_Ma_init_54 rfl rfl ?_
  refine rr_sipush 200 d_Ma_init_55 rfl ?_
  refine rr_newI (200) d_Ma_init_58 (by decide) (by decide) (Nat.le_of_ble_eq_true rfl) (Nat.le_of_ble_eq_true rfl) (Nat.le_of_ble_eq_true rfl) (Nat.le_of_ble_eq_true rfl) ?_
  refine rr_putF d_Ma_init_60 rfl fF_Ma_30 rfl rfl rfl ?_
  exact rr_return d_Ma_init_63 rfl (Nat.le_of_ble_eq_true rfl) (Nat.le_of_ble_eq_true rfl) (⟨rfl, rfl⟩)

set_option maxRecDepth 100000 in
set_option maxHeartbeats 4000000 in
theorem s_Re_init {x0 x1 x2 : va_E} : rr_Spec 2 y_Re_init c_Re_init 1 none 8 1538 [.ref 3] (x0 :: x1 :: x2 :: .inr (2, [.null, .null, .int 0, .int 0]) :: []) (fun r h1 => r = none ∧ h1 = x0 :: x1 :: x2 :: .inr (2, [.ref 4, .ref 8, .int 0, .int 0]) :: .inr (4, [.ref 5, .ref 6, .ref 7, .int 0]) :: .inl (0, 401, .inl (fun _ => 0)) :: .inl (0, 401, .inl (fun _ => 0)) :: .inl (0, 401, .inl (fun _ => 0)) :: .inr (0, [.ref 9, .ref 10, .ref 11, .int 0, .int 0]) :: .inl (0, 160, .inl (fun _ => 0)) :: .inl (0, 160, .inl (fun _ => 0)) :: .inl (0, 6, .inl (fun _ => 0)) :: []) := by
  refine rr_met (own := R_Re) (kd := (true, none)) (by decide +kernel) rfl (fun _ => rfl) rfl (Nat.le_of_ble_eq_true rfl) ?_
  refine rr_aload_n d_Re_init_0 rfl rfl ?_
  refine rr_objInit d_Re_init_1 ol_Re_3 (Nat.le_of_ble_eq_true rfl) (Nat.le_of_ble_eq_true rfl) ?_
  refine rr_aload_n d_Re_init_4 rfl rfl ?_
  refine rr_new d_Re_init_5 nl_Re_9 (Nat.le_of_ble_eq_true rfl) (Nat.le_of_ble_eq_true rfl) (Nat.le_of_ble_eq_true rfl) ?_
  refine rr_dup d_Re_init_8 rfl ?_
  refine rr_callI d_Re_init_9 il_Re_11 m_To_init (s_To_init) rfl rfl (Nat.le_of_ble_eq_true rfl) (Nat.le_of_ble_eq_true rfl) (Nat.le_of_ble_eq_true rfl) (Nat.le_of_ble_eq_true rfl) (Nat.le_of_ble_eq_true rfl) (fun rv9 hp9 hq => ?_)
  obtain ⟨rfl, rfl⟩ := hq
  refine rr_putF d_Re_init_12 rfl fF_Re_12 rfl rfl rfl ?_
  refine rr_aload_n d_Re_init_15 rfl rfl ?_
  refine rr_new d_Re_init_16 nl_Re_18 (Nat.le_of_ble_eq_true rfl) (Nat.le_of_ble_eq_true rfl) (Nat.le_of_ble_eq_true rfl) ?_
  refine rr_dup d_Re_init_19 rfl ?_
  refine rr_callI d_Re_init_20 il_Re_20 m_Co_init (s_Co_init_8) rfl rfl (Nat.le_of_ble_eq_true rfl) (Nat.le_of_ble_eq_true rfl) (Nat.le_of_ble_eq_true rfl) (Nat.le_of_ble_eq_true rfl) (Nat.le_of_ble_eq_true rfl) (fun rv9 hp9 hq => ?_)
  obtain ⟨rfl, rfl⟩ := hq
  refine rr_putf d_Re_init_23 fl_Re_21 rfl rfl rfl rfl ?_
  exact rr_return d_Re_init_26 rfl (Nat.le_of_ble_eq_true rfl) (Nat.le_of_ble_eq_true rfl) (⟨rfl, rfl⟩)

set_option maxRecDepth 100000 in
set_option maxHeartbeats 4000000 in
theorem s_Ru_init  : rr_Spec 3 y_Ru_init c_Ru_init 1 none 23 5814 [.ref 0] (.inr (5, [.null, .null, .null, .null]) :: []) (fun r h1 => r = none ∧ h1 = .inr (5, [.ref 1, .ref 3, .ref 12, .ref 20]) :: .inr (3, [.ref 2, .int 0]) :: .inl (1, 400, .inl (fun _ => 0)) :: .inr (2, [.ref 4, .ref 8, .int 0, .int 0]) :: .inr (4, [.ref 5, .ref 6, .ref 7, .int 0]) :: .inl (0, 401, .inl (fun _ => 0)) :: .inl (0, 401, .inl (fun _ => 0)) :: .inl (0, 401, .inl (fun _ => 0)) :: .inr (0, [.ref 9, .ref 10, .ref 11, .int 0, .int 0]) :: .inl (0, 160, .inl (fun _ => 0)) :: .inl (0, 160, .inl (fun _ => 0)) :: .inl (0, 6, .inl (fun _ => 0)) :: .inr (1, [.ref 13, .ref 14, .int 0, .ref 15, .ref 16, .int 0, .ref 17, .ref 18, .int 0, .ref 19, .int 0]) :: .inl (0, 32, .inl (fun _ => 0)) :: .inl (0, 80, .inl (fun _ => 0)) :: .inl (0, 8, .inl (fun _ => 0)) :: .inl (0, 8, .inl (fun _ => 0)) :: .inl (0, 1600, .inl (fun _ => 0)) :: .inl (0, 1600, .inl (fun _ => 0)) :: .inl (0, 200, .inl (fun _ => 0)) :: .inr (0, [.ref 21, .ref 22, .ref 23, .int 0, .int 0]) :: .inl (0, 160, .inl (fun _ => 0)) :: .inl (0, 160, .inl (fun _ => 0)) :: .inl (0, 6, .inl (fun _ => 0)) :: []) := by
  refine rr_met (own := R_Ru) (kd := (true, none)) (by decide +kernel) rfl (fun _ => rfl) rfl (Nat.le_of_ble_eq_true rfl) ?_
  refine rr_aload_n d_Ru_init_0 rfl rfl ?_
  refine rr_objInit d_Ru_init_1 ol_Ru_3 (Nat.le_of_ble_eq_true rfl) (Nat.le_of_ble_eq_true rfl) ?_
  refine rr_aload_n d_Ru_init_4 rfl rfl ?_
  refine rr_new d_Ru_init_5 nl_Ru_9 (Nat.le_of_ble_eq_true rfl) (Nat.le_of_ble_eq_true rfl) (Nat.le_of_ble_eq_true rfl) ?_
  refine rr_dup d_Ru_init_8 rfl ?_
  refine rr_callI d_Ru_init_9 il_Ru_11 m_Ta_init (s_Ta_init) rfl rfl (Nat.le_of_ble_eq_true rfl) (Nat.le_of_ble_eq_true rfl) (Nat.le_of_ble_eq_true rfl) (Nat.le_of_ble_eq_true rfl) (Nat.le_of_ble_eq_true rfl) (fun rv9 hp9 hq => ?_)
  obtain ⟨rfl, rfl⟩ := hq
  refine rr_putF d_Ru_init_12 rfl fF_Ru_12 rfl rfl rfl ?_
  refine rr_aload_n d_Ru_init_15 rfl rfl ?_
  refine rr_new d_Ru_init_16 nl_Ru_16 (Nat.le_of_ble_eq_true rfl) (Nat.le_of_ble_eq_true rfl) (Nat.le_of_ble_eq_true rfl) ?_
  refine rr_dup d_Ru_init_19 rfl ?_
  refine rr_callI d_Ru_init_20 il_Ru_18 m_Re_init (s_Re_init) rfl rfl (Nat.le_of_ble_eq_true rfl) (Nat.le_of_ble_eq_true rfl) (Nat.le_of_ble_eq_true rfl) (Nat.le_of_ble_eq_true rfl) (Nat.le_of_ble_eq_true rfl) (fun rv9 hp9 hq => ?_)
  obtain ⟨rfl, rfl⟩ := hq
  refine rr_putF d_Ru_init_23 rfl fF_Ru_19 rfl rfl rfl ?_
  refine rr_aload_n d_Ru_init_26 rfl rfl ?_
  refine rr_new d_Ru_init_27 nl_Ru_23 (Nat.le_of_ble_eq_true rfl) (Nat.le_of_ble_eq_true rfl) (Nat.le_of_ble_eq_true rfl) ?_
  refine rr_dup d_Ru_init_30 rfl ?_
  refine rr_callI d_Ru_init_31 il_Ru_25 m_Ma_init (s_Ma_init) rfl rfl (Nat.le_of_ble_eq_true rfl) (Nat.le_of_ble_eq_true rfl) (Nat.le_of_ble_eq_true rfl) (Nat.le_of_ble_eq_true rfl) (Nat.le_of_ble_eq_true rfl) (fun rv9 hp9 hq => ?_)
  obtain ⟨rfl, rfl⟩ := hq
  refine rr_putF d_Ru_init_34 rfl fF_Ru_26 rfl rfl rfl ?_
  refine rr_aload_n d_Ru_init_37 rfl rfl ?_
  refine rr_new d_Ru_init_38 nl_Ru_30 (Nat.le_of_ble_eq_true rfl) (Nat.le_of_ble_eq_true rfl) (Nat.le_of_ble_eq_true rfl) ?_
  refine rr_dup d_Ru_init_41 rfl ?_
  refine rr_callI d_Ru_init_42 il_Ru_32 m_Co_init (s_Co_init_20) rfl rfl (Nat.le_of_ble_eq_true rfl) (Nat.le_of_ble_eq_true rfl) (Nat.le_of_ble_eq_true rfl) (Nat.le_of_ble_eq_true rfl) (Nat.le_of_ble_eq_true rfl) (fun rv9 hp9 hq => ?_)
  obtain ⟨rfl, rfl⟩ := hq
  refine rr_putf d_Ru_init_45 fl_Ru_33 rfl rfl rfl rfl ?_
  exact rr_return d_Ru_init_48 rfl (Nat.le_of_ble_eq_true rfl) (Nat.le_of_ble_eq_true rfl) (⟨rfl, rfl⟩)
