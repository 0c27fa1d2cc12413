/-! The reference: parts, terms, sums. -/
def en1 (q : Nat × Int32) : List Int32 := if q.1 = 9 then [0, q.2] else if q.1 = 8 then [1, q.2] else if q.1 = 6 then [2] else if q.1 = 7 then [3] else if q.1 = 14 then [4] else if q.1 = 15 then [5] else [6]
def en (x : sp_I) : List Int32 := x.flatMap en1
theorem en1_len (q : Nat × Int32) : (en1 q).length ≤ 2 := by
  unfold en1
  repeat' split
  all_goals (first | exact Nat.le_refl 2 | exact Nat.le_succ 1)
theorem en_app (a b : sp_I) : en (a ++ b) = en a ++ en b := List.flatMap_append
theorem en_len : ∀ (x : sp_I), (en x).length ≤ 2 * x.length
  | [] => Nat.zero_le _
  | q :: x => by
    have h1 := en1_len q
    have h2 := en_len x
    show (en1 q ++ en x).length ≤ 2 * (x.length + 1)
    rw [List.length_append]
    omega
/-- what a reading method of the reference answers and does -/
def mo_Q (f : Nat → Int32) (n : Nat) (R : sp_R) (y : Nat) (cd : Nat → Int32) (mkh : Nat → Int64 → Int32 → Int32 → Nat → (Nat → Int32) → rr_H) : Option Value → rr_H → Prop := fun r h1 => ∃ (nu2 : Int64) (pa2 : Int32) (y2 : Nat) (cd2 : Nat → Int32), r = some (.int (sp_b R.1)) ∧ h1 = mkh R.2.1 nu2 (cond R.1 (-1) (nI (sp_T f n R.2.1).2.2.1)) pa2 y2 cd2 ∧ (sp_K f n R.2.1 = 9 → nu2 = (sp_V f n R.2.1).toInt64) ∧ (R.1 = true → pa2 = nI R.2.2.1 ∧ y2 = y + (en R.2.2.2).length ∧ cd2 = sp_wr cd y (en R.2.2.2))
theorem mk_9 {k : Nat} : nI (mk k) = 2 ↔ k = 9 := by
  constructor
  · intro h
    have h2 := (nI_eq (b := 2) (by have := mk_le k; omega) (by decide)).mp h
    unfold mk at h2
    repeat' split at h2
    all_goals first | assumption | exact absurd h2 (by decide)
  · rintro rfl
    rfl
theorem i64_32 (x : Int32) : x.toInt64.toInt32 = x := Int32.toInt32_toInt64 x
theorem i64_lt (x : Int32) : lg_cmp x.toInt64 32 < 0 ↔ x < 32 := by
  have e1 : x.toInt64.toInt = x.toInt := Int32.toInt_toInt64 x
  have e2 : (32 : Int64).toInt = 32 := by decide
  have e3 : (32 : Int32).toInt = 32 := by decide
  have k1 : x.toInt64 < 32 ↔ x < 32 := by rw [Int64.lt_iff_toInt_lt, Int32.lt_iff_toInt_lt, e1, e2, e3]
  have k2 : (32 : Int64) < x.toInt64 ↔ 32 < x.toInt := by rw [Int64.lt_iff_toInt_lt, e1, e2]
  unfold lg_cmp
  by_cases h : (32 : Int64) < x.toInt64
  · rw [if_pos h]
    refine ⟨fun q => absurd q (by decide), fun q => ?_⟩
    rw [Int32.lt_iff_toInt_lt, e3] at q
    have := k2.mp h
    omega
  · rw [if_neg h]
    by_cases h2 : x.toInt64 = 32
    · rw [if_pos h2]
      refine ⟨fun q => absurd q (by decide), fun q => ?_⟩
      have := k1.mpr q
      rw [h2] at this
      exact absurd this (by decide)
    · rw [if_neg h2]
      refine ⟨fun _ => k1.mp ?_, fun _ => by decide⟩
      rw [Int64.lt_iff_toInt_lt]
      have h3 : ¬ (32 : Int64).toInt < x.toInt64.toInt := fun q => h (Int64.lt_iff_toInt_lt.mpr q)
      have h4 : ¬ x.toInt64.toInt = (32 : Int64).toInt := fun q => h2 (Int64.toInt_inj.mp q)
      omega

theorem u_is_t {x0 x1 x2 x3 x4 x5 x6 x7 x8 x9 x10 x11 x12 x13 x14 x15 x16 x17 x18 x19 x20 x21 x22 x23 x26 : va_E} {g : rr_H} {tm ru pcv : Int32} {lt : Value} {f : Nat → Int32} {n : Nat} {nu : Int64} {pa : Int32} {t y : Nat} {cd : Nat → Int32} {fa : Int32} (j : Nat) (hj : j < 18) (hn : n ≤ 400) (h : sp_K f n t = kj j) : rr_Spec 4 y_Mo_is c_Mo_is 3 (some .boolean) 0 0 [.ref 24, .ref (rr_K0 + j)] (x0 :: x1 :: x2 :: x3 :: x4 :: x5 :: x6 :: x7 :: x8 :: x9 :: x10 :: x11 :: x12 :: x13 :: x14 :: x15 :: x16 :: x17 :: x18 :: x19 :: x20 :: x21 :: x22 :: x23 :: .inr (6, [.ref 25, .int tm, lt, .ref 26, .int ru, .int (nI (sp_T f n t).2.2.2), .int (nI n), .int (nI (mk (sp_T f n t).1)), .int (nI (sp_T f n t).2.2.1), .int (nI (sp_T f n t).2.2.2), .int fa, .int pa, .long nu, .ref 27, .int (nI y), .ref 28, .ref 29, .ref 30, .ref 31, .int pcv]) :: .inl (1, 400, .inl f) :: x26 :: .inl (0, 1600, .inl (cd)) :: g) (fun r h1 => r = some (.int 1) ∧ h1 = x0 :: x1 :: x2 :: x3 :: x4 :: x5 :: x6 :: x7 :: x8 :: x9 :: x10 :: x11 :: x12 :: x13 :: x14 :: x15 :: x16 :: x17 :: x18 :: x19 :: x20 :: x21 :: x22 :: x23 :: .inr (6, [.ref 25, .int tm, lt, .ref 26, .int ru, .int (nI (sp_T f n t).2.2.2), .int (nI n), .int (nI (mk (sp_T f n t).1)), .int (nI (sp_T f n t).2.2.1), .int (nI (sp_T f n t).2.2.2), .int fa, .int pa, .long nu, .ref 27, .int (nI y), .ref 28, .ref 29, .ref 30, .ref 31, .int pcv]) :: .inl (1, 400, .inl f) :: x26 :: .inl (0, 1600, .inl (cd)) :: g) := by
  have := t_is (x0 := x0) (x1 := x1) (x2 := x2) (x3 := x3) (x4 := x4) (x5 := x5) (x6 := x6) (x7 := x7) (x8 := x8) (x9 := x9) (x10 := x10) (x11 := x11) (x12 := x12) (x13 := x13) (x14 := x14) (x15 := x15) (x16 := x16) (x17 := x17) (x18 := x18) (x19 := x19) (x20 := x20) (x21 := x21) (x22 := x22) (x23 := x23) (g := x26 :: .inl (0, 1600, .inl cd) :: g) (tm := tm) (ru := ru) (fa := fa) (pa := pa) (my := nI y) (pcv := pcv) (lt := lt) (nu := nu) (f := f) (n := n) (t := t) j hj hn
  rw [show decide (sp_K f n t = kj j) = true from decide_eq_true h] at this
  exact this

theorem u_is_f {x0 x1 x2 x3 x4 x5 x6 x7 x8 x9 x10 x11 x12 x13 x14 x15 x16 x17 x18 x19 x20 x21 x22 x23 x26 : va_E} {g : rr_H} {tm ru pcv : Int32} {lt : Value} {f : Nat → Int32} {n : Nat} {nu : Int64} {pa : Int32} {t y : Nat} {cd : Nat → Int32} {fa : Int32} (j : Nat) (hj : j < 18) (hn : n ≤ 400) (h : ¬ sp_K f n t = kj j) : rr_Spec 4 y_Mo_is c_Mo_is 3 (some .boolean) 0 0 [.ref 24, .ref (rr_K0 + j)] (x0 :: x1 :: x2 :: x3 :: x4 :: x5 :: x6 :: x7 :: x8 :: x9 :: x10 :: x11 :: x12 :: x13 :: x14 :: x15 :: x16 :: x17 :: x18 :: x19 :: x20 :: x21 :: x22 :: x23 :: .inr (6, [.ref 25, .int tm, lt, .ref 26, .int ru, .int (nI (sp_T f n t).2.2.2), .int (nI n), .int (nI (mk (sp_T f n t).1)), .int (nI (sp_T f n t).2.2.1), .int (nI (sp_T f n t).2.2.2), .int fa, .int pa, .long nu, .ref 27, .int (nI y), .ref 28, .ref 29, .ref 30, .ref 31, .int pcv]) :: .inl (1, 400, .inl f) :: x26 :: .inl (0, 1600, .inl (cd)) :: g) (fun r h1 => r = some (.int 0) ∧ h1 = x0 :: x1 :: x2 :: x3 :: x4 :: x5 :: x6 :: x7 :: x8 :: x9 :: x10 :: x11 :: x12 :: x13 :: x14 :: x15 :: x16 :: x17 :: x18 :: x19 :: x20 :: x21 :: x22 :: x23 :: .inr (6, [.ref 25, .int tm, lt, .ref 26, .int ru, .int (nI (sp_T f n t).2.2.2), .int (nI n), .int (nI (mk (sp_T f n t).1)), .int (nI (sp_T f n t).2.2.1), .int (nI (sp_T f n t).2.2.2), .int fa, .int pa, .long nu, .ref 27, .int (nI y), .ref 28, .ref 29, .ref 30, .ref 31, .int pcv]) :: .inl (1, 400, .inl f) :: x26 :: .inl (0, 1600, .inl (cd)) :: g) := by
  have := t_is (x0 := x0) (x1 := x1) (x2 := x2) (x3 := x3) (x4 := x4) (x5 := x5) (x6 := x6) (x7 := x7) (x8 := x8) (x9 := x9) (x10 := x10) (x11 := x11) (x12 := x12) (x13 := x13) (x14 := x14) (x15 := x15) (x16 := x16) (x17 := x17) (x18 := x18) (x19 := x19) (x20 := x20) (x21 := x21) (x22 := x22) (x23 := x23) (g := x26 :: .inl (0, 1600, .inl cd) :: g) (tm := tm) (ru := ru) (fa := fa) (pa := pa) (my := nI y) (pcv := pcv) (lt := lt) (nu := nu) (f := f) (n := n) (t := t) j hj hn
  rw [show decide (sp_K f n t = kj j) = false from decide_eq_false h] at this
  exact this

set_option maxRecDepth 100000 in
set_option maxHeartbeats 4000000 in
theorem u_take_t {x0 x1 x2 x3 x4 x5 x6 x7 x8 x9 x10 x11 x12 x13 x14 x15 x16 x17 x18 x19 x20 x21 x22 x23 x26 : va_E} {g : rr_H} {tm ru pcv : Int32} {lt : Value} {f : Nat → Int32} {n : Nat} {nu : Int64} {pa : Int32} {t y : Nat} {cd : Nat → Int32} (j : Nat) (hj : j < 18) (hn : n ≤ 400) (h : sp_K f n t = kj j) : rr_Spec 6 y_Mo_take c_Mo_take 2 (some .boolean) 0 0 [.ref 24, .ref (rr_K0 + j)] (x0 :: x1 :: x2 :: x3 :: x4 :: x5 :: x6 :: x7 :: x8 :: x9 :: x10 :: x11 :: x12 :: x13 :: x14 :: x15 :: x16 :: x17 :: x18 :: x19 :: x20 :: x21 :: x22 :: x23 :: .inr (6, [.ref 25, .int tm, lt, .ref 26, .int ru, .int (nI (sp_T f n t).2.2.2), .int (nI n), .int (nI (mk (sp_T f n t).1)), .int (nI (sp_T f n t).2.2.1), .int (nI (sp_T f n t).2.2.2), .int (-1), .int pa, .long nu, .ref 27, .int (nI y), .ref 28, .ref 29, .ref 30, .ref 31, .int pcv]) :: .inl (1, 400, .inl f) :: x26 :: .inl (0, 1600, .inl (cd)) :: g) (fun r h1 => r = some (.int 1) ∧ ∃ nu2 : Int64, (sp_K f n (t + 1) = 9 → nu2 = (sp_V f n (t + 1)).toInt64) ∧ h1 = x0 :: x1 :: x2 :: x3 :: x4 :: x5 :: x6 :: x7 :: x8 :: x9 :: x10 :: x11 :: x12 :: x13 :: x14 :: x15 :: x16 :: x17 :: x18 :: x19 :: x20 :: x21 :: x22 :: x23 :: .inr (6, [.ref 25, .int tm, lt, .ref 26, .int ru, .int (nI (sp_T f n (t + 1)).2.2.2), .int (nI n), .int (nI (mk (sp_T f n (t + 1)).1)), .int (nI (sp_T f n (t + 1)).2.2.1), .int (nI (sp_T f n (t + 1)).2.2.2), .int (-1), .int pa, .long nu2, .ref 27, .int (nI y), .ref 28, .ref 29, .ref 30, .ref 31, .int pcv]) :: .inl (1, 400, .inl f) :: x26 :: .inl (0, 1600, .inl (cd)) :: g) := by
  refine rr_met (own := R_Mo) (kd := (false, none)) (by decide +kernel) rfl (fun h => by cases h) rfl (Nat.le_of_ble_eq_true rfl) ?_
  refine rr_aload_n d_Mo_take_0 rfl rfl ?_
  refine rr_aload_n d_Mo_take_1 rfl rfl ?_
  refine rr_callV d_Mo_take_2 il_Mo_61 m_Mo_is (u_is_t j hj hn h) rfl rfl rfl rfl (Nat.le_of_ble_eq_true rfl) (Nat.le_of_ble_eq_true rfl) (Nat.le_of_ble_eq_true rfl) (Nat.le_of_ble_eq_true rfl) (Nat.le_of_ble_eq_true rfl) (fun rv9 hp9 hq => ?_)
  obtain ⟨rfl, rfl⟩ := hq
  refine rr_if_ne 13 d_Mo_take_5 (by decide) (fun _ => ?_) (fun c9 => absurd c9 (by decide))
  refine rr_aload_n d_Mo_take_13 rfl rfl ?_
  refine rr_callV d_Mo_take_14 il_Mo_117 m_Mo_step (t_step hn) rfl rfl rfl rfl (Nat.le_of_ble_eq_true rfl) (Nat.le_of_ble_eq_true rfl) (Nat.le_of_ble_eq_true rfl) (Nat.le_of_ble_eq_true rfl) (Nat.le_of_ble_eq_true rfl) (fun rv9 hp9 hq => ?_)
  obtain ⟨rfl, nu2, h9, rfl⟩ := hq
  refine rr_iconst 1 d_Mo_take_17 rfl ?_
  exact rr_ireturn d_Mo_take_18 rfl rfl (Nat.le_of_ble_eq_true rfl) (Nat.le_of_ble_eq_true rfl) (⟨rfl, nu2, h9, rfl⟩)

set_option maxRecDepth 100000 in
set_option maxHeartbeats 4000000 in
theorem u_take_f {x0 x1 x2 x3 x4 x5 x6 x7 x8 x9 x10 x11 x12 x13 x14 x15 x16 x17 x18 x19 x20 x21 x22 x23 x26 : va_E} {g : rr_H} {tm ru pcv : Int32} {lt : Value} {f : Nat → Int32} {n : Nat} {nu : Int64} {pa : Int32} {t y : Nat} {cd : Nat → Int32} (j : Nat) (hj : j < 18) (hn : n ≤ 400) (h : ¬ sp_K f n t = kj j) : rr_Spec 6 y_Mo_take c_Mo_take 2 (some .boolean) 0 0 [.ref 24, .ref (rr_K0 + j)] (x0 :: x1 :: x2 :: x3 :: x4 :: x5 :: x6 :: x7 :: x8 :: x9 :: x10 :: x11 :: x12 :: x13 :: x14 :: x15 :: x16 :: x17 :: x18 :: x19 :: x20 :: x21 :: x22 :: x23 :: .inr (6, [.ref 25, .int tm, lt, .ref 26, .int ru, .int (nI (sp_T f n t).2.2.2), .int (nI n), .int (nI (mk (sp_T f n t).1)), .int (nI (sp_T f n t).2.2.1), .int (nI (sp_T f n t).2.2.2), .int (-1), .int pa, .long nu, .ref 27, .int (nI y), .ref 28, .ref 29, .ref 30, .ref 31, .int pcv]) :: .inl (1, 400, .inl f) :: x26 :: .inl (0, 1600, .inl (cd)) :: g) (fun r h1 => r = some (.int 0) ∧ h1 = x0 :: x1 :: x2 :: x3 :: x4 :: x5 :: x6 :: x7 :: x8 :: x9 :: x10 :: x11 :: x12 :: x13 :: x14 :: x15 :: x16 :: x17 :: x18 :: x19 :: x20 :: x21 :: x22 :: x23 :: .inr (6, [.ref 25, .int tm, lt, .ref 26, .int ru, .int (nI (sp_T f n t).2.2.2), .int (nI n), .int (nI (mk (sp_T f n t).1)), .int (nI (sp_T f n t).2.2.1), .int (nI (sp_T f n t).2.2.2), .int (nI (sp_T f n t).2.2.1), .int pa, .long nu, .ref 27, .int (nI y), .ref 28, .ref 29, .ref 30, .ref 31, .int pcv]) :: .inl (1, 400, .inl f) :: x26 :: .inl (0, 1600, .inl (cd)) :: g) := by
  refine rr_met (own := R_Mo) (kd := (false, none)) (by decide +kernel) rfl (fun h => by cases h) rfl (Nat.le_of_ble_eq_true rfl) ?_
  refine rr_aload_n d_Mo_take_0 rfl rfl ?_
  refine rr_aload_n d_Mo_take_1 rfl rfl ?_
  refine rr_callV d_Mo_take_2 il_Mo_61 m_Mo_is (u_is_f j hj hn h) rfl rfl rfl rfl (Nat.le_of_ble_eq_true rfl) (Nat.le_of_ble_eq_true rfl) (Nat.le_of_ble_eq_true rfl) (Nat.le_of_ble_eq_true rfl) (Nat.le_of_ble_eq_true rfl) (fun rv9 hp9 hq => ?_)
  obtain ⟨rfl, rfl⟩ := hq
  refine rr_if_ne 13 d_Mo_take_5 (by decide) (fun c9 => absurd (rfl) c9) (fun _ => ?_)
  refine rr_aload_n d_Mo_take_8 rfl rfl ?_
  refine rr_callV d_Mo_take_9 il_Mo_113 m_Mo_bad (t_bad) rfl rfl rfl rfl (Nat.le_of_ble_eq_true rfl) (Nat.le_of_ble_eq_true rfl) (Nat.le_of_ble_eq_true rfl) (Nat.le_of_ble_eq_true rfl) (Nat.le_of_ble_eq_true rfl) (fun rv9 hp9 hq => ?_)
  obtain ⟨rfl, rfl⟩ := hq
  exact rr_ireturn d_Mo_take_12 rfl rfl (Nat.le_of_ble_eq_true rfl) (Nat.le_of_ble_eq_true rfl) (⟨rfl, rfl⟩)

set_option maxRecDepth 100000 in
set_option maxHeartbeats 4000000 in
theorem u_cell {x0 x1 x2 x3 x4 x5 x6 x7 x8 x9 x10 x11 x12 x13 x14 x15 x16 x17 x18 x19 x20 x21 x22 x23 x26 : va_E} {g : rr_H} {tm ru pcv : Int32} {lt : Value} {f : Nat → Int32} {n : Nat} {nu : Int64} {pa : Int32} {t y : Nat} {cd : Nat → Int32} (hn : n ≤ 400) (hy : y < 1600) (h9 : sp_K f n t = 9 → nu = (sp_V f n t).toInt64) : rr_Spec 7 y_Mo_cellZ c_Mo_cellZ 1 (some .boolean) 0 0 [.ref 24] (x0 :: x1 :: x2 :: x3 :: x4 :: x5 :: x6 :: x7 :: x8 :: x9 :: x10 :: x11 :: x12 :: x13 :: x14 :: x15 :: x16 :: x17 :: x18 :: x19 :: x20 :: x21 :: x22 :: x23 :: .inr (6, [.ref 25, .int tm, lt, .ref 26, .int ru, .int (nI (sp_T f n t).2.2.2), .int (nI n), .int (nI (mk (sp_T f n t).1)), .int (nI (sp_T f n t).2.2.1), .int (nI (sp_T f n t).2.2.2), .int (-1), .int pa, .long nu, .ref 27, .int (nI y), .ref 28, .ref 29, .ref 30, .ref 31, .int pcv]) :: .inl (1, 400, .inl f) :: x26 :: .inl (0, 1600, .inl (cd)) :: g) (fun r h1 => ∃ (nu2 : Int64) (y2 : Nat) (cd2 : Nat → Int32), r = some (.int (sp_b ((if sp_K f n t = 8 then (if sp_K f n (t + 1) = 9 ∧ sp_V f n (t + 1) < 32 then (true, t + 2) else (false, t + 1)) else (false, t) : Bool × Nat)).1)) ∧ h1 = x0 :: x1 :: x2 :: x3 :: x4 :: x5 :: x6 :: x7 :: x8 :: x9 :: x10 :: x11 :: x12 :: x13 :: x14 :: x15 :: x16 :: x17 :: x18 :: x19 :: x20 :: x21 :: x22 :: x23 :: .inr (6, [.ref 25, .int tm, lt, .ref 26, .int ru, .int (nI (sp_T f n ((if sp_K f n t = 8 then (if sp_K f n (t + 1) = 9 ∧ sp_V f n (t + 1) < 32 then (true, t + 2) else (false, t + 1)) else (false, t) : Bool × Nat)).2).2.2.2), .int (nI n), .int (nI (mk (sp_T f n ((if sp_K f n t = 8 then (if sp_K f n (t + 1) = 9 ∧ sp_V f n (t + 1) < 32 then (true, t + 2) else (false, t + 1)) else (false, t) : Bool × Nat)).2).1)), .int (nI (sp_T f n ((if sp_K f n t = 8 then (if sp_K f n (t + 1) = 9 ∧ sp_V f n (t + 1) < 32 then (true, t + 2) else (false, t + 1)) else (false, t) : Bool × Nat)).2).2.2.1), .int (nI (sp_T f n ((if sp_K f n t = 8 then (if sp_K f n (t + 1) = 9 ∧ sp_V f n (t + 1) < 32 then (true, t + 2) else (false, t + 1)) else (false, t) : Bool × Nat)).2).2.2.2), .int (cond ((if sp_K f n t = 8 then (if sp_K f n (t + 1) = 9 ∧ sp_V f n (t + 1) < 32 then (true, t + 2) else (false, t + 1)) else (false, t) : Bool × Nat)).1 (-1) (nI (sp_T f n ((if sp_K f n t = 8 then (if sp_K f n (t + 1) = 9 ∧ sp_V f n (t + 1) < 32 then (true, t + 2) else (false, t + 1)) else (false, t) : Bool × Nat)).2).2.2.1)), .int pa, .long nu2, .ref 27, .int (nI y2), .ref 28, .ref 29, .ref 30, .ref 31, .int pcv]) :: .inl (1, 400, .inl f) :: x26 :: .inl (0, 1600, .inl (cd2)) :: g ∧ (sp_K f n ((if sp_K f n t = 8 then (if sp_K f n (t + 1) = 9 ∧ sp_V f n (t + 1) < 32 then (true, t + 2) else (false, t + 1)) else (false, t) : Bool × Nat)).2 = 9 → nu2 = (sp_V f n ((if sp_K f n t = 8 then (if sp_K f n (t + 1) = 9 ∧ sp_V f n (t + 1) < 32 then (true, t + 2) else (false, t + 1)) else (false, t) : Bool × Nat)).2).toInt64) ∧ (((if sp_K f n t = 8 then (if sp_K f n (t + 1) = 9 ∧ sp_V f n (t + 1) < 32 then (true, t + 2) else (false, t + 1)) else (false, t) : Bool × Nat)).1 = true → y2 = y + 1 ∧ cd2 = upd cd y (sp_V f n (t + 1)))) := by
  refine rr_met (own := R_Mo) (kd := (false, none)) (by decide +kernel) rfl (fun h => by cases h) rfl (Nat.le_of_ble_eq_true rfl) ?_
  refine rr_aload_n d_Mo_cellZ_0 rfl rfl ?_
  refine rr_ldcS d_Mo_cellZ_1 sl_Mo_75 ?_
  by_cases k8 : sp_K f n t = 8
  · simp only [if_pos k8]
    refine rr_callV d_Mo_cellZ_3 il_Mo_145 m_Mo_take (u_take_t 6 (by decide) hn k8) rfl rfl rfl rfl (Nat.le_of_ble_eq_true rfl) (Nat.le_of_ble_eq_true rfl) (Nat.le_of_ble_eq_true rfl) (Nat.le_of_ble_eq_true rfl) (Nat.le_of_ble_eq_true rfl) (fun rv9 hp9 hq => ?_)
    obtain ⟨rfl, nu2, h92, rfl⟩ := hq
    refine rr_if_ne 11 d_Mo_cellZ_6 (by decide) (fun _ => ?_) (fun c9 => absurd c9 (by decide))
    refine rr_aload_n d_Mo_cellZ_11 rfl rfl ?_
    refine rr_getf d_Mo_cellZ_12 fl_Mo_49 rfl rfl ?_
    refine rr_iconst 2 d_Mo_cellZ_15 rfl ?_
    by_cases k9 : sp_K f n (t + 1) = 9 ∧ sp_V f n (t + 1) < 32
    · simp only [if_pos k9]
      obtain rfl := h92 k9.1
      refine rr_icmp_ne 30 d_Mo_cellZ_16 (by decide) (fun c9 => absurd (mk_9.mpr k9.1) c9) (fun _ => ?_)
      refine rr_aload_n d_Mo_cellZ_19 rfl rfl ?_
      refine rr_getf d_Mo_cellZ_20 fl_Mo_80 rfl rfl ?_
      refine rr_ldc2 d_Mo_cellZ_23 kl_Mo_158 ?_
      refine rr_lcmp d_Mo_cellZ_26 ?_
      refine rr_if_lt 35 d_Mo_cellZ_27 (by decide) (fun _ => ?_) (fun c9 => absurd ((i64_lt _).mpr k9.2) c9)
      refine rr_aload_n d_Mo_cellZ_35 rfl rfl ?_
      refine rr_aload_n d_Mo_cellZ_36 rfl rfl ?_
      refine rr_getf d_Mo_cellZ_37 fl_Mo_80 rfl rfl ?_
      refine rr_l2i d_Mo_cellZ_40 ?_
      rw [i64_32]
      refine rr_callV d_Mo_cellZ_41 il_Mo_138 m_Mo_put (s_Mo_put hy) rfl rfl rfl rfl (Nat.le_of_ble_eq_true rfl) (Nat.le_of_ble_eq_true rfl) (Nat.le_of_ble_eq_true rfl) (Nat.le_of_ble_eq_true rfl) (Nat.le_of_ble_eq_true rfl) (fun rv9 hp9 hq => ?_)
      obtain ⟨rfl, rfl⟩ := hq
      refine rr_aload_n d_Mo_cellZ_44 rfl rfl ?_
      refine rr_callV d_Mo_cellZ_45 il_Mo_117 m_Mo_step (t_step hn) rfl rfl rfl rfl (Nat.le_of_ble_eq_true rfl) (Nat.le_of_ble_eq_true rfl) (Nat.le_of_ble_eq_true rfl) (Nat.le_of_ble_eq_true rfl) (Nat.le_of_ble_eq_true rfl) (fun rv9 hp9 hq => ?_)
      obtain ⟨rfl, nu3, h93, rfl⟩ := hq
      refine rr_iconst 1 d_Mo_cellZ_48 rfl ?_
      exact rr_ireturn d_Mo_cellZ_49 rfl rfl (Nat.le_of_ble_eq_true rfl) (Nat.le_of_ble_eq_true rfl) (⟨nu3, y + 1, _, rfl, rfl, h93, fun _ => ⟨rfl, rfl⟩⟩)
    · simp only [if_neg k9]
      have go : rr_A R_Mo c_Mo_cellZ 1 (some .boolean) (false, none) { frames := 7, cells := 0, slots := 0, locals := 7 * 64 } (fun r h1 => ∃ (nu2 : Int64) (y2 : Nat) (cd2 : Nat → Int32), r = some (.int (sp_b (((false, t + 1) : Bool × Nat)).1)) ∧ h1 = x0 :: x1 :: x2 :: x3 :: x4 :: x5 :: x6 :: x7 :: x8 :: x9 :: x10 :: x11 :: x12 :: x13 :: x14 :: x15 :: x16 :: x17 :: x18 :: x19 :: x20 :: x21 :: x22 :: x23 :: .inr (6, [.ref 25, .int tm, lt, .ref 26, .int ru, .int (nI (sp_T f n (((false, t + 1) : Bool × Nat)).2).2.2.2), .int (nI n), .int (nI (mk (sp_T f n (((false, t + 1) : Bool × Nat)).2).1)), .int (nI (sp_T f n (((false, t + 1) : Bool × Nat)).2).2.2.1), .int (nI (sp_T f n (((false, t + 1) : Bool × Nat)).2).2.2.2), .int (cond (((false, t + 1) : Bool × Nat)).1 (-1) (nI (sp_T f n (((false, t + 1) : Bool × Nat)).2).2.2.1)), .int pa, .long nu2, .ref 27, .int (nI y2), .ref 28, .ref 29, .ref 30, .ref 31, .int pcv]) :: .inl (1, 400, .inl f) :: x26 :: .inl (0, 1600, .inl (cd2)) :: g ∧ (sp_K f n (((false, t + 1) : Bool × Nat)).2 = 9 → nu2 = (sp_V f n (((false, t + 1) : Bool × Nat)).2).toInt64) ∧ ((((false, t + 1) : Bool × Nat)).1 = true → y2 = y + 1 ∧ cd2 = upd cd y (sp_V f n (t + 1)))) 0 0 30 [(0, .ref 24)] [] (x0 :: x1 :: x2 :: x3 :: x4 :: x5 :: x6 :: x7 :: x8 :: x9 :: x10 :: x11 :: x12 :: x13 :: x14 :: x15 :: x16 :: x17 :: x18 :: x19 :: x20 :: x21 :: x22 :: x23 :: .inr (6, [.ref 25, .int tm, lt, .ref 26, .int ru, .int (nI (sp_T f n (t + 1)).2.2.2), .int (nI n), .int (nI (mk (sp_T f n (t + 1)).1)), .int (nI (sp_T f n (t + 1)).2.2.1), .int (nI (sp_T f n (t + 1)).2.2.2), .int (-1), .int pa, .long nu2, .ref 27, .int (nI y), .ref 28, .ref 29, .ref 30, .ref 31, .int pcv]) :: .inl (1, 400, .inl f) :: x26 :: .inl (0, 1600, .inl (cd)) :: g) := by
        refine rr_aload_n d_Mo_cellZ_30 rfl rfl ?_
        refine rr_callV d_Mo_cellZ_31 il_Mo_113 m_Mo_bad (t_bad) rfl rfl rfl rfl (Nat.le_of_ble_eq_true rfl) (Nat.le_of_ble_eq_true rfl) (Nat.le_of_ble_eq_true rfl) (Nat.le_of_ble_eq_true rfl) (Nat.le_of_ble_eq_true rfl) (fun rv9 hp9 hq => ?_)
        obtain ⟨rfl, rfl⟩ := hq
        exact rr_ireturn d_Mo_cellZ_34 rfl rfl (Nat.le_of_ble_eq_true rfl) (Nat.le_of_ble_eq_true rfl) (⟨nu2, y, cd, rfl, rfl, h92, fun h => by cases h⟩)
      refine rr_icmp_ne 30 d_Mo_cellZ_16 (by decide) (fun hk => ?_) (fun hk => ?_)
      · exact go
      · have k91 : sp_K f n (t + 1) = 9 := mk_9.mp hk
        obtain rfl := h92 k91
        refine rr_aload_n d_Mo_cellZ_19 rfl rfl ?_
        refine rr_getf d_Mo_cellZ_20 fl_Mo_80 rfl rfl ?_
        refine rr_ldc2 d_Mo_cellZ_23 kl_Mo_158 ?_
        refine rr_lcmp d_Mo_cellZ_26 ?_
        refine rr_if_lt 35 d_Mo_cellZ_27 (by decide) (fun c9 => absurd c9 (fun z => k9 ⟨k91, (i64_lt _).mp z⟩)) (fun _ => ?_)
        exact go
  · simp only [if_neg k8]
    refine rr_callV d_Mo_cellZ_3 il_Mo_145 m_Mo_take (u_take_f 6 (by decide) hn k8) rfl rfl rfl rfl (Nat.le_of_ble_eq_true rfl) (Nat.le_of_ble_eq_true rfl) (Nat.le_of_ble_eq_true rfl) (Nat.le_of_ble_eq_true rfl) (Nat.le_of_ble_eq_true rfl) (fun rv9 hp9 hq => ?_)
    obtain ⟨rfl, rfl⟩ := hq
    refine rr_if_ne 11 d_Mo_cellZ_6 (by decide) (fun c9 => absurd (rfl) c9) (fun _ => ?_)
    refine rr_iconst 0 d_Mo_cellZ_9 rfl ?_
    exact rr_ireturn d_Mo_cellZ_10 rfl rfl (Nat.le_of_ble_eq_true rfl) (Nat.le_of_ble_eq_true rfl) (⟨nu, y, cd, rfl, rfl, h9, fun h => by cases h⟩)

set_option maxRecDepth 100000 in
set_option maxHeartbeats 4000000 in
theorem s_Mo_part_0 {x0 x1 x2 x3 x4 x5 x6 x7 x8 x9 x10 x11 x12 x13 x14 x15 x16 x17 x18 x19 x20 x21 x22 x23 x26 : va_E} {g : rr_H} {tm ru pcv : Int32} {lt : Value} {f : Nat → Int32} {n : Nat} {M : Nat} (hn : n ≤ 400) : ∀ (t p y : Nat) (nu : Int64) (cd : Nat → Int32), t ≤ M → p ≤ 80 → y ≤ 7 * p + 40 → (sp_K f n t = 9 → nu = (sp_V f n t).toInt64) → rr_Spec (3 * 0 + 8) y_Mo_part c_Mo_part 2 (some .boolean) 0 0 [.ref 24, .int (nI 6)] (x0 :: x1 :: x2 :: x3 :: x4 :: x5 :: x6 :: x7 :: x8 :: x9 :: x10 :: x11 :: x12 :: x13 :: x14 :: x15 :: x16 :: x17 :: x18 :: x19 :: x20 :: x21 :: x22 :: x23 :: .inr (6, [.ref 25, .int tm, lt, .ref 26, .int ru, .int (nI (sp_T f n t).2.2.2), .int (nI n), .int (nI (mk (sp_T f n t).1)), .int (nI (sp_T f n t).2.2.1), .int (nI (sp_T f n t).2.2.2), .int (-1), .int (nI p), .long nu, .ref 27, .int (nI y), .ref 28, .ref 29, .ref 30, .ref 31, .int pcv]) :: .inl (1, 400, .inl f) :: x26 :: .inl (0, 1600, .inl (cd)) :: g) (mo_Q f n (sp_part (sp_K f n) (sp_V f n) 0 t p) y cd (fun t nu fa pa y cd => x0 :: x1 :: x2 :: x3 :: x4 :: x5 :: x6 :: x7 :: x8 :: x9 :: x10 :: x11 :: x12 :: x13 :: x14 :: x15 :: x16 :: x17 :: x18 :: x19 :: x20 :: x21 :: x22 :: x23 :: .inr (6, [.ref 25, .int tm, lt, .ref 26, .int ru, .int (nI (sp_T f n t).2.2.2), .int (nI n), .int (nI (mk (sp_T f n t).1)), .int (nI (sp_T f n t).2.2.1), .int (nI (sp_T f n t).2.2.2), .int fa, .int pa, .long nu, .ref 27, .int (nI y), .ref 28, .ref 29, .ref 30, .ref 31, .int pcv]) :: .inl (1, 400, .inl f) :: x26 :: .inl (0, 1600, .inl (cd)) :: g)) := by
  intro t p y nu cd htM hp hy h9
  refine rr_met (own := R_Mo) (kd := (false, none)) (by decide +kernel) rfl (fun h => by cases h) rfl (Nat.le_of_ble_eq_true rfl) ?_
  refine rr_aload_n d_Mo_part_0 rfl rfl ?_
  refine rr_ldcS d_Mo_part_1 sl_Mo_183 ?_
  by_cases k19 : sp_K f n t = 19
  · skip
    refine rr_callV d_Mo_part_3 il_Mo_61 m_Mo_is (u_is_t 7 (by decide) hn k19) rfl rfl rfl rfl (Nat.le_of_ble_eq_true rfl) (by dsimp only; omega) (by dsimp only; omega) (Nat.le_of_ble_eq_true rfl) (Nat.le_of_ble_eq_true rfl) (fun rv9 hp9 hq => ?_)
    obtain ⟨rfl, rfl⟩ := hq
    refine rr_if_eq 49 d_Mo_part_6 (by decide) (fun c9 => absurd c9 (by decide)) (fun _ => ?_)
    refine rr_iload_n d_Mo_part_9 rfl rfl ?_
    refine rr_bipush 6 d_Mo_part_10 rfl ?_
    have eR : sp_part (sp_K f n) (sp_V f n) 0 t p = (false, t, p, []) := by unfold sp_part sp_partOf; rw [if_pos k19]; rfl
    rw [eR]
    refine rr_icmp_ne 20 d_Mo_part_12 (by decide) (fun c9 => absurd (rfl) c9) (fun _ => ?_)
    refine rr_aload_n d_Mo_part_15 rfl rfl ?_
    refine rr_callV d_Mo_part_16 il_Mo_113 m_Mo_bad (t_bad) rfl rfl rfl rfl (Nat.le_of_ble_eq_true rfl) (by dsimp only; omega) (by dsimp only; omega) (Nat.le_of_ble_eq_true rfl) (Nat.le_of_ble_eq_true rfl) (fun rv9 hp9 hq => ?_)
    obtain ⟨rfl, rfl⟩ := hq
    exact rr_ireturn d_Mo_part_19 rfl rfl (Nat.le_of_ble_eq_true rfl) (Nat.le_of_ble_eq_true rfl) (⟨nu, _, y, cd, rfl, rfl, h9, fun h => by cases h⟩)
  · have eR : sp_part (sp_K f n) (sp_V f n) 0 t p = if 80 ≤ p then (false, t, p, []) else if sp_K f n t = 8 then (if sp_K f n (t + 1) = 9 ∧ sp_V f n (t + 1) < 32 then (true, t + 2, p + 1, [(8, sp_V f n (t + 1))]) else (false, t + 1, p + 1, [])) else if sp_K f n t = 9 ∨ sp_K f n t = 6 ∨ sp_K f n t = 7 then (true, t + 1, p + 1, [(sp_K f n t, sp_V f n t)]) else (false, t, p + 1, []) := by unfold sp_part sp_partOf; rw [if_neg k19]
    rw [eR]
    refine rr_callV d_Mo_part_3 il_Mo_61 m_Mo_is (u_is_f 7 (by decide) hn k19) rfl rfl rfl rfl (Nat.le_of_ble_eq_true rfl) (by dsimp only; omega) (by dsimp only; omega) (Nat.le_of_ble_eq_true rfl) (Nat.le_of_ble_eq_true rfl) (fun rv9 hp9 hq => ?_)
    obtain ⟨rfl, rfl⟩ := hq
    refine rr_if_eq 49 d_Mo_part_6 (by decide) (fun _ => ?_) (fun c9 => absurd (rfl) c9)
    refine rr_aload_n d_Mo_part_49 rfl rfl ?_
    refine rr_getf d_Mo_part_50 fl_Mo_49 rfl rfl ?_
    refine rr_iconst 2 d_Mo_part_53 rfl ?_
    have bd : ∀ R : sp_R, R.1 = false → R.2.1 = t → rr_A R_Mo c_Mo_part 2 (some .boolean) (false, none) { frames := (3 * 0 + 8), cells := 0, slots := 0, locals := ((3 * 0 + 8)) * 64 } (mo_Q f n (R) y cd (fun t nu fa pa y cd => x0 :: x1 :: x2 :: x3 :: x4 :: x5 :: x6 :: x7 :: x8 :: x9 :: x10 :: x11 :: x12 :: x13 :: x14 :: x15 :: x16 :: x17 :: x18 :: x19 :: x20 :: x21 :: x22 :: x23 :: .inr (6, [.ref 25, .int tm, lt, .ref 26, .int ru, .int (nI (sp_T f n t).2.2.2), .int (nI n), .int (nI (mk (sp_T f n t).1)), .int (nI (sp_T f n t).2.2.1), .int (nI (sp_T f n t).2.2.2), .int fa, .int pa, .long nu, .ref 27, .int (nI y), .ref 28, .ref 29, .ref 30, .ref 31, .int pcv]) :: .inl (1, 400, .inl f) :: x26 :: .inl (0, 1600, .inl (cd)) :: g)) 0 0 93 [(0, .ref 24), (1, .int (nI 6))] [] (x0 :: x1 :: x2 :: x3 :: x4 :: x5 :: x6 :: x7 :: x8 :: x9 :: x10 :: x11 :: x12 :: x13 :: x14 :: x15 :: x16 :: x17 :: x18 :: x19 :: x20 :: x21 :: x22 :: x23 :: .inr (6, [.ref 25, .int tm, lt, .ref 26, .int ru, .int (nI (sp_T f n t).2.2.2), .int (nI n), .int (nI (mk (sp_T f n t).1)), .int (nI (sp_T f n t).2.2.1), .int (nI (sp_T f n t).2.2.2), .int (-1), .int (nI p), .long nu, .ref 27, .int (nI y), .ref 28, .ref 29, .ref 30, .ref 31, .int pcv]) :: .inl (1, 400, .inl f) :: x26 :: .inl (0, 1600, .inl (cd)) :: g) := by
      intro R e1 e2
      refine rr_aload_n d_Mo_part_93 rfl rfl ?_
      refine rr_callV d_Mo_part_94 il_Mo_113 m_Mo_bad (t_bad) rfl rfl rfl rfl (Nat.le_of_ble_eq_true rfl) (by dsimp only; omega) (by dsimp only; omega) (Nat.le_of_ble_eq_true rfl) (Nat.le_of_ble_eq_true rfl) (fun rv9 hp9 hq => ?_)
      obtain ⟨rfl, rfl⟩ := hq
      exact rr_ireturn d_Mo_part_97 rfl rfl (Nat.le_of_ble_eq_true rfl) (Nat.le_of_ble_eq_true rfl) (⟨nu, _, y, cd, by rw [e1]; rfl, by rw [e1, e2]; rfl, by rw [e2]; exact h9, fun h => by rw [e1] at h; cases h⟩)
    have gd : sp_K f n t = 9 ∨ sp_K f n t = 8 ∨ sp_K f n t = 6 ∨ sp_K f n t = 7 → rr_A R_Mo c_Mo_part 2 (some .boolean) (false, none) { frames := (3 * 0 + 8), cells := 0, slots := 0, locals := ((3 * 0 + 8)) * 64 } (mo_Q f n (if 80 ≤ p then (false, t, p, []) else if sp_K f n t = 8 then (if sp_K f n (t + 1) = 9 ∧ sp_V f n (t + 1) < 32 then (true, t + 2, p + 1, [(8, sp_V f n (t + 1))]) else (false, t + 1, p + 1, [])) else if sp_K f n t = 9 ∨ sp_K f n t = 6 ∨ sp_K f n t = 7 then (true, t + 1, p + 1, [(sp_K f n t, sp_V f n t)]) else (false, t, p + 1, [])) y cd (fun t nu fa pa y cd => x0 :: x1 :: x2 :: x3 :: x4 :: x5 :: x6 :: x7 :: x8 :: x9 :: x10 :: x11 :: x12 :: x13 :: x14 :: x15 :: x16 :: x17 :: x18 :: x19 :: x20 :: x21 :: x22 :: x23 :: .inr (6, [.ref 25, .int tm, lt, .ref 26, .int ru, .int (nI (sp_T f n t).2.2.2), .int (nI n), .int (nI (mk (sp_T f n t).1)), .int (nI (sp_T f n t).2.2.1), .int (nI (sp_T f n t).2.2.2), .int fa, .int pa, .long nu, .ref 27, .int (nI y), .ref 28, .ref 29, .ref 30, .ref 31, .int pcv]) :: .inl (1, 400, .inl f) :: x26 :: .inl (0, 1600, .inl (cd)) :: g)) 0 0 84 [(0, .ref 24), (1, .int (nI 6))] [] (x0 :: x1 :: x2 :: x3 :: x4 :: x5 :: x6 :: x7 :: x8 :: x9 :: x10 :: x11 :: x12 :: x13 :: x14 :: x15 :: x16 :: x17 :: x18 :: x19 :: x20 :: x21 :: x22 :: x23 :: .inr (6, [.ref 25, .int tm, lt, .ref 26, .int ru, .int (nI (sp_T f n t).2.2.2), .int (nI n), .int (nI (mk (sp_T f n t).1)), .int (nI (sp_T f n t).2.2.1), .int (nI (sp_T f n t).2.2.2), .int (-1), .int (nI p), .long nu, .ref 27, .int (nI y), .ref 28, .ref 29, .ref 30, .ref 31, .int pcv]) :: .inl (1, 400, .inl f) :: x26 :: .inl (0, 1600, .inl (cd)) :: g) := by
      intro hk
      refine rr_aload_n d_Mo_part_84 rfl rfl ?_
      refine rr_getf d_Mo_part_85 fl_Mo_123 rfl rfl ?_
      refine rr_bipush 80 d_Mo_part_88 rfl ?_
      by_cases h80 : 80 ≤ p
      · obtain rfl : p = 80 := by omega
        refine rr_icmp_ne 98 d_Mo_part_90 (by decide) (fun c9 => absurd (rfl) c9) (fun _ => ?_)
        exact bd _ rfl rfl
      · simp only [if_neg h80]
        refine rr_icmp_ne 98 d_Mo_part_90 (by decide) (fun _ => ?_) (fun c9 => absurd c9 (fun z => absurd ((nI_eq (b := 80) (by omega) (by decide)).mp z) (by omega)))
        refine rr_aload_n d_Mo_part_98 rfl rfl ?_
        refine rr_dup d_Mo_part_99 rfl ?_
        refine rr_getf d_Mo_part_100 fl_Mo_123 rfl rfl ?_
        refine rr_iconst 1 d_Mo_part_103 rfl ?_
        refine rr_iadd d_Mo_part_104 ?_
        refine rr_putf d_Mo_part_105 fl_Mo_123 rfl rfl rfl rfl ?_
        refine rr_aload_n d_Mo_part_108 rfl rfl ?_
        refine rr_ldcS d_Mo_part_109 sl_Mo_75 ?_
        rw [nI_1]
        have stp : ∀ (y2 : Nat) (cd2 : Nat → Int32) (it : Nat × Int32), y2 = y + (en1 it).length → cd2 = sp_wr cd y (en1 it) → rr_A R_Mo c_Mo_part 2 (some .boolean) (false, none) { frames := (3 * 0 + 8), cells := 0, slots := 0, locals := ((3 * 0 + 8)) * 64 } (mo_Q f n (true, t + 1, p + 1, [it]) y cd (fun t nu fa pa y cd => x0 :: x1 :: x2 :: x3 :: x4 :: x5 :: x6 :: x7 :: x8 :: x9 :: x10 :: x11 :: x12 :: x13 :: x14 :: x15 :: x16 :: x17 :: x18 :: x19 :: x20 :: x21 :: x22 :: x23 :: .inr (6, [.ref 25, .int tm, lt, .ref 26, .int ru, .int (nI (sp_T f n t).2.2.2), .int (nI n), .int (nI (mk (sp_T f n t).1)), .int (nI (sp_T f n t).2.2.1), .int (nI (sp_T f n t).2.2.2), .int fa, .int pa, .long nu, .ref 27, .int (nI y), .ref 28, .ref 29, .ref 30, .ref 31, .int pcv]) :: .inl (1, 400, .inl f) :: x26 :: .inl (0, 1600, .inl (cd)) :: g)) 0 0 170 [(0, .ref 24), (1, .int (nI 6))] [] (x0 :: x1 :: x2 :: x3 :: x4 :: x5 :: x6 :: x7 :: x8 :: x9 :: x10 :: x11 :: x12 :: x13 :: x14 :: x15 :: x16 :: x17 :: x18 :: x19 :: x20 :: x21 :: x22 :: x23 :: .inr (6, [.ref 25, .int tm, lt, .ref 26, .int ru, .int (nI (sp_T f n t).2.2.2), .int (nI n), .int (nI (mk (sp_T f n t).1)), .int (nI (sp_T f n t).2.2.1), .int (nI (sp_T f n t).2.2.2), .int (-1), .int (nI (p + 1)), .long nu, .ref 27, .int (nI y2), .ref 28, .ref 29, .ref 30, .ref 31, .int pcv]) :: .inl (1, 400, .inl f) :: x26 :: .inl (0, 1600, .inl (cd2)) :: g) := by
          intro y2 cd2 it e1 e2
          refine rr_aload_n d_Mo_part_170 rfl rfl ?_
          refine rr_callV d_Mo_part_171 il_Mo_117 m_Mo_step (t_step hn) rfl rfl rfl rfl (Nat.le_of_ble_eq_true rfl) (by dsimp only; omega) (by dsimp only; omega) (Nat.le_of_ble_eq_true rfl) (Nat.le_of_ble_eq_true rfl) (fun rv9 hp9 hq => ?_)
          obtain ⟨rfl, nu2, h92, rfl⟩ := hq
          refine rr_iconst 1 d_Mo_part_174 rfl ?_
          exact rr_ireturn d_Mo_part_175 rfl rfl (Nat.le_of_ble_eq_true rfl) (Nat.le_of_ble_eq_true rfl) (⟨nu2, _, y2, cd2, rfl, rfl, h92, fun _ => ⟨rfl, by rw [e1]; simp [en], by rw [e2]; simp [en]⟩⟩)
        by_cases k8 : sp_K f n t = 8
        · simp only [if_pos k8]
          refine rr_callV d_Mo_part_111 il_Mo_61 m_Mo_is (u_is_t 6 (by decide) hn k8) rfl rfl rfl rfl (Nat.le_of_ble_eq_true rfl) (by dsimp only; omega) (by dsimp only; omega) (Nat.le_of_ble_eq_true rfl) (Nat.le_of_ble_eq_true rfl) (fun rv9 hp9 hq => ?_)
          obtain ⟨rfl, rfl⟩ := hq
          refine rr_if_eq 127 d_Mo_part_114 (by decide) (fun c9 => absurd c9 (by decide)) (fun _ => ?_)
          refine rr_aload_n d_Mo_part_117 rfl rfl ?_
          refine rr_iconst 1 d_Mo_part_118 rfl ?_
          refine rr_callV d_Mo_part_119 il_Mo_138 m_Mo_put (s_Mo_put (by omega)) rfl rfl rfl rfl (Nat.le_of_ble_eq_true rfl) (by dsimp only; omega) (by dsimp only; omega) (Nat.le_of_ble_eq_true rfl) (Nat.le_of_ble_eq_true rfl) (fun rv9 hp9 hq => ?_)
          obtain ⟨rfl, rfl⟩ := hq
          refine rr_aload_n d_Mo_part_122 rfl rfl ?_
          refine rr_callV d_Mo_part_123 il_Mo_148 m_Mo_cellZ (u_cell hn (by omega) h9) rfl rfl rfl rfl (Nat.le_of_ble_eq_true rfl) (by dsimp only; omega) (by dsimp only; omega) (Nat.le_of_ble_eq_true rfl) (Nat.le_of_ble_eq_true rfl) (fun rv9 hp9 hq => ?_)
          obtain ⟨nu2, y2, cd2, rfl, rfl, h92, hok⟩ := hq
          simp only [if_pos k8] at h92 hok ⊢
          by_cases kc : sp_K f n (t + 1) = 9 ∧ sp_V f n (t + 1) < 32
          · simp only [if_pos kc] at h92 hok ⊢
            obtain ⟨rfl, rfl⟩ := hok trivial
            exact rr_ireturn d_Mo_part_126 rfl rfl (Nat.le_of_ble_eq_true rfl) (Nat.le_of_ble_eq_true rfl) (⟨nu2, _, _, _, rfl, rfl, h92, fun _ => ⟨rfl, rfl, rfl⟩⟩)
          · simp only [if_neg kc] at h92 hok ⊢
            exact rr_ireturn d_Mo_part_126 rfl rfl (Nat.le_of_ble_eq_true rfl) (Nat.le_of_ble_eq_true rfl) (⟨nu2, _, _, _, rfl, rfl, h92, fun h => by cases h⟩)
        · simp only [if_neg k8]
          have hk3 : sp_K f n t = 9 ∨ sp_K f n t = 6 ∨ sp_K f n t = 7 := by omega
          simp only [if_pos hk3]
          refine rr_callV d_Mo_part_111 il_Mo_61 m_Mo_is (u_is_f 6 (by decide) hn k8) rfl rfl rfl rfl (Nat.le_of_ble_eq_true rfl) (by dsimp only; omega) (by dsimp only; omega) (Nat.le_of_ble_eq_true rfl) (Nat.le_of_ble_eq_true rfl) (fun rv9 hp9 hq => ?_)
          obtain ⟨rfl, rfl⟩ := hq
          refine rr_if_eq 127 d_Mo_part_114 (by decide) (fun _ => ?_) (fun c9 => absurd (rfl) c9)
          refine rr_aload_n d_Mo_part_127 rfl rfl ?_
          refine rr_getf d_Mo_part_128 fl_Mo_49 rfl rfl ?_
          refine rr_iconst 2 d_Mo_part_131 rfl ?_
          by_cases kn : sp_K f n t = 9
          · obtain rfl := h9 kn
            refine rr_icmp_ne 152 d_Mo_part_132 (by decide) (fun c9 => absurd (mk_9.mpr kn) c9) (fun _ => ?_)
            refine rr_aload_n d_Mo_part_135 rfl rfl ?_
            refine rr_iconst 0 d_Mo_part_136 rfl ?_
            refine rr_callV d_Mo_part_137 il_Mo_138 m_Mo_put (s_Mo_put (by omega)) rfl rfl rfl rfl (Nat.le_of_ble_eq_true rfl) (by dsimp only; omega) (by dsimp only; omega) (Nat.le_of_ble_eq_true rfl) (Nat.le_of_ble_eq_true rfl) (fun rv9 hp9 hq => ?_)
            obtain ⟨rfl, rfl⟩ := hq
            refine rr_aload_n d_Mo_part_140 rfl rfl ?_
            refine rr_aload_n d_Mo_part_141 rfl rfl ?_
            refine rr_getf d_Mo_part_142 fl_Mo_80 rfl rfl ?_
            refine rr_l2i d_Mo_part_145 ?_
            rw [i64_32]
            refine rr_callV d_Mo_part_146 il_Mo_138 m_Mo_put (s_Mo_put (by omega)) rfl rfl rfl rfl (Nat.le_of_ble_eq_true rfl) (by dsimp only; omega) (by dsimp only; omega) (Nat.le_of_ble_eq_true rfl) (Nat.le_of_ble_eq_true rfl) (fun rv9 hp9 hq => ?_)
            obtain ⟨rfl, rfl⟩ := hq
            refine rr_goto 170 d_Mo_part_149 (by decide) ?_
            rw [kn]
            exact stp (y + 2) _ (9, sp_V f n t) rfl rfl
          · skip
            refine rr_icmp_ne 152 d_Mo_part_132 (by decide) (fun _ => ?_) (fun c9 => absurd c9 (fun z => kn (mk_9.mp z)))
            refine rr_aload_n d_Mo_part_152 rfl rfl ?_
            refine rr_aload_n d_Mo_part_153 rfl rfl ?_
            refine rr_ldcS d_Mo_part_154 sl_Mo_71 ?_
            by_cases ks : sp_K f n t = 6
            · skip
              refine rr_callV d_Mo_part_156 il_Mo_61 m_Mo_is (u_is_t 4 (by decide) hn ks) rfl rfl rfl rfl (Nat.le_of_ble_eq_true rfl) (by dsimp only; omega) (by dsimp only; omega) (Nat.le_of_ble_eq_true rfl) (Nat.le_of_ble_eq_true rfl) (fun rv9 hp9 hq => ?_)
              obtain ⟨rfl, rfl⟩ := hq
              refine rr_if_eq 166 d_Mo_part_159 (by decide) (fun c9 => absurd c9 (by decide)) (fun _ => ?_)
              refine rr_iconst 2 d_Mo_part_162 rfl ?_
              refine rr_goto 167 d_Mo_part_163 (by decide) ?_
              refine rr_callV d_Mo_part_167 il_Mo_138 m_Mo_put (s_Mo_put (by omega)) rfl rfl rfl rfl (Nat.le_of_ble_eq_true rfl) (by dsimp only; omega) (by dsimp only; omega) (Nat.le_of_ble_eq_true rfl) (Nat.le_of_ble_eq_true rfl) (fun rv9 hp9 hq => ?_)
              obtain ⟨rfl, rfl⟩ := hq
              rw [ks]
              exact stp (y + 1) _ (6, sp_V f n t) rfl rfl
            · have k7 : sp_K f n t = 7 := by omega
              refine rr_callV d_Mo_part_156 il_Mo_61 m_Mo_is (u_is_f 4 (by decide) hn ks) rfl rfl rfl rfl (Nat.le_of_ble_eq_true rfl) (by dsimp only; omega) (by dsimp only; omega) (Nat.le_of_ble_eq_true rfl) (Nat.le_of_ble_eq_true rfl) (fun rv9 hp9 hq => ?_)
              obtain ⟨rfl, rfl⟩ := hq
              refine rr_if_eq 166 d_Mo_part_159 (by decide) (fun _ => ?_) (fun c9 => absurd (rfl) c9)
              refine rr_iconst 3 d_Mo_part_166 rfl ?_
              refine rr_callV d_Mo_part_167 il_Mo_138 m_Mo_put (s_Mo_put (by omega)) rfl rfl rfl rfl (Nat.le_of_ble_eq_true rfl) (by dsimp only; omega) (by dsimp only; omega) (Nat.le_of_ble_eq_true rfl) (Nat.le_of_ble_eq_true rfl) (fun rv9 hp9 hq => ?_)
              obtain ⟨rfl, rfl⟩ := hq
              rw [k7]
              exact stp (y + 1) _ (7, sp_V f n t) rfl rfl
    by_cases kn : sp_K f n t = 9
    · skip
      refine rr_icmp_eq 84 d_Mo_part_54 (by decide) (fun _ => ?_) (fun c9 => absurd (mk_9.mpr kn) c9)
      exact gd (Or.inl kn)
    refine rr_icmp_eq 84 d_Mo_part_54 (by decide) (fun c9 => absurd c9 (fun z => kn (mk_9.mp z))) (fun _ => ?_)
    refine rr_aload_n d_Mo_part_57 rfl rfl ?_
    refine rr_ldcS d_Mo_part_58 sl_Mo_75 ?_
    by_cases k8 : sp_K f n t = 8
    · skip
      refine rr_callV d_Mo_part_60 il_Mo_61 m_Mo_is (u_is_t 6 (by decide) hn k8) rfl rfl rfl rfl (Nat.le_of_ble_eq_true rfl) (by dsimp only; omega) (by dsimp only; omega) (Nat.le_of_ble_eq_true rfl) (Nat.le_of_ble_eq_true rfl) (fun rv9 hp9 hq => ?_)
      obtain ⟨rfl, rfl⟩ := hq
      refine rr_if_ne 84 d_Mo_part_63 (by decide) (fun _ => ?_) (fun c9 => absurd c9 (by decide))
      exact gd (Or.inr (Or.inl k8))
    refine rr_callV d_Mo_part_60 il_Mo_61 m_Mo_is (u_is_f 6 (by decide) hn k8) rfl rfl rfl rfl (Nat.le_of_ble_eq_true rfl) (by dsimp only; omega) (by dsimp only; omega) (Nat.le_of_ble_eq_true rfl) (Nat.le_of_ble_eq_true rfl) (fun rv9 hp9 hq => ?_)
    obtain ⟨rfl, rfl⟩ := hq
    refine rr_if_ne 84 d_Mo_part_63 (by decide) (fun c9 => absurd (rfl) c9) (fun _ => ?_)
    refine rr_aload_n d_Mo_part_66 rfl rfl ?_
    refine rr_ldcS d_Mo_part_67 sl_Mo_71 ?_
    by_cases k6 : sp_K f n t = 6
    · skip
      refine rr_callV d_Mo_part_69 il_Mo_61 m_Mo_is (u_is_t 4 (by decide) hn k6) rfl rfl rfl rfl (Nat.le_of_ble_eq_true rfl) (by dsimp only; omega) (by dsimp only; omega) (Nat.le_of_ble_eq_true rfl) (Nat.le_of_ble_eq_true rfl) (fun rv9 hp9 hq => ?_)
      obtain ⟨rfl, rfl⟩ := hq
      refine rr_if_ne 84 d_Mo_part_72 (by decide) (fun _ => ?_) (fun c9 => absurd c9 (by decide))
      exact gd (Or.inr (Or.inr (Or.inl k6)))
    refine rr_callV d_Mo_part_69 il_Mo_61 m_Mo_is (u_is_f 4 (by decide) hn k6) rfl rfl rfl rfl (Nat.le_of_ble_eq_true rfl) (by dsimp only; omega) (by dsimp only; omega) (Nat.le_of_ble_eq_true rfl) (Nat.le_of_ble_eq_true rfl) (fun rv9 hp9 hq => ?_)
    obtain ⟨rfl, rfl⟩ := hq
    refine rr_if_ne 84 d_Mo_part_72 (by decide) (fun c9 => absurd (rfl) c9) (fun _ => ?_)
    refine rr_aload_n d_Mo_part_75 rfl rfl ?_
    refine rr_ldcS d_Mo_part_76 sl_Mo_73 ?_
    by_cases k7 : sp_K f n t = 7
    · skip
      refine rr_callV d_Mo_part_78 il_Mo_61 m_Mo_is (u_is_t 5 (by decide) hn k7) rfl rfl rfl rfl (Nat.le_of_ble_eq_true rfl) (by dsimp only; omega) (by dsimp only; omega) (Nat.le_of_ble_eq_true rfl) (Nat.le_of_ble_eq_true rfl) (fun rv9 hp9 hq => ?_)
      obtain ⟨rfl, rfl⟩ := hq
      refine rr_if_eq 93 d_Mo_part_81 (by decide) (fun c9 => absurd c9 (by decide)) (fun _ => ?_)
      exact gd (Or.inr (Or.inr (Or.inr k7)))
    refine rr_callV d_Mo_part_78 il_Mo_61 m_Mo_is (u_is_f 5 (by decide) hn k7) rfl rfl rfl rfl (Nat.le_of_ble_eq_true rfl) (by dsimp only; omega) (by dsimp only; omega) (Nat.le_of_ble_eq_true rfl) (Nat.le_of_ble_eq_true rfl) (fun rv9 hp9 hq => ?_)
    obtain ⟨rfl, rfl⟩ := hq
    refine rr_if_eq 93 d_Mo_part_81 (by decide) (fun _ => ?_) (fun c9 => absurd (rfl) c9)
    refine bd _ ?_ ?_
    · split
      · rfl
      · rw [if_neg (by omega)]
    · split
      · rfl
      · rw [if_neg (by omega)]

set_option maxRecDepth 100000 in
set_option maxHeartbeats 4000000 in
theorem s_Mo_part_1 {x0 x1 x2 x3 x4 x5 x6 x7 x8 x9 x10 x11 x12 x13 x14 x15 x16 x17 x18 x19 x20 x21 x22 x23 x26 : va_E} {g : rr_H} {tm ru pcv : Int32} {lt : Value} {f : Nat → Int32} {n : Nat} {d e M : Nat} (hn : n ≤ 400) (h0 : sp_K f n M = 0) (he : e < 6) (hin : (∀ (t p y : Nat) (nu : Int64) (cd : Nat → Int32), t ≤ M → p ≤ 80 → y ≤ 7 * p + 40 → (sp_K f n t = 9 → nu = (sp_V f n t).toInt64) → rr_Spec (3 * d + 10) y_Mo_sum c_Mo_sum 3 (some .boolean) 0 0 [.ref 24, .int (nI (e + 1))] (x0 :: x1 :: x2 :: x3 :: x4 :: x5 :: x6 :: x7 :: x8 :: x9 :: x10 :: x11 :: x12 :: x13 :: x14 :: x15 :: x16 :: x17 :: x18 :: x19 :: x20 :: x21 :: x22 :: x23 :: .inr (6, [.ref 25, .int tm, lt, .ref 26, .int ru, .int (nI (sp_T f n t).2.2.2), .int (nI n), .int (nI (mk (sp_T f n t).1)), .int (nI (sp_T f n t).2.2.1), .int (nI (sp_T f n t).2.2.2), .int (-1), .int (nI p), .long nu, .ref 27, .int (nI y), .ref 28, .ref 29, .ref 30, .ref 31, .int pcv]) :: .inl (1, 400, .inl f) :: x26 :: .inl (0, 1600, .inl (cd)) :: g) (mo_Q f n (sp_sum (sp_K f n) (sp_V f n) d t p) y cd (fun t nu fa pa y cd => x0 :: x1 :: x2 :: x3 :: x4 :: x5 :: x6 :: x7 :: x8 :: x9 :: x10 :: x11 :: x12 :: x13 :: x14 :: x15 :: x16 :: x17 :: x18 :: x19 :: x20 :: x21 :: x22 :: x23 :: .inr (6, [.ref 25, .int tm, lt, .ref 26, .int ru, .int (nI (sp_T f n t).2.2.2), .int (nI n), .int (nI (mk (sp_T f n t).1)), .int (nI (sp_T f n t).2.2.1), .int (nI (sp_T f n t).2.2.2), .int fa, .int pa, .long nu, .ref 27, .int (nI y), .ref 28, .ref 29, .ref 30, .ref 31, .int pcv]) :: .inl (1, 400, .inl f) :: x26 :: .inl (0, 1600, .inl (cd)) :: g)))) : ∀ (t p y : Nat) (nu : Int64) (cd : Nat → Int32), t ≤ M → p ≤ 80 → y ≤ 7 * p + 40 → (sp_K f n t = 9 → nu = (sp_V f n t).toInt64) → rr_Spec (3 * (d + 1) + 8) y_Mo_part c_Mo_part 2 (some .boolean) 0 0 [.ref 24, .int (nI e)] (x0 :: x1 :: x2 :: x3 :: x4 :: x5 :: x6 :: x7 :: x8 :: x9 :: x10 :: x11 :: x12 :: x13 :: x14 :: x15 :: x16 :: x17 :: x18 :: x19 :: x20 :: x21 :: x22 :: x23 :: .inr (6, [.ref 25, .int tm, lt, .ref 26, .int ru, .int (nI (sp_T f n t).2.2.2), .int (nI n), .int (nI (mk (sp_T f n t).1)), .int (nI (sp_T f n t).2.2.1), .int (nI (sp_T f n t).2.2.2), .int (-1), .int (nI p), .long nu, .ref 27, .int (nI y), .ref 28, .ref 29, .ref 30, .ref 31, .int pcv]) :: .inl (1, 400, .inl f) :: x26 :: .inl (0, 1600, .inl (cd)) :: g) (mo_Q f n (sp_part (sp_K f n) (sp_V f n) (d + 1) t p) y cd (fun t nu fa pa y cd => x0 :: x1 :: x2 :: x3 :: x4 :: x5 :: x6 :: x7 :: x8 :: x9 :: x10 :: x11 :: x12 :: x13 :: x14 :: x15 :: x16 :: x17 :: x18 :: x19 :: x20 :: x21 :: x22 :: x23 :: .inr (6, [.ref 25, .int tm, lt, .ref 26, .int ru, .int (nI (sp_T f n t).2.2.2), .int (nI n), .int (nI (mk (sp_T f n t).1)), .int (nI (sp_T f n t).2.2.1), .int (nI (sp_T f n t).2.2.2), .int fa, .int pa, .long nu, .ref 27, .int (nI y), .ref 28, .ref 29, .ref 30, .ref 31, .int pcv]) :: .inl (1, 400, .inl f) :: x26 :: .inl (0, 1600, .inl (cd)) :: g)) := by
  intro t p y nu cd htM hp hy h9
  refine rr_met (own := R_Mo) (kd := (false, none)) (by decide +kernel) rfl (fun h => by cases h) rfl (Nat.le_of_ble_eq_true rfl) ?_
  refine rr_aload_n d_Mo_part_0 rfl rfl ?_
  refine rr_ldcS d_Mo_part_1 sl_Mo_183 ?_
  by_cases k19 : sp_K f n t = 19
  · skip
    refine rr_callV d_Mo_part_3 il_Mo_61 m_Mo_is (u_is_t 7 (by decide) hn k19) rfl rfl rfl rfl (Nat.le_of_ble_eq_true rfl) (by dsimp only; omega) (by dsimp only; omega) (Nat.le_of_ble_eq_true rfl) (Nat.le_of_ble_eq_true rfl) (fun rv9 hp9 hq => ?_)
    obtain ⟨rfl, rfl⟩ := hq
    refine rr_if_eq 49 d_Mo_part_6 (by decide) (fun c9 => absurd c9 (by decide)) (fun _ => ?_)
    refine rr_iload_n d_Mo_part_9 rfl rfl ?_
    refine rr_bipush 6 d_Mo_part_10 rfl ?_
    have eR : sp_part (sp_K f n) (sp_V f n) (d + 1) t p = if (sp_sum (sp_K f n) (sp_V f n) d (t + 1) p).1 = true then (if sp_K f n (sp_sum (sp_K f n) (sp_V f n) d (t + 1) p).2.1 = 20 then (true, (sp_sum (sp_K f n) (sp_V f n) d (t + 1) p).2.1 + 1, (sp_sum (sp_K f n) (sp_V f n) d (t + 1) p).2.2) else (false, (sp_sum (sp_K f n) (sp_V f n) d (t + 1) p).2.1, (sp_sum (sp_K f n) (sp_V f n) d (t + 1) p).2.2)) else sp_sum (sp_K f n) (sp_V f n) d (t + 1) p := by
      show sp_partOf (sp_K f n) (sp_V f n) (some (sp_sum (sp_K f n) (sp_V f n) d)) t p = _
      unfold sp_partOf
      rw [if_pos k19]
    rw [eR]
    refine rr_icmp_ne 20 d_Mo_part_12 (by decide) (fun _ => ?_) (fun c9 => absurd c9 (fun z => absurd ((nI_eq (b := 6) (by omega) (by decide)).mp z) (by omega)))
    refine rr_aload_n d_Mo_part_20 rfl rfl ?_
    refine rr_callV d_Mo_part_21 il_Mo_117 m_Mo_step (t_step hn) rfl rfl rfl rfl (Nat.le_of_ble_eq_true rfl) (by dsimp only; omega) (by dsimp only; omega) (Nat.le_of_ble_eq_true rfl) (Nat.le_of_ble_eq_true rfl) (fun rv9 hp9 hq => ?_)
    obtain ⟨rfl, nu2, h92, rfl⟩ := hq
    refine rr_aload_n d_Mo_part_24 rfl rfl ?_
    refine rr_iload_n d_Mo_part_25 rfl rfl ?_
    refine rr_iconst 1 d_Mo_part_26 rfl ?_
    refine rr_iadd d_Mo_part_27 ?_
    rw [nI_1]
    refine rr_callV d_Mo_part_28 il_Mo_168 m_Mo_sum (hin (t + 1) p y nu2 cd (sp_lt h0 htM k19 (by decide)) hp hy h92) rfl rfl rfl rfl (Nat.le_of_ble_eq_true rfl) (by dsimp only; omega) (by dsimp only; omega) (Nat.le_of_ble_eq_true rfl) (Nat.le_of_ble_eq_true rfl) (fun rv9 hp9 hq => ?_)
    obtain ⟨nu3, pa3, y3, cd3, rfl, rfl, h93, hok⟩ := hq
    by_cases ho : (sp_sum (sp_K f n) (sp_V f n) d (t + 1) p).1 = true
    · rw [if_pos ho, ho]
      refine rr_if_eq 47 d_Mo_part_31 (by decide) (fun c9 => absurd c9 (by decide)) (fun _ => ?_)
      refine rr_aload_n d_Mo_part_34 rfl rfl ?_
      refine rr_ldcS d_Mo_part_35 sl_Mo_185 ?_
      by_cases k20 : sp_K f n (sp_sum (sp_K f n) (sp_V f n) d (t + 1) p).2.1 = 20
      · rw [if_pos k20]
        refine rr_callV d_Mo_part_37 il_Mo_145 m_Mo_take (u_take_t 8 (by decide) hn k20) rfl rfl rfl rfl (Nat.le_of_ble_eq_true rfl) (by dsimp only; omega) (by dsimp only; omega) (Nat.le_of_ble_eq_true rfl) (Nat.le_of_ble_eq_true rfl) (fun rv9 hp9 hq => ?_)
        obtain ⟨rfl, nu4, h94, rfl⟩ := hq
        refine rr_if_eq 47 d_Mo_part_40 (by decide) (fun c9 => absurd c9 (by decide)) (fun _ => ?_)
        refine rr_iconst 1 d_Mo_part_43 rfl ?_
        refine rr_goto 48 d_Mo_part_44 (by decide) ?_
        exact rr_ireturn d_Mo_part_48 rfl rfl (Nat.le_of_ble_eq_true rfl) (Nat.le_of_ble_eq_true rfl) (⟨nu4, pa3, y3, cd3, rfl, rfl, h94, fun _ => hok ho⟩)
      · rw [if_neg k20]
        refine rr_callV d_Mo_part_37 il_Mo_145 m_Mo_take (u_take_f 8 (by decide) hn k20) rfl rfl rfl rfl (Nat.le_of_ble_eq_true rfl) (by dsimp only; omega) (by dsimp only; omega) (Nat.le_of_ble_eq_true rfl) (Nat.le_of_ble_eq_true rfl) (fun rv9 hp9 hq => ?_)
        obtain ⟨rfl, rfl⟩ := hq
        refine rr_if_eq 47 d_Mo_part_40 (by decide) (fun _ => ?_) (fun c9 => absurd (rfl) c9)
        refine rr_iconst 0 d_Mo_part_47 rfl ?_
        exact rr_ireturn d_Mo_part_48 rfl rfl (Nat.le_of_ble_eq_true rfl) (Nat.le_of_ble_eq_true rfl) (⟨nu3, pa3, y3, cd3, rfl, rfl, h93, fun h => by cases h⟩)
    · rw [if_neg ho]
      have hof := (Bool.not_eq_true _).mp ho
      rw [hof]
      refine rr_if_eq 47 d_Mo_part_31 (by decide) (fun _ => ?_) (fun c9 => absurd (rfl) c9)
      refine rr_iconst 0 d_Mo_part_47 rfl ?_
      exact rr_ireturn d_Mo_part_48 rfl rfl (Nat.le_of_ble_eq_true rfl) (Nat.le_of_ble_eq_true rfl) (⟨nu3, pa3, y3, cd3, by rw [hof]; rfl, by rw [hof], h93, fun h => absurd h ho⟩)
  · have eR : sp_part (sp_K f n) (sp_V f n) (d + 1) t p = if 80 ≤ p then (false, t, p, []) else if sp_K f n t = 8 then (if sp_K f n (t + 1) = 9 ∧ sp_V f n (t + 1) < 32 then (true, t + 2, p + 1, [(8, sp_V f n (t + 1))]) else (false, t + 1, p + 1, [])) else if sp_K f n t = 9 ∨ sp_K f n t = 6 ∨ sp_K f n t = 7 then (true, t + 1, p + 1, [(sp_K f n t, sp_V f n t)]) else (false, t, p + 1, []) := by unfold sp_part sp_partOf; rw [if_neg k19]
    rw [eR]
    refine rr_callV d_Mo_part_3 il_Mo_61 m_Mo_is (u_is_f 7 (by decide) hn k19) rfl rfl rfl rfl (Nat.le_of_ble_eq_true rfl) (by dsimp only; omega) (by dsimp only; omega) (Nat.le_of_ble_eq_true rfl) (Nat.le_of_ble_eq_true rfl) (fun rv9 hp9 hq => ?_)
    obtain ⟨rfl, rfl⟩ := hq
    refine rr_if_eq 49 d_Mo_part_6 (by decide) (fun _ => ?_) (fun c9 => absurd (rfl) c9)
    refine rr_aload_n d_Mo_part_49 rfl rfl ?_
    refine rr_getf d_Mo_part_50 fl_Mo_49 rfl rfl ?_
    refine rr_iconst 2 d_Mo_part_53 rfl ?_
    have bd : ∀ R : sp_R, R.1 = false → R.2.1 = t → rr_A R_Mo c_Mo_part 2 (some .boolean) (false, none) { frames := (3 * (d + 1) + 8), cells := 0, slots := 0, locals := ((3 * (d + 1) + 8)) * 64 } (mo_Q f n (R) y cd (fun t nu fa pa y cd => x0 :: x1 :: x2 :: x3 :: x4 :: x5 :: x6 :: x7 :: x8 :: x9 :: x10 :: x11 :: x12 :: x13 :: x14 :: x15 :: x16 :: x17 :: x18 :: x19 :: x20 :: x21 :: x22 :: x23 :: .inr (6, [.ref 25, .int tm, lt, .ref 26, .int ru, .int (nI (sp_T f n t).2.2.2), .int (nI n), .int (nI (mk (sp_T f n t).1)), .int (nI (sp_T f n t).2.2.1), .int (nI (sp_T f n t).2.2.2), .int fa, .int pa, .long nu, .ref 27, .int (nI y), .ref 28, .ref 29, .ref 30, .ref 31, .int pcv]) :: .inl (1, 400, .inl f) :: x26 :: .inl (0, 1600, .inl (cd)) :: g)) 0 0 93 [(0, .ref 24), (1, .int (nI e))] [] (x0 :: x1 :: x2 :: x3 :: x4 :: x5 :: x6 :: x7 :: x8 :: x9 :: x10 :: x11 :: x12 :: x13 :: x14 :: x15 :: x16 :: x17 :: x18 :: x19 :: x20 :: x21 :: x22 :: x23 :: .inr (6, [.ref 25, .int tm, lt, .ref 26, .int ru, .int (nI (sp_T f n t).2.2.2), .int (nI n), .int (nI (mk (sp_T f n t).1)), .int (nI (sp_T f n t).2.2.1), .int (nI (sp_T f n t).2.2.2), .int (-1), .int (nI p), .long nu, .ref 27, .int (nI y), .ref 28, .ref 29, .ref 30, .ref 31, .int pcv]) :: .inl (1, 400, .inl f) :: x26 :: .inl (0, 1600, .inl (cd)) :: g) := by
      intro R e1 e2
      refine rr_aload_n d_Mo_part_93 rfl rfl ?_
      refine rr_callV d_Mo_part_94 il_Mo_113 m_Mo_bad (t_bad) rfl rfl rfl rfl (Nat.le_of_ble_eq_true rfl) (by dsimp only; omega) (by dsimp only; omega) (Nat.le_of_ble_eq_true rfl) (Nat.le_of_ble_eq_true rfl) (fun rv9 hp9 hq => ?_)
      obtain ⟨rfl, rfl⟩ := hq
      exact rr_ireturn d_Mo_part_97 rfl rfl (Nat.le_of_ble_eq_true rfl) (Nat.le_of_ble_eq_true rfl) (⟨nu, _, y, cd, by rw [e1]; rfl, by rw [e1, e2]; rfl, by rw [e2]; exact h9, fun h => by rw [e1] at h; cases h⟩)
    have gd : sp_K f n t = 9 ∨ sp_K f n t = 8 ∨ sp_K f n t = 6 ∨ sp_K f n t = 7 → rr_A R_Mo c_Mo_part 2 (some .boolean) (false, none) { frames := (3 * (d + 1) + 8), cells := 0, slots := 0, locals := ((3 * (d + 1) + 8)) * 64 } (mo_Q f n (if 80 ≤ p then (false, t, p, []) else if sp_K f n t = 8 then (if sp_K f n (t + 1) = 9 ∧ sp_V f n (t + 1) < 32 then (true, t + 2, p + 1, [(8, sp_V f n (t + 1))]) else (false, t + 1, p + 1, [])) else if sp_K f n t = 9 ∨ sp_K f n t = 6 ∨ sp_K f n t = 7 then (true, t + 1, p + 1, [(sp_K f n t, sp_V f n t)]) else (false, t, p + 1, [])) y cd (fun t nu fa pa y cd => x0 :: x1 :: x2 :: x3 :: x4 :: x5 :: x6 :: x7 :: x8 :: x9 :: x10 :: x11 :: x12 :: x13 :: x14 :: x15 :: x16 :: x17 :: x18 :: x19 :: x20 :: x21 :: x22 :: x23 :: .inr (6, [.ref 25, .int tm, lt, .ref 26, .int ru, .int (nI (sp_T f n t).2.2.2), .int (nI n), .int (nI (mk (sp_T f n t).1)), .int (nI (sp_T f n t).2.2.1), .int (nI (sp_T f n t).2.2.2), .int fa, .int pa, .long nu, .ref 27, .int (nI y), .ref 28, .ref 29, .ref 30, .ref 31, .int pcv]) :: .inl (1, 400, .inl f) :: x26 :: .inl (0, 1600, .inl (cd)) :: g)) 0 0 84 [(0, .ref 24), (1, .int (nI e))] [] (x0 :: x1 :: x2 :: x3 :: x4 :: x5 :: x6 :: x7 :: x8 :: x9 :: x10 :: x11 :: x12 :: x13 :: x14 :: x15 :: x16 :: x17 :: x18 :: x19 :: x20 :: x21 :: x22 :: x23 :: .inr (6, [.ref 25, .int tm, lt, .ref 26, .int ru, .int (nI (sp_T f n t).2.2.2), .int (nI n), .int (nI (mk (sp_T f n t).1)), .int (nI (sp_T f n t).2.2.1), .int (nI (sp_T f n t).2.2.2), .int (-1), .int (nI p), .long nu, .ref 27, .int (nI y), .ref 28, .ref 29, .ref 30, .ref 31, .int pcv]) :: .inl (1, 400, .inl f) :: x26 :: .inl (0, 1600, .inl (cd)) :: g) := by
      intro hk
      refine rr_aload_n d_Mo_part_84 rfl rfl ?_
      refine rr_getf d_Mo_part_85 fl_Mo_123 rfl rfl ?_
      refine rr_bipush 80 d_Mo_part_88 rfl ?_
      by_cases h80 : 80 ≤ p
      · obtain rfl : p = 80 := by omega
        refine rr_icmp_ne 98 d_Mo_part_90 (by decide) (fun c9 => absurd (rfl) c9) (fun _ => ?_)
        exact bd _ rfl rfl
      · simp only [if_neg h80]
        refine rr_icmp_ne 98 d_Mo_part_90 (by decide) (fun _ => ?_) (fun c9 => absurd c9 (fun z => absurd ((nI_eq (b := 80) (by omega) (by decide)).mp z) (by omega)))
        refine rr_aload_n d_Mo_part_98 rfl rfl ?_
        refine rr_dup d_Mo_part_99 rfl ?_
        refine rr_getf d_Mo_part_100 fl_Mo_123 rfl rfl ?_
        refine rr_iconst 1 d_Mo_part_103 rfl ?_
        refine rr_iadd d_Mo_part_104 ?_
        refine rr_putf d_Mo_part_105 fl_Mo_123 rfl rfl rfl rfl ?_
        refine rr_aload_n d_Mo_part_108 rfl rfl ?_
        refine rr_ldcS d_Mo_part_109 sl_Mo_75 ?_
        rw [nI_1]
        have stp : ∀ (y2 : Nat) (cd2 : Nat → Int32) (it : Nat × Int32), y2 = y + (en1 it).length → cd2 = sp_wr cd y (en1 it) → rr_A R_Mo c_Mo_part 2 (some .boolean) (false, none) { frames := (3 * (d + 1) + 8), cells := 0, slots := 0, locals := ((3 * (d + 1) + 8)) * 64 } (mo_Q f n (true, t + 1, p + 1, [it]) y cd (fun t nu fa pa y cd => x0 :: x1 :: x2 :: x3 :: x4 :: x5 :: x6 :: x7 :: x8 :: x9 :: x10 :: x11 :: x12 :: x13 :: x14 :: x15 :: x16 :: x17 :: x18 :: x19 :: x20 :: x21 :: x22 :: x23 :: .inr (6, [.ref 25, .int tm, lt, .ref 26, .int ru, .int (nI (sp_T f n t).2.2.2), .int (nI n), .int (nI (mk (sp_T f n t).1)), .int (nI (sp_T f n t).2.2.1), .int (nI (sp_T f n t).2.2.2), .int fa, .int pa, .long nu, .ref 27, .int (nI y), .ref 28, .ref 29, .ref 30, .ref 31, .int pcv]) :: .inl (1, 400, .inl f) :: x26 :: .inl (0, 1600, .inl (cd)) :: g)) 0 0 170 [(0, .ref 24), (1, .int (nI e))] [] (x0 :: x1 :: x2 :: x3 :: x4 :: x5 :: x6 :: x7 :: x8 :: x9 :: x10 :: x11 :: x12 :: x13 :: x14 :: x15 :: x16 :: x17 :: x18 :: x19 :: x20 :: x21 :: x22 :: x23 :: .inr (6, [.ref 25, .int tm, lt, .ref 26, .int ru, .int (nI (sp_T f n t).2.2.2), .int (nI n), .int (nI (mk (sp_T f n t).1)), .int (nI (sp_T f n t).2.2.1), .int (nI (sp_T f n t).2.2.2), .int (-1), .int (nI (p + 1)), .long nu, .ref 27, .int (nI y2), .ref 28, .ref 29, .ref 30, .ref 31, .int pcv]) :: .inl (1, 400, .inl f) :: x26 :: .inl (0, 1600, .inl (cd2)) :: g) := by
          intro y2 cd2 it e1 e2
          refine rr_aload_n d_Mo_part_170 rfl rfl ?_
          refine rr_callV d_Mo_part_171 il_Mo_117 m_Mo_step (t_step hn) rfl rfl rfl rfl (Nat.le_of_ble_eq_true rfl) (by dsimp only; omega) (by dsimp only; omega) (Nat.le_of_ble_eq_true rfl) (Nat.le_of_ble_eq_true rfl) (fun rv9 hp9 hq => ?_)
          obtain ⟨rfl, nu2, h92, rfl⟩ := hq
          refine rr_iconst 1 d_Mo_part_174 rfl ?_
          exact rr_ireturn d_Mo_part_175 rfl rfl (Nat.le_of_ble_eq_true rfl) (Nat.le_of_ble_eq_true rfl) (⟨nu2, _, y2, cd2, rfl, rfl, h92, fun _ => ⟨rfl, by rw [e1]; simp [en], by rw [e2]; simp [en]⟩⟩)
        by_cases k8 : sp_K f n t = 8
        · simp only [if_pos k8]
          refine rr_callV d_Mo_part_111 il_Mo_61 m_Mo_is (u_is_t 6 (by decide) hn k8) rfl rfl rfl rfl (Nat.le_of_ble_eq_true rfl) (by dsimp only; omega) (by dsimp only; omega) (Nat.le_of_ble_eq_true rfl) (Nat.le_of_ble_eq_true rfl) (fun rv9 hp9 hq => ?_)
          obtain ⟨rfl, rfl⟩ := hq
          refine rr_if_eq 127 d_Mo_part_114 (by decide) (fun c9 => absurd c9 (by decide)) (fun _ => ?_)
          refine rr_aload_n d_Mo_part_117 rfl rfl ?_
          refine rr_iconst 1 d_Mo_part_118 rfl ?_
          refine rr_callV d_Mo_part_119 il_Mo_138 m_Mo_put (s_Mo_put (by omega)) rfl rfl rfl rfl (Nat.le_of_ble_eq_true rfl) (by dsimp only; omega) (by dsimp only; omega) (Nat.le_of_ble_eq_true rfl) (Nat.le_of_ble_eq_true rfl) (fun rv9 hp9 hq => ?_)
          obtain ⟨rfl, rfl⟩ := hq
          refine rr_aload_n d_Mo_part_122 rfl rfl ?_
          refine rr_callV d_Mo_part_123 il_Mo_148 m_Mo_cellZ (u_cell hn (by omega) h9) rfl rfl rfl rfl (Nat.le_of_ble_eq_true rfl) (by dsimp only; omega) (by dsimp only; omega) (Nat.le_of_ble_eq_true rfl) (Nat.le_of_ble_eq_true rfl) (fun rv9 hp9 hq => ?_)
          obtain ⟨nu2, y2, cd2, rfl, rfl, h92, hok⟩ := hq
          simp only [if_pos k8] at h92 hok ⊢
          by_cases kc : sp_K f n (t + 1) = 9 ∧ sp_V f n (t + 1) < 32
          · simp only [if_pos kc] at h92 hok ⊢
            obtain ⟨rfl, rfl⟩ := hok trivial
            exact rr_ireturn d_Mo_part_126 rfl rfl (Nat.le_of_ble_eq_true rfl) (Nat.le_of_ble_eq_true rfl) (⟨nu2, _, _, _, rfl, rfl, h92, fun _ => ⟨rfl, rfl, rfl⟩⟩)
          · simp only [if_neg kc] at h92 hok ⊢
            exact rr_ireturn d_Mo_part_126 rfl rfl (Nat.le_of_ble_eq_true rfl) (Nat.le_of_ble_eq_true rfl) (⟨nu2, _, _, _, rfl, rfl, h92, fun h => by cases h⟩)
        · simp only [if_neg k8]
          have hk3 : sp_K f n t = 9 ∨ sp_K f n t = 6 ∨ sp_K f n t = 7 := by omega
          simp only [if_pos hk3]
          refine rr_callV d_Mo_part_111 il_Mo_61 m_Mo_is (u_is_f 6 (by decide) hn k8) rfl rfl rfl rfl (Nat.le_of_ble_eq_true rfl) (by dsimp only; omega) (by dsimp only; omega) (Nat.le_of_ble_eq_true rfl) (Nat.le_of_ble_eq_true rfl) (fun rv9 hp9 hq => ?_)
          obtain ⟨rfl, rfl⟩ := hq
          refine rr_if_eq 127 d_Mo_part_114 (by decide) (fun _ => ?_) (fun c9 => absurd (rfl) c9)
          refine rr_aload_n d_Mo_part_127 rfl rfl ?_
          refine rr_getf d_Mo_part_128 fl_Mo_49 rfl rfl ?_
          refine rr_iconst 2 d_Mo_part_131 rfl ?_
          by_cases kn : sp_K f n t = 9
          · obtain rfl := h9 kn
            refine rr_icmp_ne 152 d_Mo_part_132 (by decide) (fun c9 => absurd (mk_9.mpr kn) c9) (fun _ => ?_)
            refine rr_aload_n d_Mo_part_135 rfl rfl ?_
            refine rr_iconst 0 d_Mo_part_136 rfl ?_
            refine rr_callV d_Mo_part_137 il_Mo_138 m_Mo_put (s_Mo_put (by omega)) rfl rfl rfl rfl (Nat.le_of_ble_eq_true rfl) (by dsimp only; omega) (by dsimp only; omega) (Nat.le_of_ble_eq_true rfl) (Nat.le_of_ble_eq_true rfl) (fun rv9 hp9 hq => ?_)
            obtain ⟨rfl, rfl⟩ := hq
            refine rr_aload_n d_Mo_part_140 rfl rfl ?_
            refine rr_aload_n d_Mo_part_141 rfl rfl ?_
            refine rr_getf d_Mo_part_142 fl_Mo_80 rfl rfl ?_
            refine rr_l2i d_Mo_part_145 ?_
            rw [i64_32]
            refine rr_callV d_Mo_part_146 il_Mo_138 m_Mo_put (s_Mo_put (by omega)) rfl rfl rfl rfl (Nat.le_of_ble_eq_true rfl) (by dsimp only; omega) (by dsimp only; omega) (Nat.le_of_ble_eq_true rfl) (Nat.le_of_ble_eq_true rfl) (fun rv9 hp9 hq => ?_)
            obtain ⟨rfl, rfl⟩ := hq
            refine rr_goto 170 d_Mo_part_149 (by decide) ?_
            rw [kn]
            exact stp (y + 2) _ (9, sp_V f n t) rfl rfl
          · skip
            refine rr_icmp_ne 152 d_Mo_part_132 (by decide) (fun _ => ?_) (fun c9 => absurd c9 (fun z => kn (mk_9.mp z)))
            refine rr_aload_n d_Mo_part_152 rfl rfl ?_
            refine rr_aload_n d_Mo_part_153 rfl rfl ?_
            refine rr_ldcS d_Mo_part_154 sl_Mo_71 ?_
            by_cases ks : sp_K f n t = 6
            · skip
              refine rr_callV d_Mo_part_156 il_Mo_61 m_Mo_is (u_is_t 4 (by decide) hn ks) rfl rfl rfl rfl (Nat.le_of_ble_eq_true rfl) (by dsimp only; omega) (by dsimp only; omega) (Nat.le_of_ble_eq_true rfl) (Nat.le_of_ble_eq_true rfl) (fun rv9 hp9 hq => ?_)
              obtain ⟨rfl, rfl⟩ := hq
              refine rr_if_eq 166 d_Mo_part_159 (by decide) (fun c9 => absurd c9 (by decide)) (fun _ => ?_)
              refine rr_iconst 2 d_Mo_part_162 rfl ?_
              refine rr_goto 167 d_Mo_part_163 (by decide) ?_
              refine rr_callV d_Mo_part_167 il_Mo_138 m_Mo_put (s_Mo_put (by omega)) rfl rfl rfl rfl (Nat.le_of_ble_eq_true rfl) (by dsimp only; omega) (by dsimp only; omega) (Nat.le_of_ble_eq_true rfl) (Nat.le_of_ble_eq_true rfl) (fun rv9 hp9 hq => ?_)
              obtain ⟨rfl, rfl⟩ := hq
              rw [ks]
              exact stp (y + 1) _ (6, sp_V f n t) rfl rfl
            · have k7 : sp_K f n t = 7 := by omega
              refine rr_callV d_Mo_part_156 il_Mo_61 m_Mo_is (u_is_f 4 (by decide) hn ks) rfl rfl rfl rfl (Nat.le_of_ble_eq_true rfl) (by dsimp only; omega) (by dsimp only; omega) (Nat.le_of_ble_eq_true rfl) (Nat.le_of_ble_eq_true rfl) (fun rv9 hp9 hq => ?_)
              obtain ⟨rfl, rfl⟩ := hq
              refine rr_if_eq 166 d_Mo_part_159 (by decide) (fun _ => ?_) (fun c9 => absurd (rfl) c9)
              refine rr_iconst 3 d_Mo_part_166 rfl ?_
              refine rr_callV d_Mo_part_167 il_Mo_138 m_Mo_put (s_Mo_put (by omega)) rfl rfl rfl rfl (Nat.le_of_ble_eq_true rfl) (by dsimp only; omega) (by dsimp only; omega) (Nat.le_of_ble_eq_true rfl) (Nat.le_of_ble_eq_true rfl) (fun rv9 hp9 hq => ?_)
              obtain ⟨rfl, rfl⟩ := hq
              rw [k7]
              exact stp (y + 1) _ (7, sp_V f n t) rfl rfl
    by_cases kn : sp_K f n t = 9
    · skip
      refine rr_icmp_eq 84 d_Mo_part_54 (by decide) (fun _ => ?_) (fun c9 => absurd (mk_9.mpr kn) c9)
      exact gd (Or.inl kn)
    refine rr_icmp_eq 84 d_Mo_part_54 (by decide) (fun c9 => absurd c9 (fun z => kn (mk_9.mp z))) (fun _ => ?_)
    refine rr_aload_n d_Mo_part_57 rfl rfl ?_
    refine rr_ldcS d_Mo_part_58 sl_Mo_75 ?_
    by_cases k8 : sp_K f n t = 8
    · skip
      refine rr_callV d_Mo_part_60 il_Mo_61 m_Mo_is (u_is_t 6 (by decide) hn k8) rfl rfl rfl rfl (Nat.le_of_ble_eq_true rfl) (by dsimp only; omega) (by dsimp only; omega) (Nat.le_of_ble_eq_true rfl) (Nat.le_of_ble_eq_true rfl) (fun rv9 hp9 hq => ?_)
      obtain ⟨rfl, rfl⟩ := hq
      refine rr_if_ne 84 d_Mo_part_63 (by decide) (fun _ => ?_) (fun c9 => absurd c9 (by decide))
      exact gd (Or.inr (Or.inl k8))
    refine rr_callV d_Mo_part_60 il_Mo_61 m_Mo_is (u_is_f 6 (by decide) hn k8) rfl rfl rfl rfl (Nat.le_of_ble_eq_true rfl) (by dsimp only; omega) (by dsimp only; omega) (Nat.le_of_ble_eq_true rfl) (Nat.le_of_ble_eq_true rfl) (fun rv9 hp9 hq => ?_)
    obtain ⟨rfl, rfl⟩ := hq
    refine rr_if_ne 84 d_Mo_part_63 (by decide) (fun c9 => absurd (rfl) c9) (fun _ => ?_)
    refine rr_aload_n d_Mo_part_66 rfl rfl ?_
    refine rr_ldcS d_Mo_part_67 sl_Mo_71 ?_
    by_cases k6 : sp_K f n t = 6
    · skip
      refine rr_callV d_Mo_part_69 il_Mo_61 m_Mo_is (u_is_t 4 (by decide) hn k6) rfl rfl rfl rfl (Nat.le_of_ble_eq_true rfl) (by dsimp only; omega) (by dsimp only; omega) (Nat.le_of_ble_eq_true rfl) (Nat.le_of_ble_eq_true rfl) (fun rv9 hp9 hq => ?_)
      obtain ⟨rfl, rfl⟩ := hq
      refine rr_if_ne 84 d_Mo_part_72 (by decide) (fun _ => ?_) (fun c9 => absurd c9 (by decide))
      exact gd (Or.inr (Or.inr (Or.inl k6)))
    refine rr_callV d_Mo_part_69 il_Mo_61 m_Mo_is (u_is_f 4 (by decide) hn k6) rfl rfl rfl rfl (Nat.le_of_ble_eq_true rfl) (by dsimp only; omega) (by dsimp only; omega) (Nat.le_of_ble_eq_true rfl) (Nat.le_of_ble_eq_true rfl) (fun rv9 hp9 hq => ?_)
    obtain ⟨rfl, rfl⟩ := hq
    refine rr_if_ne 84 d_Mo_part_72 (by decide) (fun c9 => absurd (rfl) c9) (fun _ => ?_)
    refine rr_aload_n d_Mo_part_75 rfl rfl ?_
    refine rr_ldcS d_Mo_part_76 sl_Mo_73 ?_
    by_cases k7 : sp_K f n t = 7
    · skip
      refine rr_callV d_Mo_part_78 il_Mo_61 m_Mo_is (u_is_t 5 (by decide) hn k7) rfl rfl rfl rfl (Nat.le_of_ble_eq_true rfl) (by dsimp only; omega) (by dsimp only; omega) (Nat.le_of_ble_eq_true rfl) (Nat.le_of_ble_eq_true rfl) (fun rv9 hp9 hq => ?_)
      obtain ⟨rfl, rfl⟩ := hq
      refine rr_if_eq 93 d_Mo_part_81 (by decide) (fun c9 => absurd c9 (by decide)) (fun _ => ?_)
      exact gd (Or.inr (Or.inr (Or.inr k7)))
    refine rr_callV d_Mo_part_78 il_Mo_61 m_Mo_is (u_is_f 5 (by decide) hn k7) rfl rfl rfl rfl (Nat.le_of_ble_eq_true rfl) (by dsimp only; omega) (by dsimp only; omega) (Nat.le_of_ble_eq_true rfl) (Nat.le_of_ble_eq_true rfl) (fun rv9 hp9 hq => ?_)
    obtain ⟨rfl, rfl⟩ := hq
    refine rr_if_eq 93 d_Mo_part_81 (by decide) (fun _ => ?_) (fun c9 => absurd (rfl) c9)
    refine bd _ ?_ ?_
    · split
      · rfl
      · rw [if_neg (by omega)]
    · split
      · rfl
      · rw [if_neg (by omega)]

theorem sp_wr_3 (cd : Nat → Int32) (y : Nat) (o i : sp_I) (q : Nat × Int32) (v : Int32) (hv : en1 q = [v]) : upd (sp_wr (sp_wr cd y (en o)) (y + (en o).length) (en i)) (y + (en o).length + (en i).length) v = sp_wr cd y (en (o ++ i ++ [q])) := by
  have e : en [q] = [v] := by simp [en, hv]
  rw [en_app, en_app, e, sp_wr_app, sp_wr_app, List.length_append, Nat.add_assoc]
  rfl
theorem en_l_3 (y : Nat) (o i : sp_I) (q : Nat × Int32) (v : Int32) (hv : en1 q = [v]) : y + (en o).length + (en i).length + 1 = y + (en (o ++ i ++ [q])).length := by
  have e : en [q] = [v] := by simp [en, hv]
  rw [en_app, en_app, e, List.length_append, List.length_append]
  show _ = y + ((en o).length + (en i).length + 1)
  omega

set_option maxRecDepth 100000 in
set_option maxHeartbeats 4000000 in
theorem l_Mo_term {x0 x1 x2 x3 x4 x5 x6 x7 x8 x9 x10 x11 x12 x13 x14 x15 x16 x17 x18 x19 x20 x21 x22 x23 x26 : va_E} {g : rr_H} {tm ru pcv : Int32} {lt : Value} {f : Nat → Int32} {n : Nat} {d e p0 y M : Nat} {cd : Nat → Int32} (hn : n ≤ 400) (h0 : sp_K f n M = 0) (hp : (∀ (t p y : Nat) (nu : Int64) (cd : Nat → Int32), t ≤ M → p ≤ 80 → y ≤ 7 * p + 40 → (sp_K f n t = 9 → nu = (sp_V f n t).toInt64) → rr_Spec (3 * d + 8) y_Mo_part c_Mo_part 2 (some .boolean) 0 0 [.ref 24, .int (nI e)] (x0 :: x1 :: x2 :: x3 :: x4 :: x5 :: x6 :: x7 :: x8 :: x9 :: x10 :: x11 :: x12 :: x13 :: x14 :: x15 :: x16 :: x17 :: x18 :: x19 :: x20 :: x21 :: x22 :: x23 :: .inr (6, [.ref 25, .int tm, lt, .ref 26, .int ru, .int (nI (sp_T f n t).2.2.2), .int (nI n), .int (nI (mk (sp_T f n t).1)), .int (nI (sp_T f n t).2.2.1), .int (nI (sp_T f n t).2.2.2), .int (-1), .int (nI p), .long nu, .ref 27, .int (nI y), .ref 28, .ref 29, .ref 30, .ref 31, .int pcv]) :: .inl (1, 400, .inl f) :: x26 :: .inl (0, 1600, .inl (cd)) :: g) (mo_Q f n (sp_part (sp_K f n) (sp_V f n) d t p) y cd (fun t nu fa pa y cd => x0 :: x1 :: x2 :: x3 :: x4 :: x5 :: x6 :: x7 :: x8 :: x9 :: x10 :: x11 :: x12 :: x13 :: x14 :: x15 :: x16 :: x17 :: x18 :: x19 :: x20 :: x21 :: x22 :: x23 :: .inr (6, [.ref 25, .int tm, lt, .ref 26, .int ru, .int (nI (sp_T f n t).2.2.2), .int (nI n), .int (nI (mk (sp_T f n t).1)), .int (nI (sp_T f n t).2.2.1), .int (nI (sp_T f n t).2.2.2), .int fa, .int pa, .long nu, .ref 27, .int (nI y), .ref 28, .ref 29, .ref 30, .ref 31, .int pcv]) :: .inl (1, 400, .inl f) :: x26 :: .inl (0, 1600, .inl (cd)) :: g)))) (hy : y ≤ 7 * p0 + 40) : ∀ (m t p : Nat) (nu : Int64) (o : sp_I), 81 ≤ m + p → t ≤ M → p ≤ 80 → p0 < p → o.length + 1 = 2 * (p - p0) → (sp_K f n t = 9 → nu = (sp_V f n t).toInt64) → rr_A R_Mo c_Mo_term 2 (some .boolean) (false, none) { frames := (3 * d + 9), cells := 0, slots := 0, locals := ((3 * d + 9)) * 64 } (mo_Q f n (sp_tl (sp_K f n) sp_s1 (sp_part (sp_K f n) (sp_V f n) d) m t p o) y cd (fun t nu fa pa y cd => x0 :: x1 :: x2 :: x3 :: x4 :: x5 :: x6 :: x7 :: x8 :: x9 :: x10 :: x11 :: x12 :: x13 :: x14 :: x15 :: x16 :: x17 :: x18 :: x19 :: x20 :: x21 :: x22 :: x23 :: .inr (6, [.ref 25, .int tm, lt, .ref 26, .int ru, .int (nI (sp_T f n t).2.2.2), .int (nI n), .int (nI (mk (sp_T f n t).1)), .int (nI (sp_T f n t).2.2.1), .int (nI (sp_T f n t).2.2.2), .int fa, .int pa, .long nu, .ref 27, .int (nI y), .ref 28, .ref 29, .ref 30, .ref 31, .int pcv]) :: .inl (1, 400, .inl f) :: x26 :: .inl (0, 1600, .inl (cd)) :: g)) 0 0 10 [(0, .ref 24), (1, .int (nI e))] [] (x0 :: x1 :: x2 :: x3 :: x4 :: x5 :: x6 :: x7 :: x8 :: x9 :: x10 :: x11 :: x12 :: x13 :: x14 :: x15 :: x16 :: x17 :: x18 :: x19 :: x20 :: x21 :: x22 :: x23 :: .inr (6, [.ref 25, .int tm, lt, .ref 26, .int ru, .int (nI (sp_T f n t).2.2.2), .int (nI n), .int (nI (mk (sp_T f n t).1)), .int (nI (sp_T f n t).2.2.1), .int (nI (sp_T f n t).2.2.2), .int (-1), .int (nI p), .long nu, .ref 27, .int (nI (y + (en o).length)), .ref 28, .ref 29, .ref 30, .ref 31, .int pcv]) :: .inl (1, 400, .inl f) :: x26 :: .inl (0, 1600, .inl (sp_wr cd y (en o))) :: g) := by
  intro m
  induction m with
  | zero =>
    intro t p nu o hm
    omega
  | succ m ih =>
    intro t p nu o hm htM hp80 hp0 ho h9
    have hle := en_len o
    unfold sp_tl
    refine rr_aload_n d_Mo_term_10 rfl rfl ?_
    refine rr_ldcS d_Mo_term_11 sl_Mo_181 ?_
    have go : ∀ vv : Int32, sp_s1 (sp_K f n t) = true → en1 (sp_K f n t, 0) = [6] → rr_A R_Mo c_Mo_term 2 (some .boolean) (false, none) { frames := (3 * d + 9), cells := 0, slots := 0, locals := ((3 * d + 9)) * 64 } (mo_Q f n (if (sp_part (sp_K f n) (sp_V f n) d (t + 1) p).1 = true then sp_tl (sp_K f n) sp_s1 (sp_part (sp_K f n) (sp_V f n) d) m (sp_part (sp_K f n) (sp_V f n) d (t + 1) p).2.1 (sp_part (sp_K f n) (sp_V f n) d (t + 1) p).2.2.1 (o ++ (sp_part (sp_K f n) (sp_V f n) d (t + 1) p).2.2.2 ++ [(sp_K f n t, 0)]) else (false, (sp_part (sp_K f n) (sp_V f n) d (t + 1) p).2.1, (sp_part (sp_K f n) (sp_V f n) d (t + 1) p).2.2.1, o)) y cd (fun t nu fa pa y cd => x0 :: x1 :: x2 :: x3 :: x4 :: x5 :: x6 :: x7 :: x8 :: x9 :: x10 :: x11 :: x12 :: x13 :: x14 :: x15 :: x16 :: x17 :: x18 :: x19 :: x20 :: x21 :: x22 :: x23 :: .inr (6, [.ref 25, .int tm, lt, .ref 26, .int ru, .int (nI (sp_T f n t).2.2.2), .int (nI n), .int (nI (mk (sp_T f n t).1)), .int (nI (sp_T f n t).2.2.1), .int (nI (sp_T f n t).2.2.2), .int fa, .int pa, .long nu, .ref 27, .int (nI y), .ref 28, .ref 29, .ref 30, .ref 31, .int pcv]) :: .inl (1, 400, .inl f) :: x26 :: .inl (0, 1600, .inl (cd)) :: g)) 0 0 19 [(0, .ref 24), (1, .int (nI e))] [] (x0 :: x1 :: x2 :: x3 :: x4 :: x5 :: x6 :: x7 :: x8 :: x9 :: x10 :: x11 :: x12 :: x13 :: x14 :: x15 :: x16 :: x17 :: x18 :: x19 :: x20 :: x21 :: x22 :: x23 :: .inr (6, [.ref 25, .int tm, lt, .ref 26, .int ru, .int (nI (sp_T f n t).2.2.2), .int (nI n), .int (nI (mk (sp_T f n t).1)), .int (nI (sp_T f n t).2.2.1), .int (nI (sp_T f n t).2.2.2), .int (-1), .int (nI p), .long nu, .ref 27, .int (nI (y + (en o).length)), .ref 28, .ref 29, .ref 30, .ref 31, .int pcv]) :: .inl (1, 400, .inl f) :: x26 :: .inl (0, 1600, .inl (sp_wr cd y (en o))) :: g) := by
      intro vv hsg hen
      have hl : t < M := by
        rcases Nat.lt_or_ge t M with h | h
        · exact h
        · obtain rfl : t = M := by omega
          rw [h0] at hsg
          cases hsg
      have hsd := sp_snd_p (V := sp_V f n) h0 d (t + 1) p hl hp80
      refine rr_aload_n d_Mo_term_19 rfl rfl ?_
      refine rr_callV d_Mo_term_20 il_Mo_117 m_Mo_step (t_step hn) rfl rfl rfl rfl (Nat.le_of_ble_eq_true rfl) (by dsimp only; omega) (by dsimp only; omega) (Nat.le_of_ble_eq_true rfl) (Nat.le_of_ble_eq_true rfl) (fun rv9 hp9 hq => ?_)
      obtain ⟨rfl, nu2, h92, rfl⟩ := hq
      refine rr_aload_n d_Mo_term_23 rfl rfl ?_
      refine rr_iload_n d_Mo_term_24 rfl rfl ?_
      refine rr_callV d_Mo_term_25 il_Mo_178 m_Mo_part (hp (t + 1) p (y + (en o).length) nu2 (sp_wr cd y (en o)) hl hp80 (by omega) h92) rfl rfl rfl rfl (Nat.le_of_ble_eq_true rfl) (by dsimp only; omega) (by dsimp only; omega) (Nat.le_of_ble_eq_true rfl) (Nat.le_of_ble_eq_true rfl) (fun rv9 hp9 hq => ?_)
      obtain ⟨nu3, pa3, y3, cd3, rfl, rfl, h93, hok⟩ := hq
      by_cases ho1 : (sp_part (sp_K f n) (sp_V f n) d (t + 1) p).1 = true
      · rw [if_pos ho1, ho1]
        obtain ⟨rfl, rfl, rfl⟩ := hok ho1
        obtain ⟨j1, j2, j3⟩ := hsd.2 ho1
        have hle2 := en_len (sp_part (sp_K f n) (sp_V f n) d (t + 1) p).2.2.2
        refine rr_if_ne 33 d_Mo_term_28 (by decide) (fun _ => ?_) (fun c9 => absurd c9 (by decide))
        refine rr_aload_n d_Mo_term_33 rfl rfl ?_
        refine rr_bipush 6 d_Mo_term_34 rfl ?_
        refine rr_callV d_Mo_term_36 il_Mo_138 m_Mo_put (s_Mo_put (by omega)) rfl rfl rfl rfl (Nat.le_of_ble_eq_true rfl) (by dsimp only; omega) (by dsimp only; omega) (Nat.le_of_ble_eq_true rfl) (Nat.le_of_ble_eq_true rfl) (fun rv9 hp9 hq => ?_)
        obtain ⟨rfl, rfl⟩ := hq
        refine rr_goto 10 d_Mo_term_39 (by decide) ?_
        rw [sp_wr_3 cd y o _ (sp_K f n t, 0) 6 hen, en_l_3 y o _ (sp_K f n t, 0) 6 hen]
        exact rr_lvs _ rfl (ih _ _ nu3 _ (by omega) hsd.1 j2 (by omega) (by simp; omega) h93)
      · rw [if_neg ho1, (Bool.not_eq_true _).mp ho1]
        refine rr_if_ne 33 d_Mo_term_28 (by decide) (fun c9 => absurd (rfl) c9) (fun _ => ?_)
        refine rr_iconst 0 d_Mo_term_31 rfl ?_
        exact rr_ireturn d_Mo_term_32 rfl rfl (Nat.le_of_ble_eq_true rfl) (Nat.le_of_ble_eq_true rfl) (⟨nu3, pa3, y3, cd3, rfl, rfl, h93, fun h => by cases h⟩)
    by_cases k16 : sp_K f n t = 16
    · have hsg : sp_s1 (sp_K f n t) = true := by rw [k16]; rfl
      rw [if_pos hsg]
      refine rr_callV d_Mo_term_13 il_Mo_61 m_Mo_is (u_is_t 9 (by decide) hn k16) rfl rfl rfl rfl (Nat.le_of_ble_eq_true rfl) (by dsimp only; omega) (by dsimp only; omega) (Nat.le_of_ble_eq_true rfl) (Nat.le_of_ble_eq_true rfl) (fun rv9 hp9 hq => ?_)
      obtain ⟨rfl, rfl⟩ := hq
      refine rr_if_eq 42 d_Mo_term_16 (by decide) (fun c9 => absurd c9 (by decide)) (fun _ => ?_)
      exact go 6 hsg (by rw [k16]; rfl)
    · have hsg : ¬ sp_s1 (sp_K f n t) = true := by simpa [sp_s1] using k16
      rw [if_neg hsg]
      refine rr_callV d_Mo_term_13 il_Mo_61 m_Mo_is (u_is_f 9 (by decide) hn k16) rfl rfl rfl rfl (Nat.le_of_ble_eq_true rfl) (by dsimp only; omega) (by dsimp only; omega) (Nat.le_of_ble_eq_true rfl) (Nat.le_of_ble_eq_true rfl) (fun rv9 hp9 hq => ?_)
      obtain ⟨rfl, rfl⟩ := hq
      refine rr_if_eq 42 d_Mo_term_16 (by decide) (fun _ => ?_) (fun c9 => absurd (rfl) c9)
      refine rr_iconst 1 d_Mo_term_42 rfl ?_
      exact rr_ireturn d_Mo_term_43 rfl rfl (Nat.le_of_ble_eq_true rfl) (Nat.le_of_ble_eq_true rfl) (⟨nu, _, _, _, rfl, rfl, h9, fun _ => ⟨rfl, rfl, rfl⟩⟩)

set_option maxRecDepth 100000 in
set_option maxHeartbeats 4000000 in
theorem s_Mo_term {x0 x1 x2 x3 x4 x5 x6 x7 x8 x9 x10 x11 x12 x13 x14 x15 x16 x17 x18 x19 x20 x21 x22 x23 x26 : va_E} {g : rr_H} {tm ru pcv : Int32} {lt : Value} {f : Nat → Int32} {n : Nat} {d e M : Nat} (hn : n ≤ 400) (h0 : sp_K f n M = 0) (hp : (∀ (t p y : Nat) (nu : Int64) (cd : Nat → Int32), t ≤ M → p ≤ 80 → y ≤ 7 * p + 40 → (sp_K f n t = 9 → nu = (sp_V f n t).toInt64) → rr_Spec (3 * d + 8) y_Mo_part c_Mo_part 2 (some .boolean) 0 0 [.ref 24, .int (nI e)] (x0 :: x1 :: x2 :: x3 :: x4 :: x5 :: x6 :: x7 :: x8 :: x9 :: x10 :: x11 :: x12 :: x13 :: x14 :: x15 :: x16 :: x17 :: x18 :: x19 :: x20 :: x21 :: x22 :: x23 :: .inr (6, [.ref 25, .int tm, lt, .ref 26, .int ru, .int (nI (sp_T f n t).2.2.2), .int (nI n), .int (nI (mk (sp_T f n t).1)), .int (nI (sp_T f n t).2.2.1), .int (nI (sp_T f n t).2.2.2), .int (-1), .int (nI p), .long nu, .ref 27, .int (nI y), .ref 28, .ref 29, .ref 30, .ref 31, .int pcv]) :: .inl (1, 400, .inl f) :: x26 :: .inl (0, 1600, .inl (cd)) :: g) (mo_Q f n (sp_part (sp_K f n) (sp_V f n) d t p) y cd (fun t nu fa pa y cd => x0 :: x1 :: x2 :: x3 :: x4 :: x5 :: x6 :: x7 :: x8 :: x9 :: x10 :: x11 :: x12 :: x13 :: x14 :: x15 :: x16 :: x17 :: x18 :: x19 :: x20 :: x21 :: x22 :: x23 :: .inr (6, [.ref 25, .int tm, lt, .ref 26, .int ru, .int (nI (sp_T f n t).2.2.2), .int (nI n), .int (nI (mk (sp_T f n t).1)), .int (nI (sp_T f n t).2.2.1), .int (nI (sp_T f n t).2.2.2), .int fa, .int pa, .long nu, .ref 27, .int (nI y), .ref 28, .ref 29, .ref 30, .ref 31, .int pcv]) :: .inl (1, 400, .inl f) :: x26 :: .inl (0, 1600, .inl (cd)) :: g)))) : ∀ (t p y : Nat) (nu : Int64) (cd : Nat → Int32), t ≤ M → p ≤ 80 → y ≤ 7 * p + 40 → (sp_K f n t = 9 → nu = (sp_V f n t).toInt64) → rr_Spec (3 * d + 9) y_Mo_term c_Mo_term 2 (some .boolean) 0 0 [.ref 24, .int (nI e)] (x0 :: x1 :: x2 :: x3 :: x4 :: x5 :: x6 :: x7 :: x8 :: x9 :: x10 :: x11 :: x12 :: x13 :: x14 :: x15 :: x16 :: x17 :: x18 :: x19 :: x20 :: x21 :: x22 :: x23 :: .inr (6, [.ref 25, .int tm, lt, .ref 26, .int ru, .int (nI (sp_T f n t).2.2.2), .int (nI n), .int (nI (mk (sp_T f n t).1)), .int (nI (sp_T f n t).2.2.1), .int (nI (sp_T f n t).2.2.2), .int (-1), .int (nI p), .long nu, .ref 27, .int (nI y), .ref 28, .ref 29, .ref 30, .ref 31, .int pcv]) :: .inl (1, 400, .inl f) :: x26 :: .inl (0, 1600, .inl (cd)) :: g) (mo_Q f n (sp_term (sp_K f n) (sp_V f n) d t p) y cd (fun t nu fa pa y cd => x0 :: x1 :: x2 :: x3 :: x4 :: x5 :: x6 :: x7 :: x8 :: x9 :: x10 :: x11 :: x12 :: x13 :: x14 :: x15 :: x16 :: x17 :: x18 :: x19 :: x20 :: x21 :: x22 :: x23 :: .inr (6, [.ref 25, .int tm, lt, .ref 26, .int ru, .int (nI (sp_T f n t).2.2.2), .int (nI n), .int (nI (mk (sp_T f n t).1)), .int (nI (sp_T f n t).2.2.1), .int (nI (sp_T f n t).2.2.2), .int fa, .int pa, .long nu, .ref 27, .int (nI y), .ref 28, .ref 29, .ref 30, .ref 31, .int pcv]) :: .inl (1, 400, .inl f) :: x26 :: .inl (0, 1600, .inl (cd)) :: g)) := by
  intro t p y nu cd htM hp80 hy h9
  have hsd := sp_snd_p (V := sp_V f n) h0 d t p htM hp80
  refine rr_met (own := R_Mo) (kd := (false, none)) (by decide +kernel) rfl (fun h => by cases h) rfl (Nat.le_of_ble_eq_true rfl) ?_
  refine rr_aload_n d_Mo_term_0 rfl rfl ?_
  refine rr_iload_n d_Mo_term_1 rfl rfl ?_
  refine rr_callV d_Mo_term_2 il_Mo_178 m_Mo_part (hp t p y nu cd htM hp80 hy h9) rfl rfl rfl rfl (Nat.le_of_ble_eq_true rfl) (by dsimp only; omega) (by dsimp only; omega) (Nat.le_of_ble_eq_true rfl) (Nat.le_of_ble_eq_true rfl) (fun rv9 hp9 hq => ?_)
  obtain ⟨nu3, pa3, y3, cd3, rfl, rfl, h93, hok⟩ := hq
  unfold sp_term sp_lp
  by_cases ho1 : (sp_part (sp_K f n) (sp_V f n) d t p).1 = true
  · rw [if_pos ho1, ho1]
    obtain ⟨rfl, rfl, rfl⟩ := hok ho1
    obtain ⟨j1, j2, j3⟩ := hsd.2 ho1
    refine rr_if_ne 10 d_Mo_term_5 (by decide) (fun _ => ?_) (fun c9 => absurd c9 (by decide))
    exact l_Mo_term hn h0 hp hy 80 _ _ _ _ (by omega) hsd.1 j2 j1 j3 h93
  · have hof := (Bool.not_eq_true _).mp ho1
    rw [if_neg ho1, hof]
    refine rr_if_ne 10 d_Mo_term_5 (by decide) (fun c9 => absurd (rfl) c9) (fun _ => ?_)
    refine rr_iconst 0 d_Mo_term_8 rfl ?_
    exact rr_ireturn d_Mo_term_9 rfl rfl (Nat.le_of_ble_eq_true rfl) (Nat.le_of_ble_eq_true rfl) (⟨nu3, pa3, y3, cd3, by rw [hof]; rfl, by rw [hof], h93, fun h => absurd h ho1⟩)

set_option maxRecDepth 100000 in
set_option maxHeartbeats 4000000 in
theorem l_Mo_sum {x0 x1 x2 x3 x4 x5 x6 x7 x8 x9 x10 x11 x12 x13 x14 x15 x16 x17 x18 x19 x20 x21 x22 x23 x26 : va_E} {g : rr_H} {tm ru pcv : Int32} {lt : Value} {f : Nat → Int32} {n : Nat} {d e p0 y M : Nat} {cd : Nat → Int32} (hn : n ≤ 400) (h0 : sp_K f n M = 0) (hp : (∀ (t p y : Nat) (nu : Int64) (cd : Nat → Int32), t ≤ M → p ≤ 80 → y ≤ 7 * p + 40 → (sp_K f n t = 9 → nu = (sp_V f n t).toInt64) → rr_Spec (3 * d + 9) y_Mo_term c_Mo_term 2 (some .boolean) 0 0 [.ref 24, .int (nI e)] (x0 :: x1 :: x2 :: x3 :: x4 :: x5 :: x6 :: x7 :: x8 :: x9 :: x10 :: x11 :: x12 :: x13 :: x14 :: x15 :: x16 :: x17 :: x18 :: x19 :: x20 :: x21 :: x22 :: x23 :: .inr (6, [.ref 25, .int tm, lt, .ref 26, .int ru, .int (nI (sp_T f n t).2.2.2), .int (nI n), .int (nI (mk (sp_T f n t).1)), .int (nI (sp_T f n t).2.2.1), .int (nI (sp_T f n t).2.2.2), .int (-1), .int (nI p), .long nu, .ref 27, .int (nI y), .ref 28, .ref 29, .ref 30, .ref 31, .int pcv]) :: .inl (1, 400, .inl f) :: x26 :: .inl (0, 1600, .inl (cd)) :: g) (mo_Q f n (sp_term (sp_K f n) (sp_V f n) d t p) y cd (fun t nu fa pa y cd => x0 :: x1 :: x2 :: x3 :: x4 :: x5 :: x6 :: x7 :: x8 :: x9 :: x10 :: x11 :: x12 :: x13 :: x14 :: x15 :: x16 :: x17 :: x18 :: x19 :: x20 :: x21 :: x22 :: x23 :: .inr (6, [.ref 25, .int tm, lt, .ref 26, .int ru, .int (nI (sp_T f n t).2.2.2), .int (nI n), .int (nI (mk (sp_T f n t).1)), .int (nI (sp_T f n t).2.2.1), .int (nI (sp_T f n t).2.2.2), .int fa, .int pa, .long nu, .ref 27, .int (nI y), .ref 28, .ref 29, .ref 30, .ref 31, .int pcv]) :: .inl (1, 400, .inl f) :: x26 :: .inl (0, 1600, .inl (cd)) :: g)))) (hy : y ≤ 7 * p0 + 40) : ∀ (m t p : Nat) (nu : Int64) (o : sp_I), 81 ≤ m + p → t ≤ M → p ≤ 80 → p0 < p → o.length + 1 = 2 * (p - p0) → (sp_K f n t = 9 → nu = (sp_V f n t).toInt64) → rr_A R_Mo c_Mo_sum 3 (some .boolean) (false, none) { frames := (3 * d + 10), cells := 0, slots := 0, locals := ((3 * d + 10)) * 64 } (mo_Q f n (sp_tl (sp_K f n) sp_s2 (sp_term (sp_K f n) (sp_V f n) d) m t p o) y cd (fun t nu fa pa y cd => x0 :: x1 :: x2 :: x3 :: x4 :: x5 :: x6 :: x7 :: x8 :: x9 :: x10 :: x11 :: x12 :: x13 :: x14 :: x15 :: x16 :: x17 :: x18 :: x19 :: x20 :: x21 :: x22 :: x23 :: .inr (6, [.ref 25, .int tm, lt, .ref 26, .int ru, .int (nI (sp_T f n t).2.2.2), .int (nI n), .int (nI (mk (sp_T f n t).1)), .int (nI (sp_T f n t).2.2.1), .int (nI (sp_T f n t).2.2.2), .int fa, .int pa, .long nu, .ref 27, .int (nI y), .ref 28, .ref 29, .ref 30, .ref 31, .int pcv]) :: .inl (1, 400, .inl f) :: x26 :: .inl (0, 1600, .inl (cd)) :: g)) 0 0 10 [(0, .ref 24), (1, .int (nI e))] [] (x0 :: x1 :: x2 :: x3 :: x4 :: x5 :: x6 :: x7 :: x8 :: x9 :: x10 :: x11 :: x12 :: x13 :: x14 :: x15 :: x16 :: x17 :: x18 :: x19 :: x20 :: x21 :: x22 :: x23 :: .inr (6, [.ref 25, .int tm, lt, .ref 26, .int ru, .int (nI (sp_T f n t).2.2.2), .int (nI n), .int (nI (mk (sp_T f n t).1)), .int (nI (sp_T f n t).2.2.1), .int (nI (sp_T f n t).2.2.2), .int (-1), .int (nI p), .long nu, .ref 27, .int (nI (y + (en o).length)), .ref 28, .ref 29, .ref 30, .ref 31, .int pcv]) :: .inl (1, 400, .inl f) :: x26 :: .inl (0, 1600, .inl (sp_wr cd y (en o))) :: g) := by
  intro m
  induction m with
  | zero =>
    intro t p nu o hm
    omega
  | succ m ih =>
    intro t p nu o hm htM hp80 hp0 ho h9
    have hle := en_len o
    unfold sp_tl
    refine rr_aload_n d_Mo_sum_10 rfl rfl ?_
    refine rr_ldcS d_Mo_sum_11 sl_Mo_174 ?_
    have go : ∀ vv : Int32, sp_s2 (sp_K f n t) = true → en1 (sp_K f n t, 0) = [vv] → rr_A R_Mo c_Mo_sum 3 (some .boolean) (false, none) { frames := (3 * d + 10), cells := 0, slots := 0, locals := ((3 * d + 10)) * 64 } (mo_Q f n (if (sp_term (sp_K f n) (sp_V f n) d (t + 1) p).1 = true then sp_tl (sp_K f n) sp_s2 (sp_term (sp_K f n) (sp_V f n) d) m (sp_term (sp_K f n) (sp_V f n) d (t + 1) p).2.1 (sp_term (sp_K f n) (sp_V f n) d (t + 1) p).2.2.1 (o ++ (sp_term (sp_K f n) (sp_V f n) d (t + 1) p).2.2.2 ++ [(sp_K f n t, 0)]) else (false, (sp_term (sp_K f n) (sp_V f n) d (t + 1) p).2.1, (sp_term (sp_K f n) (sp_V f n) d (t + 1) p).2.2.1, o)) y cd (fun t nu fa pa y cd => x0 :: x1 :: x2 :: x3 :: x4 :: x5 :: x6 :: x7 :: x8 :: x9 :: x10 :: x11 :: x12 :: x13 :: x14 :: x15 :: x16 :: x17 :: x18 :: x19 :: x20 :: x21 :: x22 :: x23 :: .inr (6, [.ref 25, .int tm, lt, .ref 26, .int ru, .int (nI (sp_T f n t).2.2.2), .int (nI n), .int (nI (mk (sp_T f n t).1)), .int (nI (sp_T f n t).2.2.1), .int (nI (sp_T f n t).2.2.2), .int fa, .int pa, .long nu, .ref 27, .int (nI y), .ref 28, .ref 29, .ref 30, .ref 31, .int pcv]) :: .inl (1, 400, .inl f) :: x26 :: .inl (0, 1600, .inl (cd)) :: g)) 0 0 43 ((2, .int vv) :: [(0, .ref 24), (1, .int (nI e))]) [] (x0 :: x1 :: x2 :: x3 :: x4 :: x5 :: x6 :: x7 :: x8 :: x9 :: x10 :: x11 :: x12 :: x13 :: x14 :: x15 :: x16 :: x17 :: x18 :: x19 :: x20 :: x21 :: x22 :: x23 :: .inr (6, [.ref 25, .int tm, lt, .ref 26, .int ru, .int (nI (sp_T f n t).2.2.2), .int (nI n), .int (nI (mk (sp_T f n t).1)), .int (nI (sp_T f n t).2.2.1), .int (nI (sp_T f n t).2.2.2), .int (-1), .int (nI p), .long nu, .ref 27, .int (nI (y + (en o).length)), .ref 28, .ref 29, .ref 30, .ref 31, .int pcv]) :: .inl (1, 400, .inl f) :: x26 :: .inl (0, 1600, .inl (sp_wr cd y (en o))) :: g) := by
      intro vv hsg hen
      have hl : t < M := by
        rcases Nat.lt_or_ge t M with h | h
        · exact h
        · obtain rfl : t = M := by omega
          rw [h0] at hsg
          cases hsg
      have hsd := sp_snd_t (V := sp_V f n) h0 d (t + 1) p hl hp80
      refine rr_aload_n d_Mo_sum_43 rfl rfl ?_
      refine rr_callV d_Mo_sum_44 il_Mo_117 m_Mo_step (t_step hn) rfl rfl rfl rfl (Nat.le_of_ble_eq_true rfl) (by dsimp only; omega) (by dsimp only; omega) (Nat.le_of_ble_eq_true rfl) (Nat.le_of_ble_eq_true rfl) (fun rv9 hp9 hq => ?_)
      obtain ⟨rfl, nu2, h92, rfl⟩ := hq
      refine rr_aload_n d_Mo_sum_47 rfl rfl ?_
      refine rr_iload_n d_Mo_sum_48 rfl rfl ?_
      refine rr_callV d_Mo_sum_49 il_Mo_171 m_Mo_term (hp (t + 1) p (y + (en o).length) nu2 (sp_wr cd y (en o)) hl hp80 (by omega) h92) rfl rfl rfl rfl (Nat.le_of_ble_eq_true rfl) (by dsimp only; omega) (by dsimp only; omega) (Nat.le_of_ble_eq_true rfl) (Nat.le_of_ble_eq_true rfl) (fun rv9 hp9 hq => ?_)
      obtain ⟨nu3, pa3, y3, cd3, rfl, rfl, h93, hok⟩ := hq
      by_cases ho1 : (sp_term (sp_K f n) (sp_V f n) d (t + 1) p).1 = true
      · rw [if_pos ho1, ho1]
        obtain ⟨rfl, rfl, rfl⟩ := hok ho1
        obtain ⟨j1, j2, j3⟩ := hsd.2 ho1
        have hle2 := en_len (sp_term (sp_K f n) (sp_V f n) d (t + 1) p).2.2.2
        refine rr_if_ne 57 d_Mo_sum_52 (by decide) (fun _ => ?_) (fun c9 => absurd c9 (by decide))
        refine rr_aload_n d_Mo_sum_57 rfl rfl ?_
        refine rr_iload_n d_Mo_sum_58 rfl rfl ?_
        refine rr_callV d_Mo_sum_59 il_Mo_138 m_Mo_put (s_Mo_put (by omega)) rfl rfl rfl rfl (Nat.le_of_ble_eq_true rfl) (by dsimp only; omega) (by dsimp only; omega) (Nat.le_of_ble_eq_true rfl) (Nat.le_of_ble_eq_true rfl) (fun rv9 hp9 hq => ?_)
        obtain ⟨rfl, rfl⟩ := hq
        refine rr_goto 10 d_Mo_sum_62 (by decide) ?_
        rw [sp_wr_3 cd y o _ (sp_K f n t, 0) vv hen, en_l_3 y o _ (sp_K f n t, 0) vv hen]
        exact rr_lvs _ rfl (ih _ _ nu3 _ (by omega) hsd.1 j2 (by omega) (by simp; omega) h93)
      · rw [if_neg ho1, (Bool.not_eq_true _).mp ho1]
        refine rr_if_ne 57 d_Mo_sum_52 (by decide) (fun c9 => absurd (rfl) c9) (fun _ => ?_)
        refine rr_iconst 0 d_Mo_sum_55 rfl ?_
        exact rr_ireturn d_Mo_sum_56 rfl rfl (Nat.le_of_ble_eq_true rfl) (Nat.le_of_ble_eq_true rfl) (⟨nu3, pa3, y3, cd3, rfl, rfl, h93, fun h => by cases h⟩)
    by_cases k14 : sp_K f n t = 14
    · have hsg : sp_s2 (sp_K f n t) = true := by rw [k14]; rfl
      rw [if_pos hsg]
      refine rr_callV d_Mo_sum_13 il_Mo_61 m_Mo_is (u_is_t 10 (by decide) hn k14) rfl rfl rfl rfl (Nat.le_of_ble_eq_true rfl) (by dsimp only; omega) (by dsimp only; omega) (Nat.le_of_ble_eq_true rfl) (Nat.le_of_ble_eq_true rfl) (fun rv9 hp9 hq => ?_)
      obtain ⟨rfl, rfl⟩ := hq
      refine rr_if_ne 28 d_Mo_sum_16 (by decide) (fun _ => ?_) (fun c9 => absurd c9 (by decide))
      refine rr_aload_n d_Mo_sum_28 rfl rfl ?_
      refine rr_ldcS d_Mo_sum_29 sl_Mo_174 ?_
      refine rr_callV d_Mo_sum_31 il_Mo_61 m_Mo_is (u_is_t 10 (by decide) hn k14) rfl rfl rfl rfl (Nat.le_of_ble_eq_true rfl) (by dsimp only; omega) (by dsimp only; omega) (Nat.le_of_ble_eq_true rfl) (Nat.le_of_ble_eq_true rfl) (fun rv9 hp9 hq => ?_)
      obtain ⟨rfl, rfl⟩ := hq
      refine rr_if_eq 41 d_Mo_sum_34 (by decide) (fun c9 => absurd c9 (by decide)) (fun _ => ?_)
      refine rr_iconst 4 d_Mo_sum_37 rfl ?_
      refine rr_goto 42 d_Mo_sum_38 (by decide) ?_
      refine rr_istore_n d_Mo_sum_42 rfl (by decide) ?_
      exact rr_lvs _ rfl (go 4 hsg (by rw [k14]; rfl))
    · skip
      refine rr_callV d_Mo_sum_13 il_Mo_61 m_Mo_is (u_is_f 10 (by decide) hn k14) rfl rfl rfl rfl (Nat.le_of_ble_eq_true rfl) (by dsimp only; omega) (by dsimp only; omega) (Nat.le_of_ble_eq_true rfl) (Nat.le_of_ble_eq_true rfl) (fun rv9 hp9 hq => ?_)
      obtain ⟨rfl, rfl⟩ := hq
      refine rr_if_ne 28 d_Mo_sum_16 (by decide) (fun c9 => absurd (rfl) c9) (fun _ => ?_)
      refine rr_aload_n d_Mo_sum_19 rfl rfl ?_
      refine rr_ldcS d_Mo_sum_20 sl_Mo_176 ?_
      by_cases k15 : sp_K f n t = 15
      · have hsg : sp_s2 (sp_K f n t) = true := by rw [k15]; rfl
        rw [if_pos hsg]
        refine rr_callV d_Mo_sum_22 il_Mo_61 m_Mo_is (u_is_t 11 (by decide) hn k15) rfl rfl rfl rfl (Nat.le_of_ble_eq_true rfl) (by dsimp only; omega) (by dsimp only; omega) (Nat.le_of_ble_eq_true rfl) (Nat.le_of_ble_eq_true rfl) (fun rv9 hp9 hq => ?_)
        obtain ⟨rfl, rfl⟩ := hq
        refine rr_if_eq 65 d_Mo_sum_25 (by decide) (fun c9 => absurd c9 (by decide)) (fun _ => ?_)
        refine rr_aload_n d_Mo_sum_28 rfl rfl ?_
        refine rr_ldcS d_Mo_sum_29 sl_Mo_174 ?_
        refine rr_callV d_Mo_sum_31 il_Mo_61 m_Mo_is (u_is_f 10 (by decide) hn k14) rfl rfl rfl rfl (Nat.le_of_ble_eq_true rfl) (by dsimp only; omega) (by dsimp only; omega) (Nat.le_of_ble_eq_true rfl) (Nat.le_of_ble_eq_true rfl) (fun rv9 hp9 hq => ?_)
        obtain ⟨rfl, rfl⟩ := hq
        refine rr_if_eq 41 d_Mo_sum_34 (by decide) (fun _ => ?_) (fun c9 => absurd (rfl) c9)
        refine rr_iconst 5 d_Mo_sum_41 rfl ?_
        refine rr_istore_n d_Mo_sum_42 rfl (by decide) ?_
        exact rr_lvs _ rfl (go 5 hsg (by rw [k15]; rfl))
      · have hsg : ¬ sp_s2 (sp_K f n t) = true := by simp [sp_s2, k14, k15]
        rw [if_neg hsg]
        refine rr_callV d_Mo_sum_22 il_Mo_61 m_Mo_is (u_is_f 11 (by decide) hn k15) rfl rfl rfl rfl (Nat.le_of_ble_eq_true rfl) (by dsimp only; omega) (by dsimp only; omega) (Nat.le_of_ble_eq_true rfl) (Nat.le_of_ble_eq_true rfl) (fun rv9 hp9 hq => ?_)
        obtain ⟨rfl, rfl⟩ := hq
        refine rr_if_eq 65 d_Mo_sum_25 (by decide) (fun _ => ?_) (fun c9 => absurd (rfl) c9)
        refine rr_iconst 1 d_Mo_sum_65 rfl ?_
        exact rr_ireturn d_Mo_sum_66 rfl rfl (Nat.le_of_ble_eq_true rfl) (Nat.le_of_ble_eq_true rfl) (⟨nu, _, _, _, rfl, rfl, h9, fun _ => ⟨rfl, rfl, rfl⟩⟩)

set_option maxRecDepth 100000 in
set_option maxHeartbeats 4000000 in
theorem s_Mo_sum {x0 x1 x2 x3 x4 x5 x6 x7 x8 x9 x10 x11 x12 x13 x14 x15 x16 x17 x18 x19 x20 x21 x22 x23 x26 : va_E} {g : rr_H} {tm ru pcv : Int32} {lt : Value} {f : Nat → Int32} {n : Nat} {d e M : Nat} (hn : n ≤ 400) (h0 : sp_K f n M = 0) (hp : (∀ (t p y : Nat) (nu : Int64) (cd : Nat → Int32), t ≤ M → p ≤ 80 → y ≤ 7 * p + 40 → (sp_K f n t = 9 → nu = (sp_V f n t).toInt64) → rr_Spec (3 * d + 9) y_Mo_term c_Mo_term 2 (some .boolean) 0 0 [.ref 24, .int (nI e)] (x0 :: x1 :: x2 :: x3 :: x4 :: x5 :: x6 :: x7 :: x8 :: x9 :: x10 :: x11 :: x12 :: x13 :: x14 :: x15 :: x16 :: x17 :: x18 :: x19 :: x20 :: x21 :: x22 :: x23 :: .inr (6, [.ref 25, .int tm, lt, .ref 26, .int ru, .int (nI (sp_T f n t).2.2.2), .int (nI n), .int (nI (mk (sp_T f n t).1)), .int (nI (sp_T f n t).2.2.1), .int (nI (sp_T f n t).2.2.2), .int (-1), .int (nI p), .long nu, .ref 27, .int (nI y), .ref 28, .ref 29, .ref 30, .ref 31, .int pcv]) :: .inl (1, 400, .inl f) :: x26 :: .inl (0, 1600, .inl (cd)) :: g) (mo_Q f n (sp_term (sp_K f n) (sp_V f n) d t p) y cd (fun t nu fa pa y cd => x0 :: x1 :: x2 :: x3 :: x4 :: x5 :: x6 :: x7 :: x8 :: x9 :: x10 :: x11 :: x12 :: x13 :: x14 :: x15 :: x16 :: x17 :: x18 :: x19 :: x20 :: x21 :: x22 :: x23 :: .inr (6, [.ref 25, .int tm, lt, .ref 26, .int ru, .int (nI (sp_T f n t).2.2.2), .int (nI n), .int (nI (mk (sp_T f n t).1)), .int (nI (sp_T f n t).2.2.1), .int (nI (sp_T f n t).2.2.2), .int fa, .int pa, .long nu, .ref 27, .int (nI y), .ref 28, .ref 29, .ref 30, .ref 31, .int pcv]) :: .inl (1, 400, .inl f) :: x26 :: .inl (0, 1600, .inl (cd)) :: g)))) : ∀ (t p y : Nat) (nu : Int64) (cd : Nat → Int32), t ≤ M → p ≤ 80 → y ≤ 7 * p + 40 → (sp_K f n t = 9 → nu = (sp_V f n t).toInt64) → rr_Spec (3 * d + 10) y_Mo_sum c_Mo_sum 3 (some .boolean) 0 0 [.ref 24, .int (nI e)] (x0 :: x1 :: x2 :: x3 :: x4 :: x5 :: x6 :: x7 :: x8 :: x9 :: x10 :: x11 :: x12 :: x13 :: x14 :: x15 :: x16 :: x17 :: x18 :: x19 :: x20 :: x21 :: x22 :: x23 :: .inr (6, [.ref 25, .int tm, lt, .ref 26, .int ru, .int (nI (sp_T f n t).2.2.2), .int (nI n), .int (nI (mk (sp_T f n t).1)), .int (nI (sp_T f n t).2.2.1), .int (nI (sp_T f n t).2.2.2), .int (-1), .int (nI p), .long nu, .ref 27, .int (nI y), .ref 28, .ref 29, .ref 30, .ref 31, .int pcv]) :: .inl (1, 400, .inl f) :: x26 :: .inl (0, 1600, .inl (cd)) :: g) (mo_Q f n (sp_sum (sp_K f n) (sp_V f n) d t p) y cd (fun t nu fa pa y cd => x0 :: x1 :: x2 :: x3 :: x4 :: x5 :: x6 :: x7 :: x8 :: x9 :: x10 :: x11 :: x12 :: x13 :: x14 :: x15 :: x16 :: x17 :: x18 :: x19 :: x20 :: x21 :: x22 :: x23 :: .inr (6, [.ref 25, .int tm, lt, .ref 26, .int ru, .int (nI (sp_T f n t).2.2.2), .int (nI n), .int (nI (mk (sp_T f n t).1)), .int (nI (sp_T f n t).2.2.1), .int (nI (sp_T f n t).2.2.2), .int fa, .int pa, .long nu, .ref 27, .int (nI y), .ref 28, .ref 29, .ref 30, .ref 31, .int pcv]) :: .inl (1, 400, .inl f) :: x26 :: .inl (0, 1600, .inl (cd)) :: g)) := by
  intro t p y nu cd htM hp80 hy h9
  have hsd := sp_snd_t (V := sp_V f n) h0 d t p htM hp80
  refine rr_met (own := R_Mo) (kd := (false, none)) (by decide +kernel) rfl (fun h => by cases h) rfl (Nat.le_of_ble_eq_true rfl) ?_
  refine rr_aload_n d_Mo_sum_0 rfl rfl ?_
  refine rr_iload_n d_Mo_sum_1 rfl rfl ?_
  refine rr_callV d_Mo_sum_2 il_Mo_171 m_Mo_term (hp t p y nu cd htM hp80 hy h9) rfl rfl rfl rfl (Nat.le_of_ble_eq_true rfl) (by dsimp only; omega) (by dsimp only; omega) (Nat.le_of_ble_eq_true rfl) (Nat.le_of_ble_eq_true rfl) (fun rv9 hp9 hq => ?_)
  obtain ⟨nu3, pa3, y3, cd3, rfl, rfl, h93, hok⟩ := hq
  unfold sp_sum sp_lp
  by_cases ho1 : (sp_term (sp_K f n) (sp_V f n) d t p).1 = true
  · rw [if_pos ho1, ho1]
    obtain ⟨rfl, rfl, rfl⟩ := hok ho1
    obtain ⟨j1, j2, j3⟩ := hsd.2 ho1
    refine rr_if_ne 10 d_Mo_sum_5 (by decide) (fun _ => ?_) (fun c9 => absurd c9 (by decide))
    exact l_Mo_sum hn h0 hp hy 80 _ _ _ _ (by omega) hsd.1 j2 j1 j3 h93
  · have hof := (Bool.not_eq_true _).mp ho1
    rw [if_neg ho1, hof]
    refine rr_if_ne 10 d_Mo_sum_5 (by decide) (fun c9 => absurd (rfl) c9) (fun _ => ?_)
    refine rr_iconst 0 d_Mo_sum_8 rfl ?_
    exact rr_ireturn d_Mo_sum_9 rfl rfl (Nat.le_of_ble_eq_true rfl) (Nat.le_of_ble_eq_true rfl) (⟨nu3, pa3, y3, cd3, by rw [hof]; rfl, by rw [hof], h93, fun h => absurd h ho1⟩)

theorem u_sum_all {x0 x1 x2 x3 x4 x5 x6 x7 x8 x9 x10 x11 x12 x13 x14 x15 x16 x17 x18 x19 x20 x21 x22 x23 x26 : va_E} {g : rr_H} {tm ru pcv : Int32} {lt : Value} {f : Nat → Int32} {n : Nat} {M : Nat} (hn : n ≤ 400) (h0 : sp_K f n M = 0) : ∀ (d e : Nat), e + d = 6 → (∀ (t p y : Nat) (nu : Int64) (cd : Nat → Int32), t ≤ M → p ≤ 80 → y ≤ 7 * p + 40 → (sp_K f n t = 9 → nu = (sp_V f n t).toInt64) → rr_Spec (3 * d + 10) y_Mo_sum c_Mo_sum 3 (some .boolean) 0 0 [.ref 24, .int (nI e)] (x0 :: x1 :: x2 :: x3 :: x4 :: x5 :: x6 :: x7 :: x8 :: x9 :: x10 :: x11 :: x12 :: x13 :: x14 :: x15 :: x16 :: x17 :: x18 :: x19 :: x20 :: x21 :: x22 :: x23 :: .inr (6, [.ref 25, .int tm, lt, .ref 26, .int ru, .int (nI (sp_T f n t).2.2.2), .int (nI n), .int (nI (mk (sp_T f n t).1)), .int (nI (sp_T f n t).2.2.1), .int (nI (sp_T f n t).2.2.2), .int (-1), .int (nI p), .long nu, .ref 27, .int (nI y), .ref 28, .ref 29, .ref 30, .ref 31, .int pcv]) :: .inl (1, 400, .inl f) :: x26 :: .inl (0, 1600, .inl (cd)) :: g) (mo_Q f n (sp_sum (sp_K f n) (sp_V f n) d t p) y cd (fun t nu fa pa y cd => x0 :: x1 :: x2 :: x3 :: x4 :: x5 :: x6 :: x7 :: x8 :: x9 :: x10 :: x11 :: x12 :: x13 :: x14 :: x15 :: x16 :: x17 :: x18 :: x19 :: x20 :: x21 :: x22 :: x23 :: .inr (6, [.ref 25, .int tm, lt, .ref 26, .int ru, .int (nI (sp_T f n t).2.2.2), .int (nI n), .int (nI (mk (sp_T f n t).1)), .int (nI (sp_T f n t).2.2.1), .int (nI (sp_T f n t).2.2.2), .int fa, .int pa, .long nu, .ref 27, .int (nI y), .ref 28, .ref 29, .ref 30, .ref 31, .int pcv]) :: .inl (1, 400, .inl f) :: x26 :: .inl (0, 1600, .inl (cd)) :: g)))
  | 0, e, he => by
    obtain rfl : e = 6 := by omega
    exact s_Mo_sum hn h0 (s_Mo_term hn h0 (s_Mo_part_0 hn))
  | d + 1, e, he => s_Mo_sum (d := d + 1) hn h0 (s_Mo_term hn h0 (s_Mo_part_1 hn h0 (by omega) (u_sum_all hn h0 d (e + 1) (by omega))))
