/-! Doing: what both programs compute. -/
def st_of (f : Nat → Int32) : Nat → List Int32
  | 0 => []
  | n + 1 => f n :: st_of f n
theorem st_of_upd {f : Nat → Int32} {k : Nat} {v : Int32} : ∀ {n : Nat}, n ≤ k → st_of (upd f k v) n = st_of f n
  | 0, _ => rfl
  | n + 1, h => by
    show upd f k v n :: st_of (upd f k v) n = f n :: st_of f n
    rw [pk_un (by omega), st_of_upd (by omega)]
theorem st_of_push {f : Nat → Int32} {n : Nat} {v : Int32} : st_of (upd f n v) (n + 1) = v :: st_of f n := by
  show upd f n v n :: st_of (upd f n v) n = _
  rw [pk_us, st_of_upd (Nat.le_refl _)]
theorem st_of_len {f : Nat → Int32} : ∀ (n : Nat), (st_of f n).length = n
  | 0 => rfl
  | n + 1 => by show (st_of f n).length + 1 = n + 1; rw [st_of_len n]
def sp_op (k : Nat) (x y : Int32) : Int32 := if k = 14 then x + y else if k = 15 then x - y else x * y
def sp_it (fc : Nat → Int32) (sv sp : Int32) (q : Nat × Int32) (S : List Int32) : List Int32 :=
  if q.1 = 9 then q.2 :: S else if q.1 = 8 then fc q.2.toNatClampNeg :: S else if q.1 = 6 then sv :: S else if q.1 = 7 then sp :: S else match S with
    | y :: x :: t => sp_op q.1 x y :: t
    | _ => S
def sp_ev (fc : Nat → Int32) (sv sp : Int32) : sp_I → List Int32 → List Int32
  | [], S => S
  | q :: l, S => sp_ev fc sv sp l (sp_it fc sv sp q S)
def sp_psh (k : Nat) : Bool := k == 9 || k == 8 || k == 6 || k == 7
def sp_isop (k : Nat) : Bool := k == 14 || k == 15 || k == 16
/-- the stack's height behind the items, if they never find it too low -/
def sp_ht : sp_I → Nat → Option Nat
  | [], n => some n
  | q :: l, n => if sp_psh q.1 = true then sp_ht l (n + 1) else if sp_isop q.1 = true ∧ 2 ≤ n then sp_ht l (n - 1) else none
def sp_np : sp_I → Nat
  | [] => 0
  | q :: l => (if sp_psh q.1 = true then 1 else 0) + sp_np l
def sp_ce (x : sp_I) : Prop := ∀ q ∈ x, q.1 = 8 → ∃ c : Nat, c < 32 ∧ q.2 = nI c
def sp_cv (g : Nat) (x y : Int32) : Bool := if g = 10 then decide (x = y) else if g = 11 then decide (¬ x = y) else if g = 12 then decide (x < y) else decide (y < x)
def sp_val (fc : Nat → Int32) (sv sp : Int32) (x : sp_I) : Int32 := (sp_ev fc sv sp x []).headD 0
theorem sp_ht_app : ∀ (a b : sp_I) (n : Nat), sp_ht (a ++ b) n = (sp_ht a n).bind (sp_ht b)
  | [], b, n => rfl
  | q :: a, b, n => by
    show (if sp_psh q.1 = true then sp_ht (a ++ b) (n + 1) else if sp_isop q.1 = true ∧ 2 ≤ n then sp_ht (a ++ b) (n - 1) else none) = (if sp_psh q.1 = true then sp_ht a (n + 1) else if sp_isop q.1 = true ∧ 2 ≤ n then sp_ht a (n - 1) else none).bind (sp_ht b)
    by_cases h : sp_psh q.1 = true
    · rw [if_pos h, if_pos h]
      exact sp_ht_app a b _
    · rw [if_neg h, if_neg h]
      by_cases h2 : sp_isop q.1 = true ∧ 2 ≤ n
      · rw [if_pos h2, if_pos h2]
        exact sp_ht_app a b _
      · rw [if_neg h2, if_neg h2]
        rfl
theorem sp_ht_up : ∀ (a : sp_I) (n m k : Nat), sp_ht a n = some m → sp_ht a (n + k) = some (m + k)
  | [], n, m, k, h => by
    cases h
    rfl
  | q :: a, n, m, k, h => by
    unfold sp_ht at h ⊢
    by_cases hp : sp_psh q.1 = true
    · rw [if_pos hp] at h ⊢
      rw [show n + k + 1 = n + 1 + k by omega]
      exact sp_ht_up a _ _ _ h
    · rw [if_neg hp] at h ⊢
      by_cases h2 : sp_isop q.1 = true ∧ 2 ≤ n
      · rw [if_pos h2] at h
        rw [if_pos ⟨h2.1, by omega⟩, show n + k - 1 = n - 1 + k by omega]
        exact sp_ht_up a _ _ _ h
      · rw [if_neg h2] at h
        cases h
theorem sp_np_app : ∀ (a b : sp_I), sp_np (a ++ b) = sp_np a + sp_np b
  | [], b => by simp [sp_np]
  | q :: a, b => by
    show (if sp_psh q.1 = true then 1 else 0) + sp_np (a ++ b) = (if sp_psh q.1 = true then 1 else 0) + sp_np a + sp_np b
    rw [sp_np_app a b]
    omega
theorem sp_it_push {fc : Nat → Int32} {sv sp : Int32} {q : Nat × Int32} {S R : List Int32} (h : sp_psh q.1 = true) : sp_it fc sv sp q (S ++ R) = sp_it fc sv sp q S ++ R ∧ (sp_it fc sv sp q S).length = S.length + 1 := by
  unfold sp_it
  by_cases h9 : q.1 = 9
  · simp only [if_pos h9]; exact ⟨rfl, rfl⟩
  simp only [if_neg h9]
  by_cases h8 : q.1 = 8
  · simp only [if_pos h8]; exact ⟨rfl, rfl⟩
  simp only [if_neg h8]
  by_cases h6 : q.1 = 6
  · simp only [if_pos h6]; exact ⟨rfl, rfl⟩
  simp only [if_neg h6]
  by_cases h7 : q.1 = 7
  · simp only [if_pos h7]; exact ⟨rfl, rfl⟩
  simp [sp_psh, h9, h8, h6, h7] at h
theorem sp_it_op {fc : Nat → Int32} {sv sp : Int32} {q : Nat × Int32} {y x : Int32} {t : List Int32} (h : ¬ sp_psh q.1 = true) : sp_it fc sv sp q (y :: x :: t) = sp_op q.1 x y :: t := by
  simp [sp_psh] at h
  unfold sp_it
  rw [if_neg (by simp [h]), if_neg (by simp [h]), if_neg (by simp [h]), if_neg (by simp [h])]
/-- what lies deeper isn't touched -/
theorem sp_ev_deep {fc : Nat → Int32} {sv sp : Int32} : ∀ (x : sp_I) (n m : Nat) (S R : List Int32), S.length = n → sp_ht x n = some m → sp_ev fc sv sp x (S ++ R) = sp_ev fc sv sp x S ++ R ∧ (sp_ev fc sv sp x S).length = m
  | [], n, m, S, R, hS, h => by
    cases h
    exact ⟨rfl, hS⟩
  | q :: l, n, m, S, R, hS, h => by
    show sp_ev fc sv sp l (sp_it fc sv sp q (S ++ R)) = sp_ev fc sv sp l (sp_it fc sv sp q S) ++ R ∧ (sp_ev fc sv sp l (sp_it fc sv sp q S)).length = m
    unfold sp_ht at h
    by_cases hp : sp_psh q.1 = true
    · rw [if_pos hp] at h
      obtain ⟨e1, e2⟩ := sp_it_push (fc := fc) (sv := sv) (sp := sp) (S := S) (R := R) hp
      rw [e1]
      exact sp_ev_deep l (n + 1) m _ R (by rw [e2, hS]) h
    · rw [if_neg hp] at h
      by_cases h2 : sp_isop q.1 = true ∧ 2 ≤ n
      · rw [if_pos h2] at h
        match S, hS with
        | [], hS => simp at hS; omega
        | [a], hS => simp at hS; omega
        | y :: x :: t, hS =>
          rw [List.cons_append, List.cons_append, sp_it_op hp, sp_it_op hp]
          have := sp_ev_deep (fc := fc) (sv := sv) (sp := sp) l (n - 1) m (sp_op q.1 x y :: t) R (by simp at hS ⊢; omega) h
          rwa [List.cons_append] at this
      · rw [if_neg h2] at h
        cases h
theorem sp_ev_val {fc : Nat → Int32} {sv sp : Int32} {x : sp_I} (h : sp_ht x 0 = some 1) (S : List Int32) : sp_ev fc sv sp x S = sp_val fc sv sp x :: S := by
  obtain ⟨e1, e2⟩ := sp_ev_deep (fc := fc) (sv := sv) (sp := sp) x 0 1 [] S rfl h
  rw [List.nil_append] at e1
  rw [e1]
  unfold sp_val
  match hv : sp_ev fc sv sp x [], e2 with
  | [v], _ => rfl
  | [], e2 => simp at e2
  | a :: b :: t, e2 => simp at e2

set_option maxRecDepth 100000 in
set_option maxHeartbeats 4000000 in
theorem s_Ma_push {x0 x1 x2 x3 x4 x5 x6 x7 x8 x9 x10 x11 x13 : va_E} {g : rr_H} {ef cg ru : Int32} {fs : Nat → Int32} {n : Nat} {v : Int32} (hn : n < 80) : rr_Spec 0 y_Ma_push c_Ma_push 2 none 0 0 [.ref 12, .int v] (x0 :: x1 :: x2 :: x3 :: x4 :: x5 :: x6 :: x7 :: x8 :: x9 :: x10 :: x11 :: .inr (1, [.ref 13, .ref 14, .int (nI n), .ref 15, .ref 16, .int ef, .ref 17, .ref 18, .int cg, .ref 19, .int ru]) :: x13 :: .inl (0, 80, .inl (fs)) :: g) (fun r h1 => r = none ∧ h1 = x0 :: x1 :: x2 :: x3 :: x4 :: x5 :: x6 :: x7 :: x8 :: x9 :: x10 :: x11 :: .inr (1, [.ref 13, .ref 14, .int (nI (n + 1)), .ref 15, .ref 16, .int ef, .ref 17, .ref 18, .int cg, .ref 19, .int ru]) :: x13 :: .inl (0, 80, .inl (upd fs n v)) :: g) := by
  refine rr_met (own := R_Ma) (kd := (false, none)) (by decide +kernel) rfl (fun h => by cases h) rfl (Nat.le_of_ble_eq_true rfl) ?_
  refine rr_aload_n d_Ma_push_0 rfl rfl ?_
  refine rr_getf d_Ma_push_1 fl_Ma_55 rfl rfl ?_
  refine rr_bipush 80 d_Ma_push_4 rfl ?_
  refine rr_icmp_ge 29 d_Ma_push_6 (by decide) (fun c9 => absurd c9 (nI_ge (a := n) (b := 80) hn (by decide))) (fun _ => ?_)
  refine rr_aload_n d_Ma_push_9 rfl rfl ?_
  refine rr_getf d_Ma_push_10 fl_Ma_15 rfl rfl ?_
  refine rr_aload_n d_Ma_push_13 rfl rfl ?_
  refine rr_getf d_Ma_push_14 fl_Ma_55 rfl rfl ?_
  refine rr_iload_n d_Ma_push_17 rfl rfl ?_
  refine rr_iast d_Ma_push_18 rfl (vp_in_nI hn (by decide)) ?_
  refine rr_aload_n d_Ma_push_19 rfl rfl ?_
  refine rr_dup d_Ma_push_20 rfl ?_
  refine rr_getf d_Ma_push_21 fl_Ma_55 rfl rfl ?_
  refine rr_iconst 1 d_Ma_push_24 rfl ?_
  refine rr_iadd d_Ma_push_25 ?_
  refine rr_putf d_Ma_push_26 fl_Ma_55 rfl rfl rfl rfl ?_
  rw [nI_1, nI_clamp (by omega)]
  exact rr_return d_Ma_push_29 rfl (Nat.le_of_ble_eq_true rfl) (Nat.le_of_ble_eq_true rfl) (⟨rfl, rfl⟩)

set_option maxRecDepth 100000 in
set_option maxHeartbeats 4000000 in
theorem s_Ma_pop {x0 x1 x2 x3 x4 x5 x6 x7 x8 x9 x10 x11 x13 : va_E} {g : rr_H} {ef cg ru : Int32} {fs : Nat → Int32} {n : Nat} (hn : n < 80) : rr_Spec 0 y_Ma_pop c_Ma_pop 1 (some .int) 0 0 [.ref 12] (x0 :: x1 :: x2 :: x3 :: x4 :: x5 :: x6 :: x7 :: x8 :: x9 :: x10 :: x11 :: .inr (1, [.ref 13, .ref 14, .int (nI (n + 1)), .ref 15, .ref 16, .int ef, .ref 17, .ref 18, .int cg, .ref 19, .int ru]) :: x13 :: .inl (0, 80, .inl (fs)) :: g) (fun r h1 => r = some (.int (fs n)) ∧ h1 = x0 :: x1 :: x2 :: x3 :: x4 :: x5 :: x6 :: x7 :: x8 :: x9 :: x10 :: x11 :: .inr (1, [.ref 13, .ref 14, .int (nI n), .ref 15, .ref 16, .int ef, .ref 17, .ref 18, .int cg, .ref 19, .int ru]) :: x13 :: .inl (0, 80, .inl (fs)) :: g) := by
  refine rr_met (own := R_Ma) (kd := (false, none)) (by decide +kernel) rfl (fun h => by cases h) rfl (Nat.le_of_ble_eq_true rfl) ?_
  refine rr_aload_n d_Ma_pop_0 rfl rfl ?_
  refine rr_getf d_Ma_pop_1 fl_Ma_55 rfl rfl ?_
  refine rr_if_ne 9 d_Ma_pop_4 (by decide) (fun _ => ?_) (fun c9 => absurd c9 (nI_ne0 (by omega) (by omega)))
  refine rr_aload_n d_Ma_pop_9 rfl rfl ?_
  refine rr_dup d_Ma_pop_10 rfl ?_
  refine rr_getf d_Ma_pop_11 fl_Ma_55 rfl rfl ?_
  refine rr_iconst 1 d_Ma_pop_14 rfl ?_
  refine rr_isub d_Ma_pop_15 ?_
  refine rr_putf d_Ma_pop_16 fl_Ma_55 rfl rfl rfl rfl ?_
  rw [nI_pred]
  refine rr_aload_n d_Ma_pop_19 rfl rfl ?_
  refine rr_getf d_Ma_pop_20 fl_Ma_15 rfl rfl ?_
  refine rr_aload_n d_Ma_pop_23 rfl rfl ?_
  refine rr_getf d_Ma_pop_24 fl_Ma_55 rfl rfl ?_
  refine rr_iald d_Ma_pop_27 rfl (vp_in_nI hn (by decide)) ?_
  rw [nI_clamp (by omega)]
  exact rr_ireturn d_Ma_pop_28 rfl rfl (Nat.le_of_ble_eq_true rfl) (Nat.le_of_ble_eq_true rfl) (⟨rfl, rfl⟩)

set_option maxRecDepth 100000 in
set_option maxHeartbeats 4000000 in
theorem s_Ma_calculate {x0 x1 x2 x3 x4 x5 x6 x7 x8 x9 x10 x11 x13 : va_E} {g : rr_H} {ef cg ru : Int32} {fs : Nat → Int32} {n : Nat} {k : Nat} (hn : n + 2 ≤ 80) (hk : k = 14 ∨ k = 15 ∨ k = 16) : rr_Spec 1 y_Ma_calculate c_Ma_calculate 4 none 0 0 [.ref 12, .int (nI k)] (x0 :: x1 :: x2 :: x3 :: x4 :: x5 :: x6 :: x7 :: x8 :: x9 :: x10 :: x11 :: .inr (1, [.ref 13, .ref 14, .int (nI (n + 2)), .ref 15, .ref 16, .int ef, .ref 17, .ref 18, .int cg, .ref 19, .int ru]) :: x13 :: .inl (0, 80, .inl (fs)) :: g) (fun r h1 => r = none ∧ h1 = x0 :: x1 :: x2 :: x3 :: x4 :: x5 :: x6 :: x7 :: x8 :: x9 :: x10 :: x11 :: .inr (1, [.ref 13, .ref 14, .int (nI (n + 1)), .ref 15, .ref 16, .int ef, .ref 17, .ref 18, .int cg, .ref 19, .int ru]) :: x13 :: .inl (0, 80, .inl (upd fs n (sp_op k (fs n) (fs (n + 1))))) :: g) := by
  refine rr_met (own := R_Ma) (kd := (false, none)) (by decide +kernel) rfl (fun h => by cases h) rfl (Nat.le_of_ble_eq_true rfl) ?_
  refine rr_aload_n d_Ma_calculate_0 rfl rfl ?_
  refine rr_callV d_Ma_calculate_1 il_Ma_71 m_Ma_pop (s_Ma_pop (n := n + 1) (by omega)) rfl rfl rfl rfl (Nat.le_of_ble_eq_true rfl) (Nat.le_of_ble_eq_true rfl) (Nat.le_of_ble_eq_true rfl) (Nat.le_of_ble_eq_true rfl) (Nat.le_of_ble_eq_true rfl) (fun r h1 hq => ?_)
  obtain ⟨rfl, rfl⟩ := hq
  refine rr_istore_n d_Ma_calculate_4 rfl (by decide) ?_
  refine rr_aload_n d_Ma_calculate_5 rfl rfl ?_
  refine rr_callV d_Ma_calculate_6 il_Ma_71 m_Ma_pop (s_Ma_pop (n := n) (by omega)) rfl rfl rfl rfl (Nat.le_of_ble_eq_true rfl) (Nat.le_of_ble_eq_true rfl) (Nat.le_of_ble_eq_true rfl) (Nat.le_of_ble_eq_true rfl) (Nat.le_of_ble_eq_true rfl) (fun r h1 hq => ?_)
  obtain ⟨rfl, rfl⟩ := hq
  refine rr_istore_n d_Ma_calculate_9 rfl (by decide) ?_
  refine rr_iload_n d_Ma_calculate_10 rfl rfl ?_
  rcases hk with rfl | rfl | rfl
  · refine rr_lsw 36 25 d_Ma_calculate_11 (by decide) (by decide) (by decide) ?_
    refine rr_aload_n d_Ma_calculate_36 rfl rfl ?_
    refine rr_iload_n d_Ma_calculate_37 rfl rfl ?_
    refine rr_iload_n d_Ma_calculate_38 rfl rfl ?_
    refine rr_iadd d_Ma_calculate_39 ?_
    refine rr_callV d_Ma_calculate_40 il_Ma_67 m_Ma_push (s_Ma_push (n := n) (by omega)) rfl rfl rfl rfl (Nat.le_of_ble_eq_true rfl) (Nat.le_of_ble_eq_true rfl) (Nat.le_of_ble_eq_true rfl) (Nat.le_of_ble_eq_true rfl) (Nat.le_of_ble_eq_true rfl) (fun r h1 hq => ?_)
    obtain ⟨rfl, rfl⟩ := hq
    refine rr_goto 63 d_Ma_calculate_43 (by decide) ?_
    exact rr_return d_Ma_calculate_63 rfl (Nat.le_of_ble_eq_true rfl) (Nat.le_of_ble_eq_true rfl) (⟨rfl, rfl⟩)
  · refine rr_lsw 46 35 d_Ma_calculate_11 (by decide) (by decide) (by decide) ?_
    refine rr_aload_n d_Ma_calculate_46 rfl rfl ?_
    refine rr_iload_n d_Ma_calculate_47 rfl rfl ?_
    refine rr_iload_n d_Ma_calculate_48 rfl rfl ?_
    refine rr_isub d_Ma_calculate_49 ?_
    refine rr_callV d_Ma_calculate_50 il_Ma_67 m_Ma_push (s_Ma_push (n := n) (by omega)) rfl rfl rfl rfl (Nat.le_of_ble_eq_true rfl) (Nat.le_of_ble_eq_true rfl) (Nat.le_of_ble_eq_true rfl) (Nat.le_of_ble_eq_true rfl) (Nat.le_of_ble_eq_true rfl) (fun r h1 hq => ?_)
    obtain ⟨rfl, rfl⟩ := hq
    refine rr_goto 63 d_Ma_calculate_53 (by decide) ?_
    exact rr_return d_Ma_calculate_63 rfl (Nat.le_of_ble_eq_true rfl) (Nat.le_of_ble_eq_true rfl) (⟨rfl, rfl⟩)
  · refine rr_lsw 56 45 d_Ma_calculate_11 (by decide) (by decide) (by decide) ?_
    refine rr_aload_n d_Ma_calculate_56 rfl rfl ?_
    refine rr_iload_n d_Ma_calculate_57 rfl rfl ?_
    refine rr_iload_n d_Ma_calculate_58 rfl rfl ?_
    refine rr_imul d_Ma_calculate_59 ?_
    refine rr_callV d_Ma_calculate_60 il_Ma_67 m_Ma_push (s_Ma_push (n := n) (by omega)) rfl rfl rfl rfl (Nat.le_of_ble_eq_true rfl) (Nat.le_of_ble_eq_true rfl) (Nat.le_of_ble_eq_true rfl) (Nat.le_of_ble_eq_true rfl) (Nat.le_of_ble_eq_true rfl) (fun r h1 hq => ?_)
    obtain ⟨rfl, rfl⟩ := hq
    exact rr_return d_Ma_calculate_63 rfl (Nat.le_of_ble_eq_true rfl) (Nat.le_of_ble_eq_true rfl) (⟨rfl, rfl⟩)

set_option maxRecDepth 100000 in
set_option maxHeartbeats 4000000 in
theorem s_Ma_holds {x0 x1 x2 x3 x4 x5 x6 x7 x8 x9 x10 x11 x13 : va_E} {g : rr_H} {ef cg ru : Int32} {fs : Nat → Int32} {n : Nat} {k : Nat} (hn : n + 2 ≤ 80) (hk : k = 10 ∨ k = 11 ∨ k = 12 ∨ k = 13) : rr_Spec 1 y_Ma_holds c_Ma_holds 4 (some .boolean) 0 0 [.ref 12, .int (nI k)] (x0 :: x1 :: x2 :: x3 :: x4 :: x5 :: x6 :: x7 :: x8 :: x9 :: x10 :: x11 :: .inr (1, [.ref 13, .ref 14, .int (nI (n + 2)), .ref 15, .ref 16, .int ef, .ref 17, .ref 18, .int cg, .ref 19, .int ru]) :: x13 :: .inl (0, 80, .inl (fs)) :: g) (fun r h1 => r = some (.int (sp_b (sp_cv k (fs n) (fs (n + 1))))) ∧ h1 = x0 :: x1 :: x2 :: x3 :: x4 :: x5 :: x6 :: x7 :: x8 :: x9 :: x10 :: x11 :: .inr (1, [.ref 13, .ref 14, .int (nI n), .ref 15, .ref 16, .int ef, .ref 17, .ref 18, .int cg, .ref 19, .int ru]) :: x13 :: .inl (0, 80, .inl (fs)) :: g) := by
  refine rr_met (own := R_Ma) (kd := (false, none)) (by decide +kernel) rfl (fun h => by cases h) rfl (Nat.le_of_ble_eq_true rfl) ?_
  refine rr_aload_n d_Ma_holds_0 rfl rfl ?_
  refine rr_callV d_Ma_holds_1 il_Ma_71 m_Ma_pop (s_Ma_pop (n := n + 1) (by omega)) rfl rfl rfl rfl (Nat.le_of_ble_eq_true rfl) (Nat.le_of_ble_eq_true rfl) (Nat.le_of_ble_eq_true rfl) (Nat.le_of_ble_eq_true rfl) (Nat.le_of_ble_eq_true rfl) (fun r h1 hq => ?_)
  obtain ⟨rfl, rfl⟩ := hq
  refine rr_istore_n d_Ma_holds_4 rfl (by decide) ?_
  refine rr_aload_n d_Ma_holds_5 rfl rfl ?_
  refine rr_callV d_Ma_holds_6 il_Ma_71 m_Ma_pop (s_Ma_pop (n := n) (by omega)) rfl rfl rfl rfl (Nat.le_of_ble_eq_true rfl) (Nat.le_of_ble_eq_true rfl) (Nat.le_of_ble_eq_true rfl) (Nat.le_of_ble_eq_true rfl) (Nat.le_of_ble_eq_true rfl) (fun r h1 hq => ?_)
  obtain ⟨rfl, rfl⟩ := hq
  refine rr_istore_n d_Ma_holds_9 rfl (by decide) ?_
  refine rr_iload_n d_Ma_holds_10 rfl rfl ?_
  rcases hk with rfl | rfl | rfl | rfl
  · rw [show sp_cv 10 (fs n) (fs (n + 1)) = decide (fs n = fs (n + 1)) from rfl]
    refine rr_tin 36 25 d_Ma_holds_11 (by decide) (by decide) rfl (by decide) ?_
    refine rr_iload_n d_Ma_holds_36 rfl rfl ?_
    refine rr_iload_n d_Ma_holds_37 rfl rfl ?_
    refine rr_icmp_ne 45 d_Ma_holds_38 (by decide) (fun hc => ?_) (fun hc => ?_)
    · rw [decide_eq_false hc]
      refine rr_iconst 0 d_Ma_holds_45 rfl ?_
      exact rr_ireturn d_Ma_holds_46 rfl rfl (Nat.le_of_ble_eq_true rfl) (Nat.le_of_ble_eq_true rfl) (⟨rfl, rfl⟩)
    · rw [decide_eq_true hc]
      refine rr_iconst 1 d_Ma_holds_41 rfl ?_
      refine rr_goto 46 d_Ma_holds_42 (by decide) ?_
      exact rr_ireturn d_Ma_holds_46 rfl rfl (Nat.le_of_ble_eq_true rfl) (Nat.le_of_ble_eq_true rfl) (⟨rfl, rfl⟩)
  · rw [show sp_cv 11 (fs n) (fs (n + 1)) = decide (¬ fs n = fs (n + 1)) from rfl]
    refine rr_tin 47 36 d_Ma_holds_11 (by decide) (by decide) rfl (by decide) ?_
    refine rr_iload_n d_Ma_holds_47 rfl rfl ?_
    refine rr_iload_n d_Ma_holds_48 rfl rfl ?_
    refine rr_icmp_eq 56 d_Ma_holds_49 (by decide) (fun hc => ?_) (fun hc => ?_)
    · rw [decide_eq_false (fun q => q hc)]
      refine rr_iconst 0 d_Ma_holds_56 rfl ?_
      exact rr_ireturn d_Ma_holds_57 rfl rfl (Nat.le_of_ble_eq_true rfl) (Nat.le_of_ble_eq_true rfl) (⟨rfl, rfl⟩)
    · rw [decide_eq_true hc]
      refine rr_iconst 1 d_Ma_holds_52 rfl ?_
      refine rr_goto 57 d_Ma_holds_53 (by decide) ?_
      exact rr_ireturn d_Ma_holds_57 rfl rfl (Nat.le_of_ble_eq_true rfl) (Nat.le_of_ble_eq_true rfl) (⟨rfl, rfl⟩)
  · rw [show sp_cv 12 (fs n) (fs (n + 1)) = decide (fs n < fs (n + 1)) from rfl]
    refine rr_tin 58 47 d_Ma_holds_11 (by decide) (by decide) rfl (by decide) ?_
    refine rr_iload_n d_Ma_holds_58 rfl rfl ?_
    refine rr_iload_n d_Ma_holds_59 rfl rfl ?_
    refine rr_icmp_ge 67 d_Ma_holds_60 (by decide) (fun hc => ?_) (fun hc => ?_)
    · rw [decide_eq_false (Int32.not_lt.mpr hc)]
      refine rr_iconst 0 d_Ma_holds_67 rfl ?_
      exact rr_ireturn d_Ma_holds_68 rfl rfl (Nat.le_of_ble_eq_true rfl) (Nat.le_of_ble_eq_true rfl) (⟨rfl, rfl⟩)
    · rw [decide_eq_true (Int32.not_le.mp hc)]
      refine rr_iconst 1 d_Ma_holds_63 rfl ?_
      refine rr_goto 68 d_Ma_holds_64 (by decide) ?_
      exact rr_ireturn d_Ma_holds_68 rfl rfl (Nat.le_of_ble_eq_true rfl) (Nat.le_of_ble_eq_true rfl) (⟨rfl, rfl⟩)
  · rw [show sp_cv 13 (fs n) (fs (n + 1)) = decide (fs (n + 1) < fs n) from rfl]
    refine rr_tout 69 d_Ma_holds_11 (by decide) (by decide) ?_
    refine rr_iload_n d_Ma_holds_69 rfl rfl ?_
    refine rr_iload_n d_Ma_holds_70 rfl rfl ?_
    refine rr_icmp_le 78 d_Ma_holds_71 (by decide) (fun hc => ?_) (fun hc => ?_)
    · rw [decide_eq_false (Int32.not_lt.mpr hc)]
      refine rr_iconst 0 d_Ma_holds_78 rfl ?_
      exact rr_ireturn d_Ma_holds_79 rfl rfl (Nat.le_of_ble_eq_true rfl) (Nat.le_of_ble_eq_true rfl) (⟨rfl, rfl⟩)
    · rw [decide_eq_true (Int32.not_le.mp hc)]
      refine rr_iconst 1 d_Ma_holds_74 rfl ?_
      refine rr_goto 79 d_Ma_holds_75 (by decide) ?_
      exact rr_ireturn d_Ma_holds_79 rfl rfl (Nat.le_of_ble_eq_true rfl) (Nat.le_of_ble_eq_true rfl) (⟨rfl, rfl⟩)

set_option maxRecDepth 100000 in
set_option maxHeartbeats 4000000 in
theorem s_Ma_addEffect {x0 x1 x2 x3 x4 x5 x6 x7 x8 x9 x10 x11 x13 x14 : va_E} {g : rr_H} {hg cg ru : Int32} {ec ev : Nat → Int32} {m : Nat} {c v : Int32} (hm : m < 8) : rr_Spec 0 y_Ma_addEffect c_Ma_addEffect 3 none 0 0 [.ref 12, .int c, .int v] (x0 :: x1 :: x2 :: x3 :: x4 :: x5 :: x6 :: x7 :: x8 :: x9 :: x10 :: x11 :: .inr (1, [.ref 13, .ref 14, .int hg, .ref 15, .ref 16, .int (nI m), .ref 17, .ref 18, .int cg, .ref 19, .int ru]) :: x13 :: x14 :: .inl (0, 8, .inl (ec)) :: .inl (0, 8, .inl (ev)) :: g) (fun r h1 => r = none ∧ h1 = x0 :: x1 :: x2 :: x3 :: x4 :: x5 :: x6 :: x7 :: x8 :: x9 :: x10 :: x11 :: .inr (1, [.ref 13, .ref 14, .int hg, .ref 15, .ref 16, .int (nI (m + 1)), .ref 17, .ref 18, .int cg, .ref 19, .int ru]) :: x13 :: x14 :: .inl (0, 8, .inl (upd ec m c)) :: .inl (0, 8, .inl (upd ev m v)) :: g) := by
  refine rr_met (own := R_Ma) (kd := (false, none)) (by decide +kernel) rfl (fun h => by cases h) rfl (Nat.le_of_ble_eq_true rfl) ?_
  refine rr_aload_n d_Ma_addEffect_0 rfl rfl ?_
  refine rr_getf d_Ma_addEffect_1 fl_Ma_58 rfl rfl ?_
  refine rr_bipush 8 d_Ma_addEffect_4 rfl ?_
  refine rr_icmp_ge 39 d_Ma_addEffect_6 (by decide) (fun c9 => absurd c9 (nI_ge (a := m) (b := 8) hm (by decide))) (fun _ => ?_)
  refine rr_aload_n d_Ma_addEffect_9 rfl rfl ?_
  refine rr_getf d_Ma_addEffect_10 fl_Ma_18 rfl rfl ?_
  refine rr_aload_n d_Ma_addEffect_13 rfl rfl ?_
  refine rr_getf d_Ma_addEffect_14 fl_Ma_58 rfl rfl ?_
  refine rr_iload_n d_Ma_addEffect_17 rfl rfl ?_
  refine rr_iast d_Ma_addEffect_18 rfl (vp_in_nI hm (by decide)) ?_
  refine rr_aload_n d_Ma_addEffect_19 rfl rfl ?_
  refine rr_getf d_Ma_addEffect_20 fl_Ma_21 rfl rfl ?_
  refine rr_aload_n d_Ma_addEffect_23 rfl rfl ?_
  refine rr_getf d_Ma_addEffect_24 fl_Ma_58 rfl rfl ?_
  refine rr_iload_n d_Ma_addEffect_27 rfl rfl ?_
  refine rr_iast d_Ma_addEffect_28 rfl (vp_in_nI hm (by decide)) ?_
  refine rr_aload_n d_Ma_addEffect_29 rfl rfl ?_
  refine rr_dup d_Ma_addEffect_30 rfl ?_
  refine rr_getf d_Ma_addEffect_31 fl_Ma_58 rfl rfl ?_
  refine rr_iconst 1 d_Ma_addEffect_34 rfl ?_
  refine rr_iadd d_Ma_addEffect_35 ?_
  refine rr_putf d_Ma_addEffect_36 fl_Ma_58 rfl rfl rfl rfl ?_
  rw [nI_1, nI_clamp (by omega)]
  exact rr_return d_Ma_addEffect_39 rfl (Nat.le_of_ble_eq_true rfl) (Nat.le_of_ble_eq_true rfl) (⟨rfl, rfl⟩)
