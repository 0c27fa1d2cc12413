/-! The reader: a whole program. -/
theorem sp_wr_ne : ∀ (l : List Int32) (f : Nat → Int32) (s j : Nat), j < s → sp_wr f s l j = f j
  | [], f, s, j, _ => rfl
  | x :: l, f, s, j, h => by
    show sp_wr (upd f s x) (s + 1) l j = f j
    rw [sp_wr_ne l _ _ _ (by omega), pk_un (by omega)]
theorem sp_wr_get : ∀ (l : List Int32) (f : Nat → Int32) (s i : Nat) (x : Int32), l[i]? = some x → sp_wr f s l (s + i) = x
  | [], f, s, i, x, h => by simp at h
  | y :: l, f, s, 0, x, h => by
    simp only [List.getElem?_cons_zero, Option.some.injEq] at h
    subst h
    show sp_wr (upd f s y) (s + 1) l s = y
    rw [sp_wr_ne l _ _ _ (by omega), pk_us]
  | y :: l, f, s, i + 1, x, h => by
    rw [List.getElem?_cons_succ] at h
    show sp_wr (upd f s y) (s + 1) l (s + (i + 1)) = x
    rw [show s + (i + 1) = s + 1 + i by omega]
    exact sp_wr_get l _ _ _ _ h
/-- a code's rows hold a program -/
def co_is (us : List sp_U) (ck cv re : Nat → Int32) : Prop := us.length ≤ 6 ∧ (us.flatMap fl_u).length ≤ 160 ∧ (∀ (i : Nat) (q : Nat × Int32), (us.flatMap fl_u)[i]? = some q → ck i = nI q.1 ∧ cv i = q.2) ∧ ∀ i, i < us.length → re i = nI ((us.take (i + 1)).flatMap fl_u).length
theorem co_is_of {us : List sp_U} {ck cv re : Nat → Int32} (h6 : us.length ≤ 6) (h160 : (us.flatMap fl_u).length ≤ 160) (h : ∀ i, i < us.length → re i = nI ((us.take (i + 1)).flatMap fl_u).length) : co_is us (co_k ck 0 (us.flatMap fl_u)) (co_v cv 0 (us.flatMap fl_u)) re := by
  refine ⟨h6, h160, fun i q hq => ?_, h⟩
  have h1 := sp_wr_get ((us.flatMap fl_u).map fun q => nI q.1) ck 0 i (nI q.1) (by rw [List.getElem?_map, hq]; rfl)
  have h2 := sp_wr_get ((us.flatMap fl_u).map fun q => q.2) cv 0 i q.2 (by rw [List.getElem?_map, hq]; rfl)
  rw [Nat.zero_add] at h1 h2
  exact ⟨h1, h2⟩
def sp_K (f : Nat → Int32) (n k : Nat) : Nat := (sp_T f n k).1
def sp_V (f : Nat → Int32) (n k : Nat) : Int32 := (sp_T f n k).2.1
def sp_pr (f : Nat → Int32) (n : Nat) : Bool × Nat × List sp_U := sp_prog (sp_K f n) (sp_V f n) 6 0 0 []
theorem sp_wk_le {f : Nat → Int32} {p e : Nat} : sp_wk f p e ≤ 20 := by
  unfold sp_wk
  repeat' split
  all_goals decide
theorem sp_sk_le {x : Int32} : sp_sk x ≤ 20 := by
  unfold sp_sk
  repeat' split
  all_goals decide
theorem sp_K_le {f : Nat → Int32} {n k : Nat} : sp_K f n k ≤ 20 := by
  unfold sp_K sp_T sp_next
  dsimp only
  split
  · show (sp_tok f n _).1 ≤ 20
    unfold sp_tok
    split
    · exact sp_wk_le
    · split
      · split
        · exact (by decide : (9 : Nat) ≤ 20)
        · exact (by decide : (1 : Nat) ≤ 20)
      · split
        · exact (by decide : (17 : Nat) ≤ 20)
        · exact sp_sk_le
  · exact Nat.zero_le _
theorem tq_of {f gk gv gp : Nat → Int32} {n M : Nat} (hM : M ≤ n) (hn : n ≤ 400) (h0 : (sp_T f n M).1 = 0) (h : tk_ok f n (M + 1) gk gv gp) : tq (sp_K f n) (sp_V f n) M gk gv := ⟨h0, by omega, fun k hk => ⟨(h k (by omega)).1, (h k (by omega)).2.1⟩, fun k => sp_K_le⟩

set_option maxRecDepth 100000 in
set_option maxHeartbeats 4000000 in
theorem s_Co_clear {x0 x1 x2 x3 x4 x5 x6 x7 : va_E} {g : rr_H} {s0 ru : Int32} : rr_Spec 0 y_Co_clear c_Co_clear 1 none 0 0 [.ref 8] (x0 :: x1 :: x2 :: x3 :: x4 :: x5 :: x6 :: x7 :: .inr (0, [.ref 9, .ref 10, .ref 11, .int s0, .int ru]) :: g) (fun r h1 => r = none ∧ h1 = x0 :: x1 :: x2 :: x3 :: x4 :: x5 :: x6 :: x7 :: .inr (0, [.ref 9, .ref 10, .ref 11, .int 0, .int 0]) :: g) := by
  refine rr_met (own := R_Co) (kd := (false, none)) (by decide +kernel) rfl (fun h => by cases h) rfl (Nat.le_of_ble_eq_true rfl) ?_
  refine rr_aload_n d_Co_clear_0 rfl rfl ?_
  refine rr_iconst 0 d_Co_clear_1 rfl ?_
  refine rr_putf d_Co_clear_2 fl_Co_21 rfl rfl rfl rfl ?_
  refine rr_aload_n d_Co_clear_5 rfl rfl ?_
  refine rr_iconst 0 d_Co_clear_6 rfl ?_
  refine rr_putf d_Co_clear_7 fl_Co_25 rfl rfl rfl rfl ?_
  exact rr_return d_Co_clear_10 rfl (Nat.le_of_ble_eq_true rfl) (Nat.le_of_ble_eq_true rfl) (⟨rfl, rfl⟩)

set_option maxRecDepth 100000 in
set_option maxHeartbeats 4000000 in
theorem s_Co_closeRule {x0 x1 x2 x3 x4 x5 x6 x7 x9 x10 : va_E} {g : rr_H} {s0 : Int32} {k : Nat} {re : Nat → Int32} (hk : k < 6) : rr_Spec 0 y_Co_closeRule c_Co_closeRule 1 none 0 0 [.ref 8] (x0 :: x1 :: x2 :: x3 :: x4 :: x5 :: x6 :: x7 :: .inr (0, [.ref 9, .ref 10, .ref 11, .int s0, .int (nI k)]) :: x9 :: x10 :: .inl (0, 6, .inl (re)) :: g) (fun r h1 => r = none ∧ h1 = x0 :: x1 :: x2 :: x3 :: x4 :: x5 :: x6 :: x7 :: .inr (0, [.ref 9, .ref 10, .ref 11, .int s0, .int (nI (k + 1))]) :: x9 :: x10 :: .inl (0, 6, .inl (upd re k s0)) :: g) := by
  refine rr_met (own := R_Co) (kd := (false, none)) (by decide +kernel) rfl (fun h => by cases h) rfl (Nat.le_of_ble_eq_true rfl) ?_
  refine rr_aload_n d_Co_closeRule_0 rfl rfl ?_
  refine rr_getf d_Co_closeRule_1 fl_Co_25 rfl rfl ?_
  refine rr_bipush 6 d_Co_closeRule_4 rfl ?_
  refine rr_icmp_ge 32 d_Co_closeRule_6 (by decide) (fun c9 => absurd c9 (nI_ge (a := k) (b := 6) hk (by decide))) (fun _ => ?_)
  refine rr_aload_n d_Co_closeRule_9 rfl rfl ?_
  refine rr_getf d_Co_closeRule_10 fl_Co_18 rfl rfl ?_
  refine rr_aload_n d_Co_closeRule_13 rfl rfl ?_
  refine rr_getf d_Co_closeRule_14 fl_Co_25 rfl rfl ?_
  refine rr_aload_n d_Co_closeRule_17 rfl rfl ?_
  refine rr_getf d_Co_closeRule_18 fl_Co_21 rfl rfl ?_
  refine rr_iast d_Co_closeRule_21 rfl (vp_in_nI hk (by decide)) ?_
  refine rr_aload_n d_Co_closeRule_22 rfl rfl ?_
  refine rr_dup d_Co_closeRule_23 rfl ?_
  refine rr_getf d_Co_closeRule_24 fl_Co_25 rfl rfl ?_
  refine rr_iconst 1 d_Co_closeRule_27 rfl ?_
  refine rr_iadd d_Co_closeRule_28 ?_
  refine rr_putf d_Co_closeRule_29 fl_Co_25 rfl rfl rfl rfl ?_
  rw [nI_1, nI_clamp (by omega)]
  exact rr_return d_Co_closeRule_32 rfl (Nat.le_of_ble_eq_true rfl) (Nat.le_of_ble_eq_true rfl) (⟨rfl, rfl⟩)

set_option maxRecDepth 100000 in
set_option maxHeartbeats 4000000 in
theorem s_Re_exchange {x0 x1 x2 : va_E} {g : rr_H} {a0 p0 : Int32} : rr_Spec 0 y_Re_exchange c_Re_exchange 3 (some (.object "RuleRunner$Code")) 0 0 [.ref 3, .ref 20] (x0 :: x1 :: x2 :: .inr (2, [.ref 4, .ref 8, .int a0, .int p0]) :: g) (fun r h1 => r = some (.ref 8) ∧ h1 = x0 :: x1 :: x2 :: .inr (2, [.ref 4, .ref 20, .int a0, .int p0]) :: g) := by
  refine rr_met (own := R_Re) (kd := (false, none)) (by decide +kernel) rfl (fun h => by cases h) rfl (Nat.le_of_ble_eq_true rfl) ?_
  refine rr_aload_n d_Re_exchange_0 rfl rfl ?_
  refine rr_getf d_Re_exchange_1 fl_Re_21 rfl rfl ?_
  refine rr_astore_n d_Re_exchange_4 rfl (by decide) ?_
  refine rr_aload_n d_Re_exchange_5 rfl rfl ?_
  refine rr_aload_n d_Re_exchange_6 rfl rfl ?_
  refine rr_putf d_Re_exchange_7 fl_Re_21 rfl rfl rfl rfl ?_
  refine rr_aload_n d_Re_exchange_10 rfl rfl ?_
  exact rr_areturn d_Re_exchange_11 rfl (Or.inl ⟨_, rfl⟩) (Nat.le_of_ble_eq_true rfl) (Nat.le_of_ble_eq_true rfl) (⟨rfl, rfl⟩)

set_option maxRecDepth 100000 in
set_option maxHeartbeats 4000000 in
theorem l_Re_read {x0 : va_E} {g : rr_H} {n M : Nat} {z2 : Int32} {f gk gv gp ck cv : Nat → Int32} (hn : n ≤ 400) (hM : M ≤ n) (h0 : (sp_T f n M).1 = 0) (htk : tk_ok f n (M + 1) gk gv gp) : ∀ (m a p : Nat) (us : List sp_U) (re : Nat → Int32), us.length + m = 6 → a ≤ M → p ≤ 80 → (us.flatMap fl_u).length ≤ 2 * p → (∀ i, i < us.length → re i = nI ((us.take (i + 1)).flatMap fl_u).length) → rr_A R_Re c_Re_read 3 (some .int) (false, none) { frames := 26, cells := 0, slots := 0, locals := 26 * 64 } (fun r h1 => ∃ (a2 p2 z2 s2 u2 : Int32) (gk gv gp ck2 cv2 re2 : Nat → Int32), h1 = x0 :: .inr (3, [.ref 2, .int (nI n)]) :: .inl (1, 400, .inl f) :: .inr (2, [.ref 4, .ref 8, .int a2, .int p2]) :: .inr (4, [.ref 5, .ref 6, .ref 7, .int z2]) :: .inl (0, 401, .inl (gk)) :: .inl (0, 401, .inl (gv)) :: .inl (0, 401, .inl (gp)) :: .inr (0, [.ref 9, .ref 10, .ref 11, .int s2, .int u2]) :: .inl (0, 160, .inl (ck2)) :: .inl (0, 160, .inl (cv2)) :: .inl (0, 6, .inl (re2)) :: g ∧ (if (sp_prog (sp_K f n) (sp_V f n) m a p us).1 = true then r = some (.int (-2)) ∧ u2 = nI (sp_prog (sp_K f n) (sp_V f n) m a p us).2.2.length ∧ co_is (sp_prog (sp_K f n) (sp_V f n) m a p us).2.2 ck2 cv2 re2 else r = some (.int (nI (sp_T f n (sp_prog (sp_K f n) (sp_V f n) m a p us).2.1).2.2.1)))) 0 0 27 [(2, .int (nI (6 - m))), (0, .ref 3), (1, .ref 1)] [] (x0 :: .inr (3, [.ref 2, .int (nI n)]) :: .inl (1, 400, .inl f) :: .inr (2, [.ref 4, .ref 8, .int (nI a), .int (nI p)]) :: .inr (4, [.ref 5, .ref 6, .ref 7, .int z2]) :: .inl (0, 401, .inl (gk)) :: .inl (0, 401, .inl (gv)) :: .inl (0, 401, .inl (gp)) :: .inr (0, [.ref 9, .ref 10, .ref 11, .int (nI (us.flatMap fl_u).length), .int (nI us.length)]) :: .inl (0, 160, .inl (co_k ck 0 (us.flatMap fl_u))) :: .inl (0, 160, .inl (co_v cv 0 (us.flatMap fl_u))) :: .inl (0, 6, .inl (re)) :: g) := by
  have ht := tq_of hM hn h0 htk
  have i20 : ∀ {j k : Nat}, j ≤ M → k ≤ 20 → (gk j = nI k ↔ sp_K f n j = k) := fun hj hk => tq_k ht hj hk
  have fin : ∀ (P : Bool × Nat × List sp_U) (a2 : Nat) (p2 s2 u2 : Int32) (c2 : Int32) (ck2 cv2 re2 : Nat → Int32), a2 ≤ M → P.1 = false → P.2.1 = a2 → rr_A R_Re c_Re_read 3 (some .int) (false, none) { frames := 26, cells := 0, slots := 0, locals := 26 * 64 } (fun r h1 => ∃ (a2 p2 z2 s2 u2 : Int32) (gk gv gp ck2 cv2 re2 : Nat → Int32), h1 = x0 :: .inr (3, [.ref 2, .int (nI n)]) :: .inl (1, 400, .inl f) :: .inr (2, [.ref 4, .ref 8, .int a2, .int p2]) :: .inr (4, [.ref 5, .ref 6, .ref 7, .int z2]) :: .inl (0, 401, .inl (gk)) :: .inl (0, 401, .inl (gv)) :: .inl (0, 401, .inl (gp)) :: .inr (0, [.ref 9, .ref 10, .ref 11, .int s2, .int u2]) :: .inl (0, 160, .inl (ck2)) :: .inl (0, 160, .inl (cv2)) :: .inl (0, 6, .inl (re2)) :: g ∧ (if (P).1 = true then r = some (.int (-2)) ∧ u2 = nI (P).2.2.length ∧ co_is (P).2.2 ck2 cv2 re2 else r = some (.int (nI (sp_T f n (P).2.1).2.2.1)))) 0 0 78 [(2, .int c2), (0, .ref 3), (1, .ref 1)] [] (x0 :: .inr (3, [.ref 2, .int (nI n)]) :: .inl (1, 400, .inl f) :: .inr (2, [.ref 4, .ref 8, .int (nI a2), .int p2]) :: .inr (4, [.ref 5, .ref 6, .ref 7, .int z2]) :: .inl (0, 401, .inl (gk)) :: .inl (0, 401, .inl (gv)) :: .inl (0, 401, .inl (gp)) :: .inr (0, [.ref 9, .ref 10, .ref 11, .int s2, .int u2]) :: .inl (0, 160, .inl (ck2)) :: .inl (0, 160, .inl (cv2)) :: .inl (0, 6, .inl (re2)) :: g) := by
    intro P a2 p2 s2 u2 c2 ck2 cv2 re2 ha2 hP1 hP2
    refine rr_aload_n d_Re_read_78 rfl rfl ?_
    refine rr_getf d_Re_read_79 fl_Re_12 rfl rfl ?_
    refine rr_getf d_Re_read_82 fl_Re_53 rfl rfl ?_
    refine rr_aload_n d_Re_read_85 rfl rfl ?_
    refine rr_getf d_Re_read_86 fl_Re_32 rfl rfl ?_
    refine rr_iald d_Re_read_89 rfl (vp_in_nI (n := a2) (by omega) (by decide)) ?_
    rw [nI_clamp (by omega), (htk a2 (by omega)).2.2]
    exact rr_ireturn d_Re_read_90 rfl rfl (Nat.le_of_ble_eq_true rfl) (Nat.le_of_ble_eq_true rfl) (⟨_, _, _, _, _, _, _, _, _, _, _, rfl, by rw [if_neg (by rw [hP1]; decide), hP2]⟩)
  intro m
  induction m with
  | zero =>
    intro a p us re hm ha hp hL hre
    refine rr_iload_n d_Re_read_27 rfl rfl ?_
    refine rr_bipush 6 d_Re_read_28 rfl ?_
    refine rr_icmp_ge 78 d_Re_read_30 (by decide) (fun _ => ?_) (fun c9 => absurd (by decide) c9)
    exact fin (false, a, us) a _ _ _ _ _ _ _ ha rfl rfl
  | succ m ih =>
    intro a p us re hm ha hp hL hre
    obtain ⟨i1, i2⟩ := sp_snd_rule (V := sp_V f n) ht.1 ha hp
    refine rr_iload_n d_Re_read_27 rfl rfl ?_
    refine rr_bipush 6 d_Re_read_28 rfl ?_
    refine rr_icmp_ge 78 d_Re_read_30 (by decide) (fun c9 => absurd c9 (nI_ge (a := 6 - (m + 1)) (b := 6) (by omega) (by decide))) (fun _ => ?_)
    refine rr_aload_n d_Re_read_33 rfl rfl ?_
    refine rr_callV d_Re_read_34 il_Re_39 m_Re_readRule (s_Re_readRule (s := (us.flatMap fl_u).length) ht ha hp hL) rfl rfl rfl rfl (Nat.le_of_ble_eq_true rfl) (Nat.le_of_ble_eq_true rfl) (Nat.le_of_ble_eq_true rfl) (Nat.le_of_ble_eq_true rfl) (Nat.le_of_ble_eq_true rfl) (fun r h1 hq => ?_)
    obtain ⟨s2, ck2, cv2, rfl, rfl, hs2, hok⟩ := hq
    unfold sp_prog
    by_cases hx : (sp_rule (sp_K f n) (sp_V f n) a p).1 = true
    · simp only [if_pos hx]
      rw [hx]
      obtain ⟨rfl, rfl, rfl⟩ := hok hx
      obtain ⟨j1, j2, j3⟩ := i2 hx
      dsimp only
      have eL : us.flatMap fl_u ++ fl_u (sp_rule (sp_K f n) (sp_V f n) a p).2.2.2 = (us ++ [(sp_rule (sp_K f n) (sp_V f n) a p).2.2.2]).flatMap fl_u := by rw [List.flatMap_append]; simp
      have eN : (us.flatMap fl_u).length + (fl_u (sp_rule (sp_K f n) (sp_V f n) a p).2.2.2).length = ((us ++ [(sp_rule (sp_K f n) (sp_V f n) a p).2.2.2]).flatMap fl_u).length := by rw [← eL, List.length_append]
      have eK : co_k (co_k ck 0 (us.flatMap fl_u)) (us.flatMap fl_u).length (fl_u (sp_rule (sp_K f n) (sp_V f n) a p).2.2.2) = co_k ck 0 ((us ++ [(sp_rule (sp_K f n) (sp_V f n) a p).2.2.2]).flatMap fl_u) := by rw [← eL, co_k_app, Nat.zero_add]
      have eV : co_v (co_v cv 0 (us.flatMap fl_u)) (us.flatMap fl_u).length (fl_u (sp_rule (sp_K f n) (sp_V f n) a p).2.2.2) = co_v cv 0 ((us ++ [(sp_rule (sp_K f n) (sp_V f n) a p).2.2.2]).flatMap fl_u) := by rw [← eL, co_v_app, Nat.zero_add]
      rw [eN, eK, eV]
      have hLn : ((us ++ [(sp_rule (sp_K f n) (sp_V f n) a p).2.2.2]).flatMap fl_u).length ≤ 2 * (sp_rule (sp_K f n) (sp_V f n) a p).2.2.1 := by rw [← eN]; omega
      have hren : ∀ i, i < (us ++ [(sp_rule (sp_K f n) (sp_V f n) a p).2.2.2]).length → upd re us.length (nI ((us ++ [(sp_rule (sp_K f n) (sp_V f n) a p).2.2.2]).flatMap fl_u).length) i = nI (((us ++ [(sp_rule (sp_K f n) (sp_V f n) a p).2.2.2]).take (i + 1)).flatMap fl_u).length := by
        intro i hi
        rw [List.length_append] at hi
        rcases Nat.lt_or_ge i us.length with q | q
        · rw [pk_un (by omega), hre i q, List.take_append_of_le_length (by omega)]
        · obtain rfl : i = us.length := by simp at hi; omega
          rw [pk_us, List.take_of_length_le (by simp)]
      refine rr_if_ne 43 d_Re_read_37 (by decide) (fun _ => ?_) (fun c9 => absurd c9 (by decide))
      refine rr_aload_n d_Re_read_43 rfl rfl ?_
      refine rr_getf d_Re_read_44 fl_Re_21 rfl rfl ?_
      refine rr_callV d_Re_read_47 il_Re_43 m_Co_closeRule (s_Co_closeRule (k := us.length) (by omega)) rfl rfl rfl rfl (Nat.le_of_ble_eq_true rfl) (Nat.le_of_ble_eq_true rfl) (Nat.le_of_ble_eq_true rfl) (Nat.le_of_ble_eq_true rfl) (Nat.le_of_ble_eq_true rfl) (fun r h1 hq => ?_)
      obtain ⟨rfl, rfl⟩ := hq
      refine rr_aload_n d_Re_read_50 rfl rfl ?_
      refine rr_iconst 0 d_Re_read_51 rfl ?_
      rw [show us.length + 1 = (us ++ [(sp_rule (sp_K f n) (sp_V f n) a p).2.2.2]).length by simp]
      by_cases k0 : sp_K f n (sp_rule (sp_K f n) (sp_V f n) a p).2.1 = 0
      · simp only [if_pos k0]
        have e0 : gk (sp_rule (sp_K f n) (sp_V f n) a p).2.1 = 0 := (i20 (k := 0) i1 (by decide)).mpr k0
        refine rr_callV d_Re_read_52 il_Re_46 m_Re_looksAt (s_Re_looksAt_t (by omega) e0) rfl rfl rfl rfl (Nat.le_of_ble_eq_true rfl) (Nat.le_of_ble_eq_true rfl) (Nat.le_of_ble_eq_true rfl) (Nat.le_of_ble_eq_true rfl) (Nat.le_of_ble_eq_true rfl) (fun r h1 hq => ?_)
        obtain ⟨rfl, rfl⟩ := hq
        refine rr_if_eq 61 d_Re_read_55 (by decide) (fun c9 => absurd c9 (by decide)) (fun _ => ?_)
        refine rr_bipush (-2) d_Re_read_58 rfl ?_
        exact rr_ireturn d_Re_read_60 rfl rfl (Nat.le_of_ble_eq_true rfl) (Nat.le_of_ble_eq_true rfl) (⟨_, _, _, _, _, _, _, _, _, _, _, rfl, rfl, rfl, co_is_of (by simp; omega) (by omega) hren⟩)
      · simp only [if_neg k0]
        have e0 : ¬ gk (sp_rule (sp_K f n) (sp_V f n) a p).2.1 = 0 := fun q => k0 ((i20 (k := 0) i1 (by decide)).mp q)
        refine rr_callV d_Re_read_52 il_Re_46 m_Re_looksAt (s_Re_looksAt_f (by omega) e0) rfl rfl rfl rfl (Nat.le_of_ble_eq_true rfl) (Nat.le_of_ble_eq_true rfl) (Nat.le_of_ble_eq_true rfl) (Nat.le_of_ble_eq_true rfl) (Nat.le_of_ble_eq_true rfl) (fun r h1 hq => ?_)
        obtain ⟨rfl, rfl⟩ := hq
        refine rr_if_eq 61 d_Re_read_55 (by decide) (fun _ => ?_) (fun c9 => absurd (rfl) c9)
        refine rr_aload_n d_Re_read_61 rfl rfl ?_
        refine rr_iconst 4 d_Re_read_62 rfl ?_
        by_cases k4 : sp_K f n (sp_rule (sp_K f n) (sp_V f n) a p).2.1 = 4
        · simp only [if_pos k4]
          have l4 := sp_lt ht.1 i1 k4 (by decide)
          have e4 : gk (sp_rule (sp_K f n) (sp_V f n) a p).2.1 = 4 := (i20 (k := 4) i1 (by decide)).mpr k4
          refine rr_callV d_Re_read_63 il_Re_50 m_Re_pass (s_Re_pass_t (by omega) e4) rfl rfl rfl rfl (Nat.le_of_ble_eq_true rfl) (Nat.le_of_ble_eq_true rfl) (Nat.le_of_ble_eq_true rfl) (Nat.le_of_ble_eq_true rfl) (Nat.le_of_ble_eq_true rfl) (fun r h1 hq => ?_)
          obtain ⟨rfl, rfl⟩ := hq
          refine rr_if_ne 72 d_Re_read_66 (by decide) (fun _ => ?_) (fun c9 => absurd c9 (by decide))
          refine rr_iinc 1 d_Re_read_72 rfl rfl (by decide) ?_
          refine rr_goto 27 d_Re_read_75 (by decide) ?_
          rw [nI_1, show 6 - (m + 1) + 1 = 6 - m by omega]
          exact rr_lvs _ rfl (ih ((sp_rule (sp_K f n) (sp_V f n) a p).2.1 + 1) (sp_rule (sp_K f n) (sp_V f n) a p).2.2.1 (us ++ [(sp_rule (sp_K f n) (sp_V f n) a p).2.2.2]) _ (by simp; omega) l4 j2 hLn hren)
        · simp only [if_neg k4]
          have e4 : ¬ gk (sp_rule (sp_K f n) (sp_V f n) a p).2.1 = 4 := fun q => k4 ((i20 (k := 4) i1 (by decide)).mp q)
          refine rr_callV d_Re_read_63 il_Re_50 m_Re_pass (s_Re_pass_f (by omega) e4) rfl rfl rfl rfl (Nat.le_of_ble_eq_true rfl) (Nat.le_of_ble_eq_true rfl) (Nat.le_of_ble_eq_true rfl) (Nat.le_of_ble_eq_true rfl) (Nat.le_of_ble_eq_true rfl) (fun r h1 hq => ?_)
          obtain ⟨rfl, rfl⟩ := hq
          refine rr_if_ne 72 d_Re_read_66 (by decide) (fun c9 => absurd (rfl) c9) (fun _ => ?_)
          refine rr_goto 78 d_Re_read_69 (by decide) ?_
          exact rr_lvs _ rfl (fin (false, (sp_rule (sp_K f n) (sp_V f n) a p).2.1, us) (sp_rule (sp_K f n) (sp_V f n) a p).2.1 _ _ _ _ _ _ _ i1 rfl rfl)
    · simp only [if_neg hx]
      rw [(Bool.not_eq_true _).mp hx]
      refine rr_if_ne 43 d_Re_read_37 (by decide) (fun c9 => absurd (rfl) c9) (fun _ => ?_)
      refine rr_goto 78 d_Re_read_40 (by decide) ?_
      exact rr_lvs _ rfl (fin (false, (sp_rule (sp_K f n) (sp_V f n) a p).2.1, us) (sp_rule (sp_K f n) (sp_V f n) a p).2.1 _ _ _ _ _ _ _ i1 rfl rfl)

set_option maxRecDepth 100000 in
set_option maxHeartbeats 4000000 in
theorem s_Re_read {x0 : va_E} {g : rr_H} {n : Nat} {a0 p0 sz s0 ru : Int32} {f fk fv fp ck cv re : Nat → Int32} (hn : n ≤ 400) : rr_Spec 26 y_Re_read c_Re_read 3 (some .int) 0 0 [.ref 3, .ref 1] (x0 :: .inr (3, [.ref 2, .int (nI n)]) :: .inl (1, 400, .inl f) :: .inr (2, [.ref 4, .ref 8, .int a0, .int p0]) :: .inr (4, [.ref 5, .ref 6, .ref 7, .int sz]) :: .inl (0, 401, .inl (fk)) :: .inl (0, 401, .inl (fv)) :: .inl (0, 401, .inl (fp)) :: .inr (0, [.ref 9, .ref 10, .ref 11, .int s0, .int ru]) :: .inl (0, 160, .inl (ck)) :: .inl (0, 160, .inl (cv)) :: .inl (0, 6, .inl (re)) :: g) (fun r h1 => ∃ (a2 p2 z2 s2 u2 : Int32) (gk gv gp ck2 cv2 re2 : Nat → Int32), h1 = x0 :: .inr (3, [.ref 2, .int (nI n)]) :: .inl (1, 400, .inl f) :: .inr (2, [.ref 4, .ref 8, .int a2, .int p2]) :: .inr (4, [.ref 5, .ref 6, .ref 7, .int z2]) :: .inl (0, 401, .inl (gk)) :: .inl (0, 401, .inl (gv)) :: .inl (0, 401, .inl (gp)) :: .inr (0, [.ref 9, .ref 10, .ref 11, .int s2, .int u2]) :: .inl (0, 160, .inl (ck2)) :: .inl (0, 160, .inl (cv2)) :: .inl (0, 6, .inl (re2)) :: g ∧ (if (sp_pr f n).1 = true then r = some (.int (-2)) ∧ u2 = nI (sp_pr f n).2.2.length ∧ co_is (sp_pr f n).2.2 ck2 cv2 re2 else r = some (.int (nI (sp_T f n (sp_pr f n).2.1).2.2.1)))) := by
  refine rr_met (own := R_Re) (kd := (false, none)) (by decide +kernel) rfl (fun h => by cases h) rfl (Nat.le_of_ble_eq_true rfl) ?_
  refine rr_aload_n d_Re_read_0 rfl rfl ?_
  refine rr_getf d_Re_read_1 fl_Re_12 rfl rfl ?_
  refine rr_aload_n d_Re_read_4 rfl rfl ?_
  refine rr_callV d_Re_read_5 il_Re_25 m_To_split (s_To_split hn) rfl rfl rfl rfl (Nat.le_of_ble_eq_true rfl) (Nat.le_of_ble_eq_true rfl) (Nat.le_of_ble_eq_true rfl) (Nat.le_of_ble_eq_true rfl) (Nat.le_of_ble_eq_true rfl) (fun r h1 hq => ?_)
  obtain ⟨M, gk, gv, gp, hM, hne, h0, htk, rfl, rfl⟩ := hq
  refine rr_aload_n d_Re_read_8 rfl rfl ?_
  refine rr_getf d_Re_read_9 fl_Re_21 rfl rfl ?_
  refine rr_callV d_Re_read_12 il_Re_29 m_Co_clear (s_Co_clear) rfl rfl rfl rfl (Nat.le_of_ble_eq_true rfl) (Nat.le_of_ble_eq_true rfl) (Nat.le_of_ble_eq_true rfl) (Nat.le_of_ble_eq_true rfl) (Nat.le_of_ble_eq_true rfl) (fun r h1 hq => ?_)
  obtain ⟨rfl, rfl⟩ := hq
  refine rr_aload_n d_Re_read_15 rfl rfl ?_
  refine rr_iconst 0 d_Re_read_16 rfl ?_
  refine rr_putf d_Re_read_17 fl_Re_32 rfl rfl rfl rfl ?_
  refine rr_aload_n d_Re_read_20 rfl rfl ?_
  refine rr_iconst 0 d_Re_read_21 rfl ?_
  refine rr_putf d_Re_read_22 fl_Re_36 rfl rfl rfl rfl ?_
  refine rr_iconst 0 d_Re_read_25 rfl ?_
  refine rr_istore_n d_Re_read_26 rfl (by decide) ?_
  exact rr_lvs _ rfl (l_Re_read hn hM h0 htk 6 0 0 [] re rfl (Nat.zero_le _) (by decide) (by simp) (fun i hi => by simp at hi))

theorem sp_T_pl {f : Nat → Int32} {n k : Nat} : (sp_T f n k).2.2.1 ≤ n := by
  unfold sp_T sp_next
  dsimp only
  split
  · rename_i h
    exact Nat.le_of_lt h
  · exact Nat.le_refl _
set_option maxRecDepth 100000 in
set_option maxHeartbeats 4000000 in
theorem s_Ru_program {g : rr_H} {n : Nat} {a0 p0 sz s0 ru : Int32} {f fk fv fp ck cv re : Nat → Int32} (hn : n ≤ 400) : rr_Spec 27 y_Ru_program c_Ru_program 2 (some .int) 0 0 [.ref 0] (.inr (5, [.ref 1, .ref 3, .ref 12, .ref 20]) :: .inr (3, [.ref 2, .int (nI n)]) :: .inl (1, 400, .inl f) :: .inr (2, [.ref 4, .ref 8, .int a0, .int p0]) :: .inr (4, [.ref 5, .ref 6, .ref 7, .int sz]) :: .inl (0, 401, .inl (fk)) :: .inl (0, 401, .inl (fv)) :: .inl (0, 401, .inl (fp)) :: .inr (0, [.ref 9, .ref 10, .ref 11, .int s0, .int ru]) :: .inl (0, 160, .inl (ck)) :: .inl (0, 160, .inl (cv)) :: .inl (0, 6, .inl (re)) :: g) (fun r h1 => ∃ (a2 p2 z2 s2 u2 : Int32) (gk gv gp ck2 cv2 re2 : Nat → Int32), if (sp_pr f n).1 = true then (h1 = .inr (5, [.ref 1, .ref 3, .ref 12, .ref 8]) :: .inr (3, [.ref 2, .int 0]) :: .inl (1, 400, .inl f) :: .inr (2, [.ref 4, .ref 20, .int a2, .int p2]) :: .inr (4, [.ref 5, .ref 6, .ref 7, .int z2]) :: .inl (0, 401, .inl (gk)) :: .inl (0, 401, .inl (gv)) :: .inl (0, 401, .inl (gp)) :: .inr (0, [.ref 9, .ref 10, .ref 11, .int s2, .int u2]) :: .inl (0, 160, .inl (ck2)) :: .inl (0, 160, .inl (cv2)) :: .inl (0, 6, .inl (re2)) :: g ∧ r = some (.int (-2)) ∧ u2 = nI (sp_pr f n).2.2.length ∧ co_is (sp_pr f n).2.2 ck2 cv2 re2) else (h1 = .inr (5, [.ref 1, .ref 3, .ref 12, .ref 20]) :: .inr (3, [.ref 2, .int 0]) :: .inl (1, 400, .inl f) :: .inr (2, [.ref 4, .ref 8, .int a2, .int p2]) :: .inr (4, [.ref 5, .ref 6, .ref 7, .int z2]) :: .inl (0, 401, .inl (gk)) :: .inl (0, 401, .inl (gv)) :: .inl (0, 401, .inl (gp)) :: .inr (0, [.ref 9, .ref 10, .ref 11, .int s2, .int u2]) :: .inl (0, 160, .inl (ck2)) :: .inl (0, 160, .inl (cv2)) :: .inl (0, 6, .inl (re2)) :: g ∧ r = some (.int (nI (sp_T f n (sp_pr f n).2.1).2.2.1)))) := by
  refine rr_met (own := R_Ru) (kd := (false, none)) (by decide +kernel) rfl (fun h => by cases h) rfl (Nat.le_of_ble_eq_true rfl) ?_
  refine rr_aload_n d_Ru_program_0 rfl rfl ?_
  refine rr_getf d_Ru_program_1 fl_Ru_19 rfl rfl ?_
  refine rr_aload_n d_Ru_program_4 rfl rfl ?_
  refine rr_getf d_Ru_program_5 fl_Ru_12 rfl rfl ?_
  refine rr_callV d_Ru_program_8 il_Ru_45 m_Re_read (s_Re_read hn) rfl rfl rfl rfl (Nat.le_of_ble_eq_true rfl) (Nat.le_of_ble_eq_true rfl) (Nat.le_of_ble_eq_true rfl) (Nat.le_of_ble_eq_true rfl) (Nat.le_of_ble_eq_true rfl) (fun r h1 hq => ?_)
  obtain ⟨a2, p2, z2, s2, u2, gk, gv, gp, ck2, cv2, re2, rfl, hr⟩ := hq
  by_cases hx : (sp_pr f n).1 = true
  · rw [if_pos hx] at hr
    obtain ⟨rfl, hu, hco⟩ := hr
    simp only [if_pos hx]
    refine rr_istore_n d_Ru_program_11 rfl (by decide) ?_
    refine rr_aload_n d_Ru_program_12 rfl rfl ?_
    refine rr_getf d_Ru_program_13 fl_Ru_12 rfl rfl ?_
    refine rr_iconst 0 d_Ru_program_16 rfl ?_
    refine rr_putf d_Ru_program_17 fl_Ru_37 rfl rfl rfl rfl ?_
    refine rr_iload_n d_Ru_program_20 rfl rfl ?_
    refine rr_bipush (-2) d_Ru_program_21 rfl ?_
    refine rr_icmp_ne 41 d_Ru_program_23 (by decide) (fun c9 => absurd (by decide) c9) (fun _ => ?_)
    refine rr_aload_n d_Ru_program_26 rfl rfl ?_
    refine rr_aload_n d_Ru_program_27 rfl rfl ?_
    refine rr_getf d_Ru_program_28 fl_Ru_19 rfl rfl ?_
    refine rr_aload_n d_Ru_program_31 rfl rfl ?_
    refine rr_getf d_Ru_program_32 fl_Ru_33 rfl rfl ?_
    refine rr_callV d_Ru_program_35 il_Ru_49 m_Re_exchange (s_Re_exchange) rfl rfl rfl rfl (Nat.le_of_ble_eq_true rfl) (Nat.le_of_ble_eq_true rfl) (Nat.le_of_ble_eq_true rfl) (Nat.le_of_ble_eq_true rfl) (Nat.le_of_ble_eq_true rfl) (fun r h1 hq => ?_)
    obtain ⟨rfl, rfl⟩ := hq
    refine rr_putf d_Ru_program_38 fl_Ru_33 rfl rfl rfl rfl ?_
    refine rr_iload_n d_Ru_program_41 rfl rfl ?_
    exact rr_ireturn d_Ru_program_42 rfl rfl (Nat.le_of_ble_eq_true rfl) (Nat.le_of_ble_eq_true rfl) (⟨_, _, _, _, _, _, _, _, _, _, _, rfl, rfl, hu, hco⟩)
  · rw [if_neg hx] at hr
    obtain rfl := hr
    simp only [if_neg hx]
    have hpl := sp_T_pl (f := f) (n := n) (k := (sp_pr f n).2.1)
    have hne : ¬ nI (sp_T f n (sp_pr f n).2.1).2.2.1 = -2 := by
      intro q
      have q1 := congrArg Int32.toInt q
      rw [nI_toInt (by omega)] at q1
      have q2 : (-2 : Int32).toInt = -2 := by decide
      omega
    refine rr_istore_n d_Ru_program_11 rfl (by decide) ?_
    refine rr_aload_n d_Ru_program_12 rfl rfl ?_
    refine rr_getf d_Ru_program_13 fl_Ru_12 rfl rfl ?_
    refine rr_iconst 0 d_Ru_program_16 rfl ?_
    refine rr_putf d_Ru_program_17 fl_Ru_37 rfl rfl rfl rfl ?_
    refine rr_iload_n d_Ru_program_20 rfl rfl ?_
    refine rr_bipush (-2) d_Ru_program_21 rfl ?_
    refine rr_icmp_ne 41 d_Ru_program_23 (by decide) (fun _ => ?_) (fun c9 => absurd c9 (hne))
    refine rr_iload_n d_Ru_program_41 rfl rfl ?_
    exact rr_ireturn d_Ru_program_42 rfl rfl (Nat.le_of_ble_eq_true rfl) (Nat.le_of_ble_eq_true rfl) (⟨_, _, _, _, _, _, _, _, _, _, _, rfl, rfl⟩)
