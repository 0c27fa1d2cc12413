/-! All tokens. -/
def sp_pos (f : Nat → Int32) (n : Nat) : Nat → Nat
  | 0 => 0
  | k + 1 => (sp_next f n (sp_pos f n k)).2.2.2
def sp_T (f : Nat → Int32) (n k : Nat) : Nat × Int32 × Nat × Nat := sp_next f n (sp_pos f n k)
theorem sp_next_blank {f : Nat → Int32} {n i : Nat} (hi : i < n) (hb : f i = 32) : sp_next f n i = sp_next f n (i + 1) := by
  have e : sp_run (fun x => decide (x = 32)) f i (n - i) = sp_run (fun x => decide (x = 32)) f (i + 1) (n - (i + 1)) := by
    obtain ⟨k, hk⟩ : ∃ k, n - i = k + 1 := ⟨n - i - 1, by omega⟩
    rw [hk, show n - (i + 1) = k by omega, sp_run, if_pos (decide_eq_true hb)]
  unfold sp_next
  rw [e]
theorem sp_next_tok {f : Nat → Int32} {n i : Nat} (hi : i < n) (hb : ¬ f i = 32) : sp_next f n i = ((sp_tok f n i).1, (sp_tok f n i).2.1, i, (sp_tok f n i).2.2) := by
  have e : sp_run (fun x => decide (x = 32)) f i (n - i) = i := by
    obtain ⟨k, hk⟩ : ∃ k, n - i = k + 1 := ⟨n - i - 1, by omega⟩
    rw [hk, sp_run, if_neg (by rw [decide_eq_false hb]; decide)]
  unfold sp_next
  rw [e]
  exact if_pos hi
theorem sp_next_end {f : Nat → Int32} {n : Nat} : sp_next f n n = (0, 0, n, n) := by
  unfold sp_next
  rw [Nat.sub_self]
  exact if_neg (Nat.lt_irrefl n)
theorem sp_wk_ne {f : Nat → Int32} {p e : Nat} : sp_wk f p e ≠ 0 := by
  unfold sp_wk
  repeat' split
  all_goals decide
theorem sp_sk_ne {x : Int32} : sp_sk x ≠ 0 := by
  unfold sp_sk
  repeat' split
  all_goals decide
theorem sp_tok_ne {f : Nat → Int32} {n p : Nat} : (sp_tok f n p).1 ≠ 0 := by
  unfold sp_tok
  split
  · exact sp_wk_ne
  · split
    · split
      · exact (by decide : (9 : Nat) ≠ 0)
      · exact (by decide : (1 : Nat) ≠ 0)
    · split
      · exact (by decide : (17 : Nat) ≠ 0)
      · exact sp_sk_ne
theorem sp_tok_end {f : Nat → Int32} {n p : Nat} (hp : p < n) : p < (sp_tok f n p).2.2 ∧ (sp_tok f n p).2.2 ≤ n := by
  unfold sp_tok
  split
  · rename_i h
    have h1 := sp_run_pos (P := sp_isL) (f := f) (k := n - p) (p := p) (by omega) h
    have h2 := sp_run_ge (P := sp_isL) (f := f) (n - p) p
    exact ⟨h1, by show sp_run sp_isL f p (n - p) ≤ n; omega⟩
  · split
    · rename_i h
      have h1 := sp_run_pos (P := sp_isD) (f := f) (k := n - p) (p := p) (by omega) h
      have h2 := sp_run_ge (P := sp_isD) (f := f) (n - p) p
      split
      · exact ⟨h1, by show sp_run sp_isD f p (n - p) ≤ n; omega⟩
      · exact ⟨h1, by show sp_run sp_isD f p (n - p) ≤ n; omega⟩
    · split
      · rename_i h
        exact ⟨by show p < p + 2; omega, by show p + 2 ≤ n; omega⟩
      · exact ⟨by show p < p + 1; omega, by show p + 1 ≤ n; omega⟩
/-- the arrays hold the first m tokens -/
def tk_ok (f : Nat → Int32) (n m : Nat) (fk fv fp : Nat → Int32) : Prop := ∀ k, k < m → fk k = nI (sp_T f n k).1 ∧ fv k = (sp_T f n k).2.1 ∧ fp k = nI (sp_T f n k).2.2.1
theorem tk_add {f fk fv fp : Nat → Int32} {n m : Nat} (h : tk_ok f n m fk fv fp) {a : Nat} {b : Int32} {p q : Nat} (he : sp_T f n m = (a, b, p, q)) : tk_ok f n (m + 1) (upd fk m (nI a)) (upd fv m b) (upd fp m (nI p)) := by
  intro k hk
  rcases Nat.lt_or_ge k m with hl | hl
  · rw [pk_un (by omega), pk_un (by omega), pk_un (by omega)]
    exact h k hl
  · obtain rfl : k = m := by omega
    rw [pk_us, pk_us, pk_us, he]
    exact ⟨rfl, rfl, rfl⟩

set_option maxRecDepth 100000 in
set_option maxHeartbeats 4000000 in
theorem l_split {x0 x3 : va_E} {g : rr_H} {n : Nat} {f : Nat → Int32} (hn : n ≤ 400) : ∀ (k i a m : Nat) (fk fv fp : Nat → Int32), i + k = n → m ≤ i → a ≤ n → a = sp_pos f n m → (a ≤ i → sp_next f n i = sp_next f n a) → (∀ k, k < m → (sp_T f n k).1 ≠ 0) → tk_ok f n m fk fv fp → rr_A R_To c_To_split 4 none (false, none) { frames := 8, cells := 0, slots := 0, locals := 8 * 64 } (fun r h1 => ∃ (M : Nat) (gk gv gp : Nat → Int32), M ≤ n ∧ (∀ k, k < M → (sp_T f n k).1 ≠ 0) ∧ (sp_T f n M).1 = 0 ∧ tk_ok f n (M + 1) gk gv gp ∧ r = none ∧ h1 = x0 :: .inr (3, [.ref 2, .int (nI n)]) :: .inl (1, 400, .inl (f)) :: x3 :: .inr (4, [.ref 5, .ref 6, .ref 7, .int (nI (M + 1))]) :: .inl (0, 401, .inl (gk)) :: .inl (0, 401, .inl (gv)) :: .inl (0, 401, .inl (gp)) :: g) 0 0 9 [(3, .int (nI i)), (2, .int (nI a)), (0, .ref 4), (1, .ref 1)] [] (x0 :: .inr (3, [.ref 2, .int (nI n)]) :: .inl (1, 400, .inl (f)) :: x3 :: .inr (4, [.ref 5, .ref 6, .ref 7, .int (nI m)]) :: .inl (0, 401, .inl (fk)) :: .inl (0, 401, .inl (fv)) :: .inl (0, 401, .inl (fp)) :: g) := by
  intro k
  induction k with
  | zero =>
    intro i a m fk fv fp hi hm han ha hB hne htk
    obtain rfl : i = n := by omega
    refine rr_iload_n d_To_split_9 rfl rfl ?_
    refine rr_aload_n d_To_split_10 rfl rfl ?_
    refine rr_getf d_To_split_11 fl_To_25 rfl rfl ?_
    refine rr_icmp_ge 46 d_To_split_14 (by decide) (fun _ => ?_) (fun c9 => absurd (nI_le (by omega) (by omega)) c9)
    refine rr_aload_n d_To_split_46 rfl rfl ?_
    refine rr_iconst 0 d_To_split_47 rfl ?_
    refine rr_iconst 0 d_To_split_48 rfl ?_
    refine rr_aload_n d_To_split_49 rfl rfl ?_
    refine rr_getf d_To_split_50 fl_To_25 rfl rfl ?_
    refine rr_callV d_To_split_53 il_To_38 m_To_add (s_To_add (by omega)) rfl rfl rfl rfl (Nat.le_of_ble_eq_true rfl) (Nat.le_of_ble_eq_true rfl) (Nat.le_of_ble_eq_true rfl) (Nat.le_of_ble_eq_true rfl) (Nat.le_of_ble_eq_true rfl) (fun r h1 hq => ?_)
    obtain ⟨rfl, rfl⟩ := hq
    have eT : sp_T f i m = (0, 0, i, i) := by
      unfold sp_T
      rw [← ha, ← hB han, sp_next_end]
    exact rr_return d_To_split_56 rfl (Nat.le_of_ble_eq_true rfl) (Nat.le_of_ble_eq_true rfl) (⟨m, _, _, _, by omega, hne, by rw [eT], tk_add htk eT, rfl, rfl⟩)
  | succ k ih =>
    intro i a m fk fv fp hi hm han ha hB hne htk
    refine rr_iload_n d_To_split_9 rfl rfl ?_
    refine rr_aload_n d_To_split_10 rfl rfl ?_
    refine rr_getf d_To_split_11 fl_To_25 rfl rfl ?_
    refine rr_icmp_ge 46 d_To_split_14 (by decide) (fun c9 => absurd c9 (nI_ge (by omega) (by omega))) (fun _ => ?_)
    refine rr_iload_n d_To_split_17 rfl rfl ?_
    refine rr_iload_n d_To_split_18 rfl rfl ?_
    refine rr_icmp_lt 40 d_To_split_19 (by decide) (fun hc => ?_) (fun hc => ?_)
    · have hc2 := (nI_ltI (by omega) (by omega)).mp hc
      refine rr_iinc 1 d_To_split_40 rfl rfl (by decide) ?_
      refine rr_goto 9 d_To_split_43 (by decide) ?_
      rw [nI_1]
      exact rr_lvs _ rfl (ih (i + 1) a m fk fv fp (by omega) (by omega) han ha (fun q => by rw [show i + 1 = a by omega]) hne htk)
    · have hc2 : a ≤ i := Nat.not_lt.mp (fun q => hc ((nI_ltI (by omega) (by omega)).mpr q))
      refine rr_aload_n d_To_split_22 rfl rfl ?_
      refine rr_getf d_To_split_23 fl_To_30 rfl rfl ?_
      refine rr_iload_n d_To_split_26 rfl rfl ?_
      refine rr_bald d_To_split_27 rfl (vp_in_nI (n := i) (by omega) (by decide)) ?_
      refine rr_bipush 32 d_To_split_28 rfl ?_
      rw [nI_clamp (by omega)]
      refine rr_icmp_eq 40 d_To_split_30 (by decide) (fun hd => ?_) (fun hd => ?_)
      · skip
        refine rr_iinc 1 d_To_split_40 rfl rfl (by decide) ?_
        refine rr_goto 9 d_To_split_43 (by decide) ?_
        rw [nI_1]
        exact rr_lvs _ rfl (ih (i + 1) a m fk fv fp (by omega) (by omega) han ha (fun q => by rw [← sp_next_blank (by omega) hd]; exact hB hc2) hne htk)
      · have eT : sp_T f n m = ((sp_tok f n i).1, (sp_tok f n i).2.1, i, (sp_tok f n i).2.2) := by
          unfold sp_T
          rw [← ha, ← hB hc2, sp_next_tok (by omega) hd]
        have he := sp_tok_end (f := f) (n := n) (p := i) (by omega)
        refine rr_aload_n d_To_split_33 rfl rfl ?_
        refine rr_aload_n d_To_split_34 rfl rfl ?_
        refine rr_iload_n d_To_split_35 rfl rfl ?_
        refine rr_callV d_To_split_36 il_To_34 m_To_splitOne (s_To_splitOne hn (by omega) (by omega)) rfl rfl rfl rfl (Nat.le_of_ble_eq_true rfl) (Nat.le_of_ble_eq_true rfl) (Nat.le_of_ble_eq_true rfl) (Nat.le_of_ble_eq_true rfl) (Nat.le_of_ble_eq_true rfl) (fun r h1 hq => ?_)
        obtain ⟨rfl, rfl⟩ := hq
        refine rr_istore_n d_To_split_39 rfl (by decide) ?_
        refine rr_iinc 1 d_To_split_40 rfl rfl (by decide) ?_
        refine rr_goto 9 d_To_split_43 (by decide) ?_
        rw [nI_1]
        refine rr_lvs _ rfl (ih (i + 1) (sp_tok f n i).2.2 (m + 1) _ _ _ (by omega) (by omega) he.2 ?_ (fun q => by rw [show i + 1 = (sp_tok f n i).2.2 by omega]) ?_ (tk_add htk eT))
        · show _ = (sp_T f n m).2.2.2
          rw [eT]
        · intro k hk
          rcases Nat.lt_or_ge k m with hl | hl
          · exact hne k hl
          · obtain rfl : k = m := by omega
            rw [eT]
            exact sp_tok_ne

set_option maxRecDepth 100000 in
set_option maxHeartbeats 4000000 in
theorem s_To_split {x0 x3 : va_E} {g : rr_H} {n : Nat} {m0 : Int32} {f fk fv fp : Nat → Int32} (hn : n ≤ 400) : rr_Spec 8 y_To_split c_To_split 4 none 0 0 [.ref 4, .ref 1] (x0 :: .inr (3, [.ref 2, .int (nI n)]) :: .inl (1, 400, .inl (f)) :: x3 :: .inr (4, [.ref 5, .ref 6, .ref 7, .int m0]) :: .inl (0, 401, .inl (fk)) :: .inl (0, 401, .inl (fv)) :: .inl (0, 401, .inl (fp)) :: g) (fun r h1 => ∃ (M : Nat) (gk gv gp : Nat → Int32), M ≤ n ∧ (∀ k, k < M → (sp_T f n k).1 ≠ 0) ∧ (sp_T f n M).1 = 0 ∧ tk_ok f n (M + 1) gk gv gp ∧ r = none ∧ h1 = x0 :: .inr (3, [.ref 2, .int (nI n)]) :: .inl (1, 400, .inl (f)) :: x3 :: .inr (4, [.ref 5, .ref 6, .ref 7, .int (nI (M + 1))]) :: .inl (0, 401, .inl (gk)) :: .inl (0, 401, .inl (gv)) :: .inl (0, 401, .inl (gp)) :: g) := by
  refine rr_met (own := R_To) (kd := (false, none)) (by decide +kernel) rfl (fun h => by cases h) rfl (Nat.le_of_ble_eq_true rfl) ?_
  refine rr_aload_n d_To_split_0 rfl rfl ?_
  refine rr_iconst 0 d_To_split_1 rfl ?_
  refine rr_putf d_To_split_2 fl_To_21 rfl rfl rfl rfl ?_
  refine rr_iconst 0 d_To_split_5 rfl ?_
  refine rr_istore_n d_To_split_6 rfl (by decide) ?_
  refine rr_iconst 0 d_To_split_7 rfl ?_
  refine rr_istore_n d_To_split_8 rfl (by decide) ?_
  exact rr_lvs _ rfl (l_split hn n 0 0 0 fk fv fp (by omega) (by omega) (by omega) rfl (fun _ => rfl) (fun k hk => by omega) (fun k hk => by omega))
