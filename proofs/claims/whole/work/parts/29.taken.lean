/-! Is a rule taken; its effects. -/
/-- an expression that can be done: with k parts -/
def gi (x : sp_I) : Prop := sp_ht x 0 = some 1 ∧ sp_ce x
def gc (c : sp_C) : Prop := gi c.1 ∧ gi c.2.1 ∧ 1 + sp_np c.2.1 ≤ 80 ∧ sp_np c.1 ≤ 80 ∧ (c.2.2 = 10 ∨ c.2.2 = 11 ∨ c.2.2 = 12 ∨ c.2.2 = 13)
def gf (e : sp_F) : Prop := gi e.2 ∧ sp_np e.2 ≤ 80 ∧ ∃ c : Nat, c < 32 ∧ e.1 = nI c
def gu (u : sp_U) : Prop := (∀ c ∈ u.1, gc c) ∧ (∀ e ∈ u.2, gf e) ∧ u.2.length ≤ 8
def sp_ts (fc : Nat → Int32) (sv sp : Int32) (ts : List sp_C) : Bool := ts.all (fun c => sp_cv c.2.2 (sp_val fc sv sp c.1) (sp_val fc sv sp c.2.1))
def sp_es (fc : Nat → Int32) (sv sp : Int32) (es : List sp_F) : List (Int32 × Int32) := es.map (fun e => (e.1, sp_val fc sv sp e.2))
/-- the items x stand in the rows from place i on -/
def at_c (ck cv : Nat → Int32) (i : Nat) (x : sp_I) : Prop := ∀ (k : Nat) (q : Nat × Int32), x[k]? = some q → ck (i + k) = nI q.1 ∧ cv (i + k) = q.2
theorem at_c_app {ck cv : Nat → Int32} {i : Nat} {x y : sp_I} (h : at_c ck cv i (x ++ y)) : at_c ck cv i x ∧ at_c ck cv (i + x.length) y := by
  refine ⟨fun k q hq => h k q ?_, fun k q hq => ?_⟩
  · rw [List.getElem?_append_left (List.getElem?_eq_some_iff.mp hq).1]
    exact hq
  · rw [Nat.add_assoc]
    refine h (x.length + k) q ?_
    rw [List.getElem?_append_right (by omega), Nat.add_sub_cancel_left]
    exact hq
theorem at_c_hd {ck cv : Nat → Int32} {i : Nat} {q : Nat × Int32} {x : sp_I} (h : at_c ck cv i (q :: x)) : ck i = nI q.1 ∧ cv i = q.2 ∧ at_c ck cv (i + 1) x := by
  refine ⟨(h 0 q rfl).1, (h 0 q rfl).2, fun k r hr => ?_⟩
  have := h (k + 1) r (by rw [List.getElem?_cons_succ]; exact hr)
  rwa [show i + (k + 1) = i + 1 + k by omega] at this

set_option maxRecDepth 100000 in
set_option maxHeartbeats 4000000 in
theorem l_items {x0 x1 x2 x3 x4 x5 x6 x7 x8 x9 x10 x11 x17 x18 x19 : va_E} {g : rr_H} {cg ru s0 r0 b0 sv sp : Int32} {fc ck cv : Nat → Int32} {e : Nat} {Q : Option Value → rr_H → Prop} {m n2 : Nat} {ec ev : Nat → Int32} (he : e ≤ 160) : ∀ (x : sp_I) (i n : Nat) (fs : Nat → Int32), at_c ck cv i x → i + x.length ≤ e → sp_ht x n = some n2 → n + sp_np x ≤ 80 → sp_ce x → (∀ fs2 : Nat → Int32, st_of fs2 n2 = sp_ev fc sv sp x (st_of fs n) → rr_A R_Ma c_Ma_isTaken 7 (some .boolean) (false, none) { frames := 2, cells := 0, slots := 0, locals := 2 * 64 } (Q) 0 0 13 [(6, .int (nI (i + x.length))), (0, .ref 12), (1, .ref 20), (2, .int b0), (3, .int (nI e)), (4, .int sv), (5, .int sp)] [] (x0 :: x1 :: x2 :: x3 :: x4 :: x5 :: x6 :: x7 :: x8 :: x9 :: x10 :: x11 :: .inr (1, [.ref 13, .ref 14, .int (nI n2), .ref 15, .ref 16, .int (nI m), .ref 17, .ref 18, .int cg, .ref 19, .int ru]) :: .inl (0, 32, .inl (fc)) :: .inl (0, 80, .inl (fs2)) :: .inl (0, 8, .inl (ec)) :: .inl (0, 8, .inl (ev)) :: x17 :: x18 :: x19 :: .inr (0, [.ref 21, .ref 22, .ref 23, .int s0, .int r0]) :: .inl (0, 160, .inl ck) :: .inl (0, 160, .inl cv) :: g)) → rr_A R_Ma c_Ma_isTaken 7 (some .boolean) (false, none) { frames := 2, cells := 0, slots := 0, locals := 2 * 64 } (Q) 0 0 13 [(6, .int (nI i)), (0, .ref 12), (1, .ref 20), (2, .int b0), (3, .int (nI e)), (4, .int sv), (5, .int sp)] [] (x0 :: x1 :: x2 :: x3 :: x4 :: x5 :: x6 :: x7 :: x8 :: x9 :: x10 :: x11 :: .inr (1, [.ref 13, .ref 14, .int (nI n), .ref 15, .ref 16, .int (nI m), .ref 17, .ref 18, .int cg, .ref 19, .int ru]) :: .inl (0, 32, .inl (fc)) :: .inl (0, 80, .inl (fs)) :: .inl (0, 8, .inl (ec)) :: .inl (0, 8, .inl (ev)) :: x17 :: x18 :: x19 :: .inr (0, [.ref 21, .ref 22, .ref 23, .int s0, .int r0]) :: .inl (0, 160, .inl ck) :: .inl (0, 160, .inl cv) :: g) := by
  intro x
  induction x with
  | nil =>
    intro i n fs ha hi hh hb hce k
    cases hh
    exact k fs rfl
  | cons q x ih =>
    intro i n fs ha hi hh hb hce k
    obtain ⟨a1, a2, a3⟩ := at_c_hd ha
    have hlen : (q :: x).length = x.length + 1 := rfl
    rw [hlen] at hi
    have hce2 : sp_ce x := fun r hr => hce r (List.mem_cons_of_mem _ hr)
    have hnp : sp_np (q :: x) = (if sp_psh q.1 = true then 1 else 0) + sp_np x := rfl
    unfold sp_ht at hh
    refine rr_iload d_Ma_isTaken_13 rfl ?_
    refine rr_iload_n d_Ma_isTaken_15 rfl rfl ?_
    refine rr_icmp_ge 193 d_Ma_isTaken_16 (by decide) (fun c9 => absurd c9 (nI_ge (a := i) (b := e) (by omega) (by omega))) (fun _ => ?_)
    refine rr_aload_n d_Ma_isTaken_19 rfl rfl ?_
    refine rr_getf d_Ma_isTaken_20 fl_Ma_61 rfl rfl ?_
    refine rr_iload d_Ma_isTaken_23 rfl ?_
    refine rr_iald d_Ma_isTaken_25 rfl (vp_in_nI (n := i) (by omega) (by decide)) ?_
    rw [nI_clamp (by omega), a1]
    have hiv : vp_in (nI i) 160 := vp_in_nI (n := i) (by omega) (by decide)
    by_cases hp : sp_psh q.1 = true
    · rw [if_pos hp] at hh
      rw [hnp, if_pos hp] at hb
      have nx : ∀ v : Int32, sp_it fc sv sp q (st_of fs n) = v :: st_of fs n → rr_A R_Ma c_Ma_isTaken 7 (some .boolean) (false, none) { frames := 2, cells := 0, slots := 0, locals := 2 * 64 } (Q) 0 0 187 [(6, .int (nI i)), (0, .ref 12), (1, .ref 20), (2, .int b0), (3, .int (nI e)), (4, .int sv), (5, .int sp)] [] (x0 :: x1 :: x2 :: x3 :: x4 :: x5 :: x6 :: x7 :: x8 :: x9 :: x10 :: x11 :: .inr (1, [.ref 13, .ref 14, .int (nI (n + 1)), .ref 15, .ref 16, .int (nI m), .ref 17, .ref 18, .int cg, .ref 19, .int ru]) :: .inl (0, 32, .inl (fc)) :: .inl (0, 80, .inl (upd fs n v)) :: .inl (0, 8, .inl (ec)) :: .inl (0, 8, .inl (ev)) :: x17 :: x18 :: x19 :: .inr (0, [.ref 21, .ref 22, .ref 23, .int s0, .int r0]) :: .inl (0, 160, .inl ck) :: .inl (0, 160, .inl cv) :: g) := by
        intro v hv
        refine rr_iinc 1 d_Ma_isTaken_187 rfl rfl (by decide) ?_
        refine rr_goto 13 d_Ma_isTaken_190 (by decide) ?_
        rw [nI_1]
        refine rr_lvs _ rfl (ih (i + 1) (n + 1) (upd fs n v) a3 (by omega) hh (by omega) hce2 (fun fs2 h2 => ?_))
        have := k fs2 (by rw [h2, st_of_push, ← hv]; rfl)
        rwa [hlen, show i + (x.length + 1) = i + 1 + x.length by omega] at this
      have hq : q.1 = 9 ∨ q.1 = 8 ∨ q.1 = 6 ∨ q.1 = 7 := by simpa [sp_psh, or_assoc] using hp
      rcases hq with hq | hq | hq | hq
      · rw [hq]
        refine rr_tin 88 62 d_Ma_isTaken_26 (by decide) (by decide) rfl (by decide) ?_
        refine rr_aload_n d_Ma_isTaken_88 rfl rfl ?_
        refine rr_aload_n d_Ma_isTaken_89 rfl rfl ?_
        refine rr_getf d_Ma_isTaken_90 fl_Ma_64 rfl rfl ?_
        refine rr_iload d_Ma_isTaken_93 rfl ?_
        refine rr_iald d_Ma_isTaken_95 rfl (hiv) ?_
        rw [nI_clamp (by omega), a2]
        refine rr_callV d_Ma_isTaken_96 il_Ma_67 m_Ma_push (s_Ma_push (n := n) (by omega)) rfl rfl rfl rfl (Nat.le_of_ble_eq_true rfl) (Nat.le_of_ble_eq_true rfl) (Nat.le_of_ble_eq_true rfl) (Nat.le_of_ble_eq_true rfl) (Nat.le_of_ble_eq_true rfl) (fun r h1 hq => ?_)
        obtain ⟨rfl, rfl⟩ := hq
        refine rr_goto 187 d_Ma_isTaken_99 (by decide) ?_
        exact nx q.2 (by unfold sp_it; simp [hq])
      · rw [hq]
        refine rr_tin 102 76 d_Ma_isTaken_26 (by decide) (by decide) rfl (by decide) ?_
        obtain ⟨c, hc, ec2⟩ := hce q List.mem_cons_self hq
        refine rr_aload_n d_Ma_isTaken_102 rfl rfl ?_
        refine rr_aload_n d_Ma_isTaken_103 rfl rfl ?_
        refine rr_getf d_Ma_isTaken_104 fl_Ma_9 rfl rfl ?_
        refine rr_aload_n d_Ma_isTaken_107 rfl rfl ?_
        refine rr_getf d_Ma_isTaken_108 fl_Ma_64 rfl rfl ?_
        refine rr_iload d_Ma_isTaken_111 rfl ?_
        refine rr_iald d_Ma_isTaken_113 rfl (hiv) ?_
        refine rr_iald d_Ma_isTaken_114 rfl (show vp_in (cv (nI i).toNatClampNeg) 32 by rw [nI_clamp (by omega), a2, ec2]; exact vp_in_nI hc (by decide)) ?_
        rw [nI_clamp (n := i) (by omega), a2]
        refine rr_callV d_Ma_isTaken_115 il_Ma_67 m_Ma_push (s_Ma_push (n := n) (by omega)) rfl rfl rfl rfl (Nat.le_of_ble_eq_true rfl) (Nat.le_of_ble_eq_true rfl) (Nat.le_of_ble_eq_true rfl) (Nat.le_of_ble_eq_true rfl) (Nat.le_of_ble_eq_true rfl) (fun r h1 hq => ?_)
        obtain ⟨rfl, rfl⟩ := hq
        refine rr_goto 187 d_Ma_isTaken_118 (by decide) ?_
        exact nx (fc q.2.toNatClampNeg) (by unfold sp_it; simp [hq])
      · rw [hq]
        refine rr_tin 121 95 d_Ma_isTaken_26 (by decide) (by decide) rfl (by decide) ?_
        refine rr_aload_n d_Ma_isTaken_121 rfl rfl ?_
        refine rr_iload d_Ma_isTaken_122 rfl ?_
        refine rr_callV d_Ma_isTaken_124 il_Ma_67 m_Ma_push (s_Ma_push (n := n) (by omega)) rfl rfl rfl rfl (Nat.le_of_ble_eq_true rfl) (Nat.le_of_ble_eq_true rfl) (Nat.le_of_ble_eq_true rfl) (Nat.le_of_ble_eq_true rfl) (Nat.le_of_ble_eq_true rfl) (fun r h1 hq => ?_)
        obtain ⟨rfl, rfl⟩ := hq
        refine rr_goto 187 d_Ma_isTaken_127 (by decide) ?_
        exact nx sv (by unfold sp_it; simp [hq])
      · rw [hq]
        refine rr_tin 130 104 d_Ma_isTaken_26 (by decide) (by decide) rfl (by decide) ?_
        refine rr_aload_n d_Ma_isTaken_130 rfl rfl ?_
        refine rr_iload d_Ma_isTaken_131 rfl ?_
        refine rr_callV d_Ma_isTaken_133 il_Ma_67 m_Ma_push (s_Ma_push (n := n) (by omega)) rfl rfl rfl rfl (Nat.le_of_ble_eq_true rfl) (Nat.le_of_ble_eq_true rfl) (Nat.le_of_ble_eq_true rfl) (Nat.le_of_ble_eq_true rfl) (Nat.le_of_ble_eq_true rfl) (fun r h1 hq => ?_)
        obtain ⟨rfl, rfl⟩ := hq
        refine rr_goto 187 d_Ma_isTaken_136 (by decide) ?_
        exact nx sp (by unfold sp_it; simp [hq])
    · rw [if_neg hp] at hh
      rw [hnp, if_neg hp] at hb
      by_cases h2 : sp_isop q.1 = true ∧ 2 ≤ n
      · rw [if_pos h2] at hh
        obtain ⟨j, rfl⟩ : ∃ j, n = j + 2 := ⟨n - 2, by omega⟩
        have nx : rr_A R_Ma c_Ma_isTaken 7 (some .boolean) (false, none) { frames := 2, cells := 0, slots := 0, locals := 2 * 64 } (Q) 0 0 187 [(6, .int (nI i)), (0, .ref 12), (1, .ref 20), (2, .int b0), (3, .int (nI e)), (4, .int sv), (5, .int sp)] [] (x0 :: x1 :: x2 :: x3 :: x4 :: x5 :: x6 :: x7 :: x8 :: x9 :: x10 :: x11 :: .inr (1, [.ref 13, .ref 14, .int (nI (j + 1)), .ref 15, .ref 16, .int (nI m), .ref 17, .ref 18, .int cg, .ref 19, .int ru]) :: .inl (0, 32, .inl (fc)) :: .inl (0, 80, .inl (upd fs j (sp_op q.1 (fs j) (fs (j + 1))))) :: .inl (0, 8, .inl (ec)) :: .inl (0, 8, .inl (ev)) :: x17 :: x18 :: x19 :: .inr (0, [.ref 21, .ref 22, .ref 23, .int s0, .int r0]) :: .inl (0, 160, .inl ck) :: .inl (0, 160, .inl cv) :: g) := by
          refine rr_iinc 1 d_Ma_isTaken_187 rfl rfl (by decide) ?_
          refine rr_goto 13 d_Ma_isTaken_190 (by decide) ?_
          rw [nI_1]
          refine rr_lvs _ rfl (ih (i + 1) (j + 1) _ a3 (by omega) hh (by omega) hce2 (fun fs2 h3 => ?_))
          have := k fs2 (by
            rw [h3, st_of_push]
            show _ = sp_ev fc sv sp x (sp_it fc sv sp q (fs (j + 1) :: fs j :: st_of fs j))
            rw [sp_it_op hp])
          rwa [hlen, show i + (x.length + 1) = i + 1 + x.length by omega] at this
        have hq : q.1 = 14 ∨ q.1 = 15 ∨ q.1 = 16 := by simpa [sp_isop, or_assoc] using h2.1
        have hq2 := hq
        rcases hq with hq | hq | hq
        · rw [hq] at nx a1 hq2 ⊢
          refine rr_tin 157 131 d_Ma_isTaken_26 (by decide) (by decide) rfl (by decide) ?_
          refine rr_aload_n d_Ma_isTaken_157 rfl rfl ?_
          refine rr_aload_n d_Ma_isTaken_158 rfl rfl ?_
          refine rr_getf d_Ma_isTaken_159 fl_Ma_61 rfl rfl ?_
          refine rr_iload d_Ma_isTaken_162 rfl ?_
          refine rr_iald d_Ma_isTaken_164 rfl (hiv) ?_
          rw [nI_clamp (by omega), a1]
          refine rr_callV d_Ma_isTaken_165 il_Ma_79 m_Ma_calculate (s_Ma_calculate (n := j) (k := 14) (by omega) hq2) rfl rfl rfl rfl (Nat.le_of_ble_eq_true rfl) (Nat.le_of_ble_eq_true rfl) (Nat.le_of_ble_eq_true rfl) (Nat.le_of_ble_eq_true rfl) (Nat.le_of_ble_eq_true rfl) (fun r h1 hq => ?_)
          obtain ⟨rfl, rfl⟩ := hq
          refine rr_goto 187 d_Ma_isTaken_168 (by decide) ?_
          exact nx
        · rw [hq] at nx a1 hq2 ⊢
          refine rr_tin 157 131 d_Ma_isTaken_26 (by decide) (by decide) rfl (by decide) ?_
          refine rr_aload_n d_Ma_isTaken_157 rfl rfl ?_
          refine rr_aload_n d_Ma_isTaken_158 rfl rfl ?_
          refine rr_getf d_Ma_isTaken_159 fl_Ma_61 rfl rfl ?_
          refine rr_iload d_Ma_isTaken_162 rfl ?_
          refine rr_iald d_Ma_isTaken_164 rfl (hiv) ?_
          rw [nI_clamp (by omega), a1]
          refine rr_callV d_Ma_isTaken_165 il_Ma_79 m_Ma_calculate (s_Ma_calculate (n := j) (k := 15) (by omega) hq2) rfl rfl rfl rfl (Nat.le_of_ble_eq_true rfl) (Nat.le_of_ble_eq_true rfl) (Nat.le_of_ble_eq_true rfl) (Nat.le_of_ble_eq_true rfl) (Nat.le_of_ble_eq_true rfl) (fun r h1 hq => ?_)
          obtain ⟨rfl, rfl⟩ := hq
          refine rr_goto 187 d_Ma_isTaken_168 (by decide) ?_
          exact nx
        · rw [hq] at nx a1 hq2 ⊢
          refine rr_tin 157 131 d_Ma_isTaken_26 (by decide) (by decide) rfl (by decide) ?_
          refine rr_aload_n d_Ma_isTaken_157 rfl rfl ?_
          refine rr_aload_n d_Ma_isTaken_158 rfl rfl ?_
          refine rr_getf d_Ma_isTaken_159 fl_Ma_61 rfl rfl ?_
          refine rr_iload d_Ma_isTaken_162 rfl ?_
          refine rr_iald d_Ma_isTaken_164 rfl (hiv) ?_
          rw [nI_clamp (by omega), a1]
          refine rr_callV d_Ma_isTaken_165 il_Ma_79 m_Ma_calculate (s_Ma_calculate (n := j) (k := 16) (by omega) hq2) rfl rfl rfl rfl (Nat.le_of_ble_eq_true rfl) (Nat.le_of_ble_eq_true rfl) (Nat.le_of_ble_eq_true rfl) (Nat.le_of_ble_eq_true rfl) (Nat.le_of_ble_eq_true rfl) (fun r h1 hq => ?_)
          obtain ⟨rfl, rfl⟩ := hq
          refine rr_goto 187 d_Ma_isTaken_168 (by decide) ?_
          exact nx
      · rw [if_neg h2] at hh
        cases hh

set_option maxRecDepth 100000 in
set_option maxHeartbeats 4000000 in
theorem l_effs {x0 x1 x2 x3 x4 x5 x6 x7 x8 x9 x10 x11 x17 x18 x19 : va_E} {g : rr_H} {cg ru s0 r0 b0 sv sp : Int32} {fc ck cv : Nat → Int32} {e : Nat} (he : e ≤ 160) {Q : Option Value → rr_H → Prop} : ∀ (es : List sp_F) (i m : Nat) (fs ec ev : Nat → Int32), at_c ck cv i (es.flatMap fl_f) → i + (es.flatMap fl_f).length = e → (∀ q ∈ es, gf q) → m + es.length ≤ 8 → (∀ r h1, (fun r h1 => ∃ (n2 : Int32) (fs2 : Nat → Int32), r = some (.int 1) ∧ h1 = x0 :: x1 :: x2 :: x3 :: x4 :: x5 :: x6 :: x7 :: x8 :: x9 :: x10 :: x11 :: .inr (1, [.ref 13, .ref 14, .int n2, .ref 15, .ref 16, .int (nI (m + es.length)), .ref 17, .ref 18, .int cg, .ref 19, .int ru]) :: .inl (0, 32, .inl (fc)) :: .inl (0, 80, .inl (fs2)) :: .inl (0, 8, .inl (sp_wr ec m (es.map fun q => q.1))) :: .inl (0, 8, .inl (sp_wr ev m (es.map fun q => sp_val fc sv sp q.2))) :: x17 :: x18 :: x19 :: .inr (0, [.ref 21, .ref 22, .ref 23, .int s0, .int r0]) :: .inl (0, 160, .inl ck) :: .inl (0, 160, .inl cv) :: g) r h1 → Q r h1) → rr_A R_Ma c_Ma_isTaken 7 (some .boolean) (false, none) { frames := 2, cells := 0, slots := 0, locals := 2 * 64 } (Q) 0 0 13 [(6, .int (nI i)), (0, .ref 12), (1, .ref 20), (2, .int b0), (3, .int (nI e)), (4, .int sv), (5, .int sp)] [] (x0 :: x1 :: x2 :: x3 :: x4 :: x5 :: x6 :: x7 :: x8 :: x9 :: x10 :: x11 :: .inr (1, [.ref 13, .ref 14, .int (nI 0), .ref 15, .ref 16, .int (nI m), .ref 17, .ref 18, .int cg, .ref 19, .int ru]) :: .inl (0, 32, .inl (fc)) :: .inl (0, 80, .inl (fs)) :: .inl (0, 8, .inl (ec)) :: .inl (0, 8, .inl (ev)) :: x17 :: x18 :: x19 :: .inr (0, [.ref 21, .ref 22, .ref 23, .int s0, .int r0]) :: .inl (0, 160, .inl ck) :: .inl (0, 160, .inl cv) :: g) := by
  intro es
  induction es with
  | nil =>
    intro i m fs ec ev ha hi hg hm hQ
    simp only [List.flatMap_nil, List.length_nil] at hi
    refine rr_iload d_Ma_isTaken_13 rfl ?_
    refine rr_iload_n d_Ma_isTaken_15 rfl rfl ?_
    refine rr_icmp_ge 193 d_Ma_isTaken_16 (by decide) (fun _ => ?_) (fun c9 => absurd (nI_le (by omega) (by omega)) c9)
    refine rr_iconst 1 d_Ma_isTaken_193 rfl ?_
    exact rr_ireturn d_Ma_isTaken_194 rfl rfl (Nat.le_of_ble_eq_true rfl) (Nat.le_of_ble_eq_true rfl) (hQ _ _ ⟨_, _, rfl, rfl⟩)
  | cons q es ih =>
    intro i m fs ec ev ha hi hg hm hQ
    have hm2 : m + (es.length + 1) ≤ 8 := hm
    obtain ⟨g1, g2, c, hc, g3⟩ := hg q List.mem_cons_self
    have hfl : (q :: es).flatMap fl_f = q.2 ++ ([(17, q.1)] ++ es.flatMap fl_f) := by
      rw [List.flatMap_cons]
      simp [fl_f]
    rw [hfl] at ha hi
    obtain ⟨b1, b2⟩ := at_c_app ha
    obtain ⟨d1, d2, d3⟩ := at_c_hd b2
    simp only [List.length_append, List.length_cons, List.length_nil] at hi
    refine l_items he q.2 i 0 fs b1 (by omega) g1.1 (by omega) g1.2 (fun fs2 h2 => ?_)
    rw [sp_ev_val g1.1] at h2
    have hv : fs2 0 = sp_val fc sv sp q.2 := (List.cons.inj h2).1
    have hiv : vp_in (nI (i + q.2.length)) 160 := vp_in_nI (by omega) (by decide)
    refine rr_iload d_Ma_isTaken_13 rfl ?_
    refine rr_iload_n d_Ma_isTaken_15 rfl rfl ?_
    refine rr_icmp_ge 193 d_Ma_isTaken_16 (by decide) (fun c9 => absurd c9 (nI_ge (by omega) (by omega))) (fun _ => ?_)
    refine rr_aload_n d_Ma_isTaken_19 rfl rfl ?_
    refine rr_getf d_Ma_isTaken_20 fl_Ma_61 rfl rfl ?_
    refine rr_iload d_Ma_isTaken_23 rfl ?_
    refine rr_iald d_Ma_isTaken_25 rfl (hiv) ?_
    rw [nI_clamp (by omega), d1]
    dsimp only
    refine rr_tin 139 113 d_Ma_isTaken_26 (by decide) (by decide) rfl (by decide) ?_
    refine rr_aload_n d_Ma_isTaken_139 rfl rfl ?_
    refine rr_aload_n d_Ma_isTaken_140 rfl rfl ?_
    refine rr_getf d_Ma_isTaken_141 fl_Ma_64 rfl rfl ?_
    refine rr_iload d_Ma_isTaken_144 rfl ?_
    refine rr_iald d_Ma_isTaken_146 rfl (hiv) ?_
    refine rr_aload_n d_Ma_isTaken_147 rfl rfl ?_
    rw [nI_clamp (by omega), d2]
    refine rr_callV d_Ma_isTaken_148 il_Ma_71 m_Ma_pop (s_Ma_pop (n := 0) (by omega)) rfl rfl rfl rfl (Nat.le_of_ble_eq_true rfl) (Nat.le_of_ble_eq_true rfl) (Nat.le_of_ble_eq_true rfl) (Nat.le_of_ble_eq_true rfl) (Nat.le_of_ble_eq_true rfl) (fun r h1 hq => ?_)
    obtain ⟨rfl, rfl⟩ := hq
    refine rr_callV d_Ma_isTaken_151 il_Ma_75 m_Ma_addEffect (s_Ma_addEffect (m := m) (by omega)) rfl rfl rfl rfl (Nat.le_of_ble_eq_true rfl) (Nat.le_of_ble_eq_true rfl) (Nat.le_of_ble_eq_true rfl) (Nat.le_of_ble_eq_true rfl) (Nat.le_of_ble_eq_true rfl) (fun r h1 hq => ?_)
    obtain ⟨rfl, rfl⟩ := hq
    refine rr_goto 187 d_Ma_isTaken_154 (by decide) ?_
    refine rr_iinc 1 d_Ma_isTaken_187 rfl rfl (by decide) ?_
    refine rr_goto 13 d_Ma_isTaken_190 (by decide) ?_
    rw [nI_1, hv]
    refine rr_lvs _ rfl (ih (i + q.2.length + 1) (m + 1) fs2 _ _ d3 (by omega) (fun r hr => hg r (List.mem_cons_of_mem _ hr)) (by omega) ?_)
    rintro r h1 ⟨n2, fs3, hr, hh⟩
    refine hQ r h1 ⟨n2, fs3, hr, ?_⟩
    rw [hh, show m + 1 + es.length = m + (q :: es).length by simp; omega]
    rfl

set_option maxRecDepth 100000 in
set_option maxHeartbeats 4000000 in
theorem l_tests {x0 x1 x2 x3 x4 x5 x6 x7 x8 x9 x10 x11 x17 x18 x19 : va_E} {g : rr_H} {cg ru s0 r0 b0 sv sp : Int32} {fc ck cv : Nat → Int32} {e : Nat} {ec ev : Nat → Int32} (he : e ≤ 160) (es : List sp_F) (hes : ∀ q ∈ es, gf q) (hel : es.length ≤ 8) : ∀ (ts : List sp_C) (i : Nat) (fs : Nat → Int32), at_c ck cv i (ts.flatMap fl_c ++ es.flatMap fl_f) → i + (ts.flatMap fl_c ++ es.flatMap fl_f).length = e → (∀ c ∈ ts, gc c) → rr_A R_Ma c_Ma_isTaken 7 (some .boolean) (false, none) { frames := 2, cells := 0, slots := 0, locals := 2 * 64 } (fun r h1 => ∃ (n2 m2 : Int32) (fs2 ec2 ev2 : Nat → Int32), if sp_ts fc sv sp ts = true then (r = some (.int 1) ∧ h1 = x0 :: x1 :: x2 :: x3 :: x4 :: x5 :: x6 :: x7 :: x8 :: x9 :: x10 :: x11 :: .inr (1, [.ref 13, .ref 14, .int n2, .ref 15, .ref 16, .int (nI es.length), .ref 17, .ref 18, .int cg, .ref 19, .int ru]) :: .inl (0, 32, .inl (fc)) :: .inl (0, 80, .inl (fs2)) :: .inl (0, 8, .inl (sp_wr ec 0 (es.map fun q => q.1))) :: .inl (0, 8, .inl (sp_wr ev 0 (es.map fun q => sp_val fc sv sp q.2))) :: x17 :: x18 :: x19 :: .inr (0, [.ref 21, .ref 22, .ref 23, .int s0, .int r0]) :: .inl (0, 160, .inl ck) :: .inl (0, 160, .inl cv) :: g) else (r = some (.int 0) ∧ h1 = x0 :: x1 :: x2 :: x3 :: x4 :: x5 :: x6 :: x7 :: x8 :: x9 :: x10 :: x11 :: .inr (1, [.ref 13, .ref 14, .int n2, .ref 15, .ref 16, .int m2, .ref 17, .ref 18, .int cg, .ref 19, .int ru]) :: .inl (0, 32, .inl (fc)) :: .inl (0, 80, .inl (fs2)) :: .inl (0, 8, .inl (ec2)) :: .inl (0, 8, .inl (ev2)) :: x17 :: x18 :: x19 :: .inr (0, [.ref 21, .ref 22, .ref 23, .int s0, .int r0]) :: .inl (0, 160, .inl ck) :: .inl (0, 160, .inl cv) :: g)) 0 0 13 [(6, .int (nI i)), (0, .ref 12), (1, .ref 20), (2, .int b0), (3, .int (nI e)), (4, .int sv), (5, .int sp)] [] (x0 :: x1 :: x2 :: x3 :: x4 :: x5 :: x6 :: x7 :: x8 :: x9 :: x10 :: x11 :: .inr (1, [.ref 13, .ref 14, .int (nI 0), .ref 15, .ref 16, .int (nI 0), .ref 17, .ref 18, .int cg, .ref 19, .int ru]) :: .inl (0, 32, .inl (fc)) :: .inl (0, 80, .inl (fs)) :: .inl (0, 8, .inl (ec)) :: .inl (0, 8, .inl (ev)) :: x17 :: x18 :: x19 :: .inr (0, [.ref 21, .ref 22, .ref 23, .int s0, .int r0]) :: .inl (0, 160, .inl ck) :: .inl (0, 160, .inl cv) :: g) := by
  intro ts
  induction ts with
  | nil =>
    intro i fs ha hi hg
    simp only [List.flatMap_nil, List.nil_append] at ha hi
    refine l_effs he es i 0 fs ec ev ha hi hes (by omega) ?_
    rintro r h1 ⟨n2, fs2, hr, hh⟩
    refine ⟨n2, 0, fs2, ec, ev, ?_⟩
    rw [if_pos (show sp_ts fc sv sp [] = true from rfl)]
    rw [Nat.zero_add] at hh
    exact ⟨hr, hh⟩
  | cons c ts ih =>
    intro i fs ha hi hg
    obtain ⟨g1, g2, g3, g4, g5⟩ := hg c List.mem_cons_self
    have hfl : (c :: ts).flatMap fl_c ++ es.flatMap fl_f = c.1 ++ (c.2.1 ++ ([(c.2.2, 0)] ++ (ts.flatMap fl_c ++ es.flatMap fl_f))) := by
      rw [List.flatMap_cons]
      simp [fl_c]
    rw [hfl] at ha hi
    obtain ⟨b1, b2⟩ := at_c_app ha
    obtain ⟨b3, b4⟩ := at_c_app b2
    obtain ⟨d1, d2, d3⟩ := at_c_hd b4
    simp only [List.length_append, List.length_cons, List.length_nil] at hi
    refine l_items he c.1 i 0 fs b1 (by omega) g1.1 (by omega) g1.2 (fun fs2 h2 => ?_)
    rw [sp_ev_val g1.1] at h2
    have hv : fs2 0 = sp_val fc sv sp c.1 := (List.cons.inj h2).1
    refine l_items he c.2.1 (i + c.1.length) 1 fs2 b3 (by omega) (sp_ht_up _ 0 1 1 g2.1) (by omega) g2.2 (fun fs3 h3 => ?_)
    rw [sp_ev_val g2.1] at h3
    have hv1 : fs3 1 = sp_val fc sv sp c.2.1 := (List.cons.inj h3).1
    have hv0 : fs3 0 = sp_val fc sv sp c.1 := by rw [← hv]; exact (List.cons.inj (List.cons.inj h3).2).1
    have hiv : vp_in (nI (i + c.1.length + c.2.1.length)) 160 := vp_in_nI (by omega) (by decide)
    have hts : sp_ts fc sv sp (c :: ts) = (sp_cv c.2.2 (sp_val fc sv sp c.1) (sp_val fc sv sp c.2.1) && sp_ts fc sv sp ts) := rfl
    refine rr_iload d_Ma_isTaken_13 rfl ?_
    refine rr_iload_n d_Ma_isTaken_15 rfl rfl ?_
    refine rr_icmp_ge 193 d_Ma_isTaken_16 (by decide) (fun c9 => absurd c9 (nI_ge (by omega) (by omega))) (fun _ => ?_)
    refine rr_aload_n d_Ma_isTaken_19 rfl rfl ?_
    refine rr_getf d_Ma_isTaken_20 fl_Ma_61 rfl rfl ?_
    refine rr_iload d_Ma_isTaken_23 rfl ?_
    refine rr_iald d_Ma_isTaken_25 rfl (hiv) ?_
    rw [nI_clamp (by omega), d1]
    have go : rr_A R_Ma c_Ma_isTaken 7 (some .boolean) (false, none) { frames := 2, cells := 0, slots := 0, locals := 2 * 64 } (fun r h1 => ∃ (n2 m2 : Int32) (fs2 ec2 ev2 : Nat → Int32), if sp_ts fc sv sp (c :: ts) = true then (r = some (.int 1) ∧ h1 = x0 :: x1 :: x2 :: x3 :: x4 :: x5 :: x6 :: x7 :: x8 :: x9 :: x10 :: x11 :: .inr (1, [.ref 13, .ref 14, .int n2, .ref 15, .ref 16, .int (nI es.length), .ref 17, .ref 18, .int cg, .ref 19, .int ru]) :: .inl (0, 32, .inl (fc)) :: .inl (0, 80, .inl (fs2)) :: .inl (0, 8, .inl (sp_wr ec 0 (es.map fun q => q.1))) :: .inl (0, 8, .inl (sp_wr ev 0 (es.map fun q => sp_val fc sv sp q.2))) :: x17 :: x18 :: x19 :: .inr (0, [.ref 21, .ref 22, .ref 23, .int s0, .int r0]) :: .inl (0, 160, .inl ck) :: .inl (0, 160, .inl cv) :: g) else (r = some (.int 0) ∧ h1 = x0 :: x1 :: x2 :: x3 :: x4 :: x5 :: x6 :: x7 :: x8 :: x9 :: x10 :: x11 :: .inr (1, [.ref 13, .ref 14, .int n2, .ref 15, .ref 16, .int m2, .ref 17, .ref 18, .int cg, .ref 19, .int ru]) :: .inl (0, 32, .inl (fc)) :: .inl (0, 80, .inl (fs2)) :: .inl (0, 8, .inl (ec2)) :: .inl (0, 8, .inl (ev2)) :: x17 :: x18 :: x19 :: .inr (0, [.ref 21, .ref 22, .ref 23, .int s0, .int r0]) :: .inl (0, 160, .inl ck) :: .inl (0, 160, .inl cv) :: g)) 0 0 171 [(6, .int (nI (i + c.1.length + c.2.1.length))), (0, .ref 12), (1, .ref 20), (2, .int b0), (3, .int (nI e)), (4, .int sv), (5, .int sp)] [] (x0 :: x1 :: x2 :: x3 :: x4 :: x5 :: x6 :: x7 :: x8 :: x9 :: x10 :: x11 :: .inr (1, [.ref 13, .ref 14, .int (nI (1 + 1)), .ref 15, .ref 16, .int (nI 0), .ref 17, .ref 18, .int cg, .ref 19, .int ru]) :: .inl (0, 32, .inl (fc)) :: .inl (0, 80, .inl (fs3)) :: .inl (0, 8, .inl (ec)) :: .inl (0, 8, .inl (ev)) :: x17 :: x18 :: x19 :: .inr (0, [.ref 21, .ref 22, .ref 23, .int s0, .int r0]) :: .inl (0, 160, .inl ck) :: .inl (0, 160, .inl cv) :: g) := by
      refine rr_aload_n d_Ma_isTaken_171 rfl rfl ?_
      refine rr_aload_n d_Ma_isTaken_172 rfl rfl ?_
      refine rr_getf d_Ma_isTaken_173 fl_Ma_61 rfl rfl ?_
      refine rr_iload d_Ma_isTaken_176 rfl ?_
      refine rr_iald d_Ma_isTaken_178 rfl (hiv) ?_
      rw [nI_clamp (by omega), d1]
      refine rr_callV d_Ma_isTaken_179 il_Ma_82 m_Ma_holds (s_Ma_holds (n := 0) (k := c.2.2) (by omega) g5) rfl rfl rfl rfl (Nat.le_of_ble_eq_true rfl) (Nat.le_of_ble_eq_true rfl) (Nat.le_of_ble_eq_true rfl) (Nat.le_of_ble_eq_true rfl) (Nat.le_of_ble_eq_true rfl) (fun r h1 hq => ?_)
      obtain ⟨rfl, rfl⟩ := hq
      rw [hv0, hv1, hts]
      by_cases hc : sp_cv c.2.2 (sp_val fc sv sp c.1) (sp_val fc sv sp c.2.1) = true
      · rw [hc, Bool.true_and]
        refine rr_if_ne 187 d_Ma_isTaken_182 (by decide) (fun _ => ?_) (fun c9 => absurd c9 (by decide))
        refine rr_iinc 1 d_Ma_isTaken_187 rfl rfl (by decide) ?_
        refine rr_goto 13 d_Ma_isTaken_190 (by decide) ?_
        rw [nI_1]
        exact rr_lvs _ rfl (ih (i + c.1.length + c.2.1.length + 1) fs3 d3 (by simp only [List.length_append]; omega) (fun r hr => hg r (List.mem_cons_of_mem _ hr)))
      · rw [(Bool.not_eq_true _).mp hc, Bool.false_and]
        refine rr_if_ne 187 d_Ma_isTaken_182 (by decide) (fun c9 => absurd (rfl) c9) (fun _ => ?_)
        refine rr_iconst 0 d_Ma_isTaken_185 rfl ?_
        exact rr_ireturn d_Ma_isTaken_186 rfl rfl (Nat.le_of_ble_eq_true rfl) (Nat.le_of_ble_eq_true rfl) (⟨_, _, _, _, _, rfl, rfl⟩)
    have g5b := g5
    rcases g5b with q | q | q | q
    · rw [q]
      refine rr_tin 171 145 d_Ma_isTaken_26 (by decide) (by decide) rfl (by decide) ?_
      exact rr_lvs _ rfl go
    · rw [q]
      refine rr_tin 171 145 d_Ma_isTaken_26 (by decide) (by decide) rfl (by decide) ?_
      exact rr_lvs _ rfl go
    · rw [q]
      refine rr_tin 171 145 d_Ma_isTaken_26 (by decide) (by decide) rfl (by decide) ?_
      exact rr_lvs _ rfl go
    · rw [q]
      refine rr_tin 171 145 d_Ma_isTaken_26 (by decide) (by decide) rfl (by decide) ?_
      exact rr_lvs _ rfl go

set_option maxRecDepth 100000 in
set_option maxHeartbeats 4000000 in
theorem s_Ma_isTaken {x0 x1 x2 x3 x4 x5 x6 x7 x8 x9 x10 x11 x17 x18 x19 : va_E} {g : rr_H} {cg ru s0 r0 hg ef sv sp : Int32} {fc fs ec ev ck cv : Nat → Int32} {b e : Nat} (u : sp_U) (hu : gu u) (he : e ≤ 160) (ha : at_c ck cv b (fl_u u)) (hb : b + (fl_u u).length = e) : rr_Spec 2 y_Ma_isTaken c_Ma_isTaken 7 (some .boolean) 0 0 [.ref 12, .ref 20, .int (nI b), .int (nI e), .int sv, .int sp] (x0 :: x1 :: x2 :: x3 :: x4 :: x5 :: x6 :: x7 :: x8 :: x9 :: x10 :: x11 :: .inr (1, [.ref 13, .ref 14, .int hg, .ref 15, .ref 16, .int ef, .ref 17, .ref 18, .int cg, .ref 19, .int ru]) :: .inl (0, 32, .inl (fc)) :: .inl (0, 80, .inl (fs)) :: .inl (0, 8, .inl (ec)) :: .inl (0, 8, .inl (ev)) :: x17 :: x18 :: x19 :: .inr (0, [.ref 21, .ref 22, .ref 23, .int s0, .int r0]) :: .inl (0, 160, .inl ck) :: .inl (0, 160, .inl cv) :: g) (fun r h1 => ∃ (n2 m2 : Int32) (fs2 ec2 ev2 : Nat → Int32), if sp_ts fc sv sp u.1 = true then (r = some (.int 1) ∧ h1 = x0 :: x1 :: x2 :: x3 :: x4 :: x5 :: x6 :: x7 :: x8 :: x9 :: x10 :: x11 :: .inr (1, [.ref 13, .ref 14, .int n2, .ref 15, .ref 16, .int (nI u.2.length), .ref 17, .ref 18, .int cg, .ref 19, .int ru]) :: .inl (0, 32, .inl (fc)) :: .inl (0, 80, .inl (fs2)) :: .inl (0, 8, .inl (sp_wr ec 0 (u.2.map fun q => q.1))) :: .inl (0, 8, .inl (sp_wr ev 0 (u.2.map fun q => sp_val fc sv sp q.2))) :: x17 :: x18 :: x19 :: .inr (0, [.ref 21, .ref 22, .ref 23, .int s0, .int r0]) :: .inl (0, 160, .inl ck) :: .inl (0, 160, .inl cv) :: g) else (r = some (.int 0) ∧ h1 = x0 :: x1 :: x2 :: x3 :: x4 :: x5 :: x6 :: x7 :: x8 :: x9 :: x10 :: x11 :: .inr (1, [.ref 13, .ref 14, .int n2, .ref 15, .ref 16, .int m2, .ref 17, .ref 18, .int cg, .ref 19, .int ru]) :: .inl (0, 32, .inl (fc)) :: .inl (0, 80, .inl (fs2)) :: .inl (0, 8, .inl (ec2)) :: .inl (0, 8, .inl (ev2)) :: x17 :: x18 :: x19 :: .inr (0, [.ref 21, .ref 22, .ref 23, .int s0, .int r0]) :: .inl (0, 160, .inl ck) :: .inl (0, 160, .inl cv) :: g)) := by
  refine rr_met (own := R_Ma) (kd := (false, none)) (by decide +kernel) rfl (fun h => by cases h) rfl (Nat.le_of_ble_eq_true rfl) ?_
  refine rr_aload_n d_Ma_isTaken_0 rfl rfl ?_
  refine rr_iconst 0 d_Ma_isTaken_1 rfl ?_
  refine rr_putf d_Ma_isTaken_2 fl_Ma_55 rfl rfl rfl rfl ?_
  refine rr_aload_n d_Ma_isTaken_5 rfl rfl ?_
  refine rr_iconst 0 d_Ma_isTaken_6 rfl ?_
  refine rr_putf d_Ma_isTaken_7 fl_Ma_58 rfl rfl rfl rfl ?_
  refine rr_iload_n d_Ma_isTaken_10 rfl rfl ?_
  refine rr_istore d_Ma_isTaken_11 (by decide) ?_
  exact rr_lvs _ rfl (l_tests he u.2 hu.2.1 hu.2.2 u.1 b fs ha hb hu.1)
