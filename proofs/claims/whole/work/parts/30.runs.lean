/-! Changes, runs, and back. -/
def ch_c : List (Nat × Int32) → (Nat → Int32) → (Nat → Int32)
  | [], f => f
  | q :: l, f => ch_c l (upd f q.1 q.2)
def ch_k : List (Nat × Int32) → (Nat → Int32) → Nat → (Nat → Int32)
  | [], cc, _ => cc
  | q :: l, cc, g => ch_k l (upd cc g (nI q.1)) (g + 1)
def ch_v : List (Nat × Int32) → (Nat → Int32) → (Nat → Int32) → Nat → (Nat → Int32)
  | [], _, cf, _ => cf
  | q :: l, f, cf, g => ch_v l (upd f q.1 q.2) (upd cf g (f q.1)) (g + 1)
def sp_eL (fc : Nat → Int32) (sv sp : Int32) (es : List sp_F) : List (Nat × Int32) := es.map (fun e => (e.1.toNatClampNeg, sp_val fc sv sp e.2))
def sp_pick (fc : Nat → Int32) (sv sp : Int32) : List sp_U → Nat → Option (Nat × List (Nat × Int32))
  | [], _ => none
  | u :: l, k => if sp_ts fc sv sp u.1 = true then some (k + 1, sp_eL fc sv sp u.2) else sp_pick fc sv sp l (k + 1)
/-- back: the last j changes from lo on are taken back -/
def rb (cc cf : Nat → Int32) (lo : Nat) : Nat → (Nat → Int32) → (Nat → Int32)
  | 0, f => f
  | j + 1, f => rb cc cf lo j (upd f (cc (lo + j)).toNatClampNeg (cf (lo + j)))

set_option maxRecDepth 100000 in
set_option maxHeartbeats 4000000 in
theorem s_Ma_change {x0 x1 x2 x3 x4 x5 x6 x7 x8 x9 x10 x11 x14 x15 x16 : va_E} {g0 : rr_H} {hg ef ru v : Int32} {fc cc cf : Nat → Int32} {g c : Nat} (hg0 : g < 1600) (hc : c < 32) : rr_Spec 1 y_Ma_change c_Ma_change 3 none 0 0 [.ref 12, .int (nI c), .int v] (x0 :: x1 :: x2 :: x3 :: x4 :: x5 :: x6 :: x7 :: x8 :: x9 :: x10 :: x11 :: .inr (1, [.ref 13, .ref 14, .int hg, .ref 15, .ref 16, .int ef, .ref 17, .ref 18, .int (nI g), .ref 19, .int ru]) :: .inl (0, 32, .inl (fc)) :: x14 :: x15 :: x16 :: .inl (0, 1600, .inl (cc)) :: .inl (0, 1600, .inl (cf)) :: g0) (fun r h1 => r = none ∧ h1 = x0 :: x1 :: x2 :: x3 :: x4 :: x5 :: x6 :: x7 :: x8 :: x9 :: x10 :: x11 :: .inr (1, [.ref 13, .ref 14, .int hg, .ref 15, .ref 16, .int ef, .ref 17, .ref 18, .int (nI (g + 1)), .ref 19, .int ru]) :: .inl (0, 32, .inl (upd fc c v)) :: x14 :: x15 :: x16 :: .inl (0, 1600, .inl (upd cc g (nI c))) :: .inl (0, 1600, .inl (upd cf g (fc c))) :: g0) := by
  refine rr_met (own := R_Ma) (kd := (false, none)) (by decide +kernel) rfl (fun h => by cases h) rfl (Nat.le_of_ble_eq_true rfl) ?_
  refine rr_aload_n d_Ma_change_0 rfl rfl ?_
  refine rr_getf d_Ma_change_1 fl_Ma_37 rfl rfl ?_
  refine rr_sipush 1600 d_Ma_change_4 rfl ?_
  refine rr_icmp_ge 59 d_Ma_change_7 (by decide) (fun c9 => absurd c9 (nI_ge (a := g) (b := 1600) hg0 (by decide))) (fun _ => ?_)
  refine rr_iload_n d_Ma_change_10 rfl rfl ?_
  refine rr_callS d_Ma_change_11 il_Ma_89 m_Ru_isCell (s_Ru_isCell) rfl rfl (Nat.le_of_ble_eq_true rfl) (Nat.le_of_ble_eq_true rfl) (Nat.le_of_ble_eq_true rfl) (Nat.le_of_ble_eq_true rfl) (Nat.le_of_ble_eq_true rfl) (fun r h1 hq => ?_)
  obtain ⟨rfl, rfl⟩ := hq
  rw [show decide (0 ≤ nI c ∧ nI c < 32) = true from decide_eq_true ⟨nI_pos' (by omega), nI_lt (b := 32) hc (by decide)⟩]
  refine rr_if_eq 59 d_Ma_change_14 (by decide) (fun c9 => absurd c9 (by decide)) (fun _ => ?_)
  refine rr_aload_n d_Ma_change_17 rfl rfl ?_
  refine rr_getf d_Ma_change_18 fl_Ma_24 rfl rfl ?_
  refine rr_aload_n d_Ma_change_21 rfl rfl ?_
  refine rr_getf d_Ma_change_22 fl_Ma_37 rfl rfl ?_
  refine rr_iload_n d_Ma_change_25 rfl rfl ?_
  refine rr_iast d_Ma_change_26 rfl (vp_in_nI hg0 (by decide)) ?_
  refine rr_aload_n d_Ma_change_27 rfl rfl ?_
  refine rr_getf d_Ma_change_28 fl_Ma_27 rfl rfl ?_
  refine rr_aload_n d_Ma_change_31 rfl rfl ?_
  refine rr_getf d_Ma_change_32 fl_Ma_37 rfl rfl ?_
  refine rr_aload_n d_Ma_change_35 rfl rfl ?_
  refine rr_getf d_Ma_change_36 fl_Ma_9 rfl rfl ?_
  refine rr_iload_n d_Ma_change_39 rfl rfl ?_
  refine rr_iald d_Ma_change_40 rfl (vp_in_nI hc (by decide)) ?_
  refine rr_iast d_Ma_change_41 rfl (vp_in_nI hg0 (by decide)) ?_
  refine rr_aload_n d_Ma_change_42 rfl rfl ?_
  refine rr_dup d_Ma_change_43 rfl ?_
  refine rr_getf d_Ma_change_44 fl_Ma_37 rfl rfl ?_
  refine rr_iconst 1 d_Ma_change_47 rfl ?_
  refine rr_iadd d_Ma_change_48 ?_
  refine rr_putf d_Ma_change_49 fl_Ma_37 rfl rfl rfl rfl ?_
  refine rr_aload_n d_Ma_change_52 rfl rfl ?_
  refine rr_getf d_Ma_change_53 fl_Ma_9 rfl rfl ?_
  refine rr_iload_n d_Ma_change_56 rfl rfl ?_
  refine rr_iload_n d_Ma_change_57 rfl rfl ?_
  refine rr_iast d_Ma_change_58 rfl (vp_in_nI hc (by decide)) ?_
  rw [nI_1, nI_clamp (n := g) (by omega), nI_clamp (n := c) (by omega)]
  exact rr_return d_Ma_change_59 rfl (Nat.le_of_ble_eq_true rfl) (Nat.le_of_ble_eq_true rfl) (⟨rfl, rfl⟩)

set_option maxRecDepth 100000 in
set_option maxHeartbeats 4000000 in
theorem l_Ma_applyEffects {x0 x1 x2 x3 x4 x5 x6 x7 x8 x9 x10 x11 x14 : va_E} {g0 : rr_H} {hg ru : Int32} {ec ev : Nat → Int32} : ∀ (L : List (Nat × Int32)) (i g : Nat) (fc cc cf : Nat → Int32), (∀ (k : Nat) (q : Nat × Int32), L[k]? = some q → ec (i + k) = nI q.1 ∧ ev (i + k) = q.2 ∧ q.1 < 32) → i + L.length ≤ 8 → g + L.length ≤ 1600 → rr_A R_Ma c_Ma_applyEffects 2 none (false, none) { frames := 2, cells := 0, slots := 0, locals := 2 * 64 } (fun r h1 => r = none ∧ h1 = x0 :: x1 :: x2 :: x3 :: x4 :: x5 :: x6 :: x7 :: x8 :: x9 :: x10 :: x11 :: .inr (1, [.ref 13, .ref 14, .int hg, .ref 15, .ref 16, .int (nI (i + L.length)), .ref 17, .ref 18, .int (nI (g + L.length)), .ref 19, .int ru]) :: .inl (0, 32, .inl (ch_c L fc)) :: x14 :: .inl (0, 8, .inl (ec)) :: .inl (0, 8, .inl (ev)) :: .inl (0, 1600, .inl (ch_k L cc g)) :: .inl (0, 1600, .inl (ch_v L fc cf g)) :: g0) 0 0 2 [(1, .int (nI i)), (0, .ref 12)] [] (x0 :: x1 :: x2 :: x3 :: x4 :: x5 :: x6 :: x7 :: x8 :: x9 :: x10 :: x11 :: .inr (1, [.ref 13, .ref 14, .int hg, .ref 15, .ref 16, .int (nI (i + L.length)), .ref 17, .ref 18, .int (nI g), .ref 19, .int ru]) :: .inl (0, 32, .inl (fc)) :: x14 :: .inl (0, 8, .inl (ec)) :: .inl (0, 8, .inl (ev)) :: .inl (0, 1600, .inl (cc)) :: .inl (0, 1600, .inl (cf)) :: g0) := by
  intro L
  induction L with
  | nil =>
    intro i g fc cc cf hL hi hg
    refine rr_iload_n d_Ma_applyEffects_2 rfl rfl ?_
    refine rr_aload_n d_Ma_applyEffects_3 rfl rfl ?_
    refine rr_getf d_Ma_applyEffects_4 fl_Ma_58 rfl rfl ?_
    refine rr_icmp_ge 32 d_Ma_applyEffects_7 (by decide) (fun _ => ?_) (fun c9 => absurd (nI_le (by simp) (by simp; omega)) c9)
    exact rr_return d_Ma_applyEffects_32 rfl (Nat.le_of_ble_eq_true rfl) (Nat.le_of_ble_eq_true rfl) (⟨rfl, rfl⟩)
  | cons q L ih =>
    intro i g fc cc cf hL hi hg
    have hlen : (q :: L).length = L.length + 1 := rfl
    rw [hlen] at hi hg
    obtain ⟨h1, h2, h3⟩ := hL 0 q rfl
    rw [Nat.add_zero] at h1 h2
    have hiv : vp_in (nI i) 8 := vp_in_nI (by omega) (by decide)
    refine rr_iload_n d_Ma_applyEffects_2 rfl rfl ?_
    refine rr_aload_n d_Ma_applyEffects_3 rfl rfl ?_
    refine rr_getf d_Ma_applyEffects_4 fl_Ma_58 rfl rfl ?_
    refine rr_icmp_ge 32 d_Ma_applyEffects_7 (by decide) (fun c9 => absurd c9 (nI_ge (a := i) (by rw [hlen]; omega) (by rw [hlen]; omega))) (fun _ => ?_)
    refine rr_aload_n d_Ma_applyEffects_10 rfl rfl ?_
    refine rr_aload_n d_Ma_applyEffects_11 rfl rfl ?_
    refine rr_getf d_Ma_applyEffects_12 fl_Ma_18 rfl rfl ?_
    refine rr_iload_n d_Ma_applyEffects_15 rfl rfl ?_
    refine rr_iald d_Ma_applyEffects_16 rfl (hiv) ?_
    refine rr_aload_n d_Ma_applyEffects_17 rfl rfl ?_
    refine rr_getf d_Ma_applyEffects_18 fl_Ma_21 rfl rfl ?_
    refine rr_iload_n d_Ma_applyEffects_21 rfl rfl ?_
    refine rr_iald d_Ma_applyEffects_22 rfl (hiv) ?_
    rw [nI_clamp (by omega), h1, h2]
    refine rr_callV d_Ma_applyEffects_23 il_Ma_86 m_Ma_change (s_Ma_change (g := g) (c := q.1) (by omega) h3) rfl rfl rfl rfl (Nat.le_of_ble_eq_true rfl) (Nat.le_of_ble_eq_true rfl) (Nat.le_of_ble_eq_true rfl) (Nat.le_of_ble_eq_true rfl) (Nat.le_of_ble_eq_true rfl) (fun r h1 hq => ?_)
    obtain ⟨rfl, rfl⟩ := hq
    refine rr_iinc 1 d_Ma_applyEffects_26 rfl rfl (by decide) ?_
    refine rr_goto 2 d_Ma_applyEffects_29 (by decide) ?_
    rw [nI_1, hlen, show i + (L.length + 1) = i + 1 + L.length by omega, show g + (L.length + 1) = g + 1 + L.length by omega]
    exact rr_lvs _ rfl (ih (i + 1) (g + 1) _ _ _ (fun k r hr => by
      have := hL (k + 1) r (by rw [List.getElem?_cons_succ]; exact hr)
      rwa [show i + (k + 1) = i + 1 + k by omega] at this) (by omega) (by omega))

set_option maxRecDepth 100000 in
set_option maxHeartbeats 4000000 in
theorem s_Ma_applyEffects {x0 x1 x2 x3 x4 x5 x6 x7 x8 x9 x10 x11 x14 : va_E} {g0 : rr_H} {hg ru : Int32} {fc cc cf ec ev : Nat → Int32} {g : Nat} (L : List (Nat × Int32)) (hL : ∀ (k : Nat) (q : Nat × Int32), L[k]? = some q → ec k = nI q.1 ∧ ev k = q.2 ∧ q.1 < 32) (h8 : L.length ≤ 8) (hg2 : g + L.length ≤ 1600) : rr_Spec 2 y_Ma_applyEffects c_Ma_applyEffects 2 none 0 0 [.ref 12] (x0 :: x1 :: x2 :: x3 :: x4 :: x5 :: x6 :: x7 :: x8 :: x9 :: x10 :: x11 :: .inr (1, [.ref 13, .ref 14, .int hg, .ref 15, .ref 16, .int (nI L.length), .ref 17, .ref 18, .int (nI g), .ref 19, .int ru]) :: .inl (0, 32, .inl (fc)) :: x14 :: .inl (0, 8, .inl (ec)) :: .inl (0, 8, .inl (ev)) :: .inl (0, 1600, .inl (cc)) :: .inl (0, 1600, .inl (cf)) :: g0) (fun r h1 => r = none ∧ h1 = x0 :: x1 :: x2 :: x3 :: x4 :: x5 :: x6 :: x7 :: x8 :: x9 :: x10 :: x11 :: .inr (1, [.ref 13, .ref 14, .int hg, .ref 15, .ref 16, .int (nI L.length), .ref 17, .ref 18, .int (nI (g + L.length)), .ref 19, .int ru]) :: .inl (0, 32, .inl (ch_c L fc)) :: x14 :: .inl (0, 8, .inl (ec)) :: .inl (0, 8, .inl (ev)) :: .inl (0, 1600, .inl (ch_k L cc g)) :: .inl (0, 1600, .inl (ch_v L fc cf g)) :: g0) := by
  refine rr_met (own := R_Ma) (kd := (false, none)) (by decide +kernel) rfl (fun h => by cases h) rfl (Nat.le_of_ble_eq_true rfl) ?_
  refine rr_iconst 0 d_Ma_applyEffects_0 rfl ?_
  refine rr_istore_n d_Ma_applyEffects_1 rfl (by decide) ?_
  have nx := l_Ma_applyEffects (x0 := x0) (x1 := x1) (x2 := x2) (x3 := x3) (x4 := x4) (x5 := x5) (x6 := x6) (x7 := x7) (x8 := x8) (x9 := x9) (x10 := x10) (x11 := x11) (x14 := x14) (g0 := g0) (hg := hg) (ru := ru) (ec := ec) (ev := ev) L 0 g fc cc cf (fun k q hq => by rw [Nat.zero_add]; exact hL k q hq) (by omega) hg2
  rw [Nat.zero_add] at nx
  exact rr_lvs _ rfl nx

theorem sp_eL_get {fc : Nat → Int32} {sv sp : Int32} {ec ev : Nat → Int32} {es : List sp_F} (hg : ∀ e ∈ es, gf e) : ∀ (k : Nat) (q : Nat × Int32), (sp_eL fc sv sp es)[k]? = some q → sp_wr ec 0 (es.map fun q => q.1) k = nI q.1 ∧ sp_wr ev 0 (es.map fun q => sp_val fc sv sp q.2) k = q.2 ∧ q.1 < 32 := by
  intro k q hq
  unfold sp_eL at hq
  rw [List.getElem?_map] at hq
  cases he : es[k]? with
  | none => rw [he] at hq; cases hq
  | some e =>
    rw [he] at hq
    cases hq
    obtain ⟨-, -, c, hc, h3⟩ := hg e (List.mem_of_getElem? he)
    have h1 := sp_wr_get (es.map fun q => q.1) ec 0 k e.1 (by rw [List.getElem?_map, he]; rfl)
    have h2 := sp_wr_get (es.map fun q => sp_val fc sv sp q.2) ev 0 k (sp_val fc sv sp e.2) (by rw [List.getElem?_map, he]; rfl)
    rw [Nat.zero_add] at h1 h2
    refine ⟨?_, h2, ?_⟩
    · rw [h1]
      show e.1 = nI e.1.toNatClampNeg
      rw [h3, nI_clamp (by omega)]
    · show e.1.toNatClampNeg < 32
      rw [h3, nI_clamp (by omega)]
      exact hc

set_option maxRecDepth 100000 in
set_option maxHeartbeats 4000000 in
theorem l_Ma_perform {x0 x1 x2 x3 x4 x5 x6 x7 x8 x9 x10 x11 : va_E} {g0 : rr_H} {r g : Nat} {s0 sv sp : Int32} {fc cc cf cb ck cv re : Nat → Int32} {us : List sp_U} (hco : co_is us ck cv re) (hgu : ∀ u ∈ us, gu u) (hg2 : g + 8 ≤ 1600) : ∀ (rs dn : List sp_U) (hg ef : Int32) (fs ec ev : Nat → Int32), us = dn ++ rs → rr_A R_Ma c_Ma_perform 6 (some .int) (false, none) { frames := 3, cells := 0, slots := 0, locals := 3 * 64 } (fun rv h1 => ∃ (hg2 ef2 : Int32) (fs2 ec2 ev2 : Nat → Int32), (sp_pick fc sv sp rs dn.length = none ∧ rv = some (.int 0) ∧ h1 = x0 :: x1 :: x2 :: x3 :: x4 :: x5 :: x6 :: x7 :: x8 :: x9 :: x10 :: x11 :: .inr (1, [.ref 13, .ref 14, .int hg2, .ref 15, .ref 16, .int ef2, .ref 17, .ref 18, .int (nI g), .ref 19, .int (nI r)]) :: .inl (0, 32, .inl (fc)) :: .inl (0, 80, .inl (fs2)) :: .inl (0, 8, .inl (ec2)) :: .inl (0, 8, .inl (ev2)) :: .inl (0, 1600, .inl (cc)) :: .inl (0, 1600, .inl (cf)) :: .inl (0, 200, .inl (cb)) :: .inr (0, [.ref 21, .ref 22, .ref 23, .int s0, .int (nI us.length)]) :: .inl (0, 160, .inl ck) :: .inl (0, 160, .inl cv) :: .inl (0, 6, .inl re) :: g0) ∨ ∃ (k2 : Nat) (L2 : List (Nat × Int32)), sp_pick fc sv sp rs dn.length = some (k2, L2) ∧ rv = some (.int (nI k2)) ∧ h1 = x0 :: x1 :: x2 :: x3 :: x4 :: x5 :: x6 :: x7 :: x8 :: x9 :: x10 :: x11 :: .inr (1, [.ref 13, .ref 14, .int hg2, .ref 15, .ref 16, .int ef2, .ref 17, .ref 18, .int (nI (g + L2.length)), .ref 19, .int (nI r)]) :: .inl (0, 32, .inl (ch_c L2 fc)) :: .inl (0, 80, .inl (fs2)) :: .inl (0, 8, .inl (ec2)) :: .inl (0, 8, .inl (ev2)) :: .inl (0, 1600, .inl (ch_k L2 cc g)) :: .inl (0, 1600, .inl (ch_v L2 fc cf g)) :: .inl (0, 200, .inl (cb)) :: .inr (0, [.ref 21, .ref 22, .ref 23, .int s0, .int (nI us.length)]) :: .inl (0, 160, .inl ck) :: .inl (0, 160, .inl cv) :: .inl (0, 6, .inl re) :: g0) 0 0 42 [(5, .int (nI dn.length)), (4, .int (nI (dn.flatMap fl_u).length)), (0, .ref 12), (1, .ref 20), (2, .int sv), (3, .int sp)] [] (x0 :: x1 :: x2 :: x3 :: x4 :: x5 :: x6 :: x7 :: x8 :: x9 :: x10 :: x11 :: .inr (1, [.ref 13, .ref 14, .int hg, .ref 15, .ref 16, .int ef, .ref 17, .ref 18, .int (nI g), .ref 19, .int (nI r)]) :: .inl (0, 32, .inl (fc)) :: .inl (0, 80, .inl (fs)) :: .inl (0, 8, .inl (ec)) :: .inl (0, 8, .inl (ev)) :: .inl (0, 1600, .inl (cc)) :: .inl (0, 1600, .inl (cf)) :: .inl (0, 200, .inl (cb)) :: .inr (0, [.ref 21, .ref 22, .ref 23, .int s0, .int (nI us.length)]) :: .inl (0, 160, .inl ck) :: .inl (0, 160, .inl cv) :: .inl (0, 6, .inl re) :: g0) := by
  obtain ⟨h6, h160, hck, hre⟩ := hco
  intro rs
  induction rs with
  | nil =>
    intro dn hg ef fs ec ev hus
    rw [List.append_nil] at hus
    subst hus
    refine rr_iload d_Ma_perform_42 rfl ?_
    refine rr_aload_n d_Ma_perform_44 rfl rfl ?_
    refine rr_getf d_Ma_perform_45 fl_Ma_40 rfl rfl ?_
    refine rr_icmp_ge 94 d_Ma_perform_48 (by decide) (fun _ => ?_) (fun c9 => absurd (nI_le (Nat.le_refl _) (by omega)) c9)
    refine rr_iconst 0 d_Ma_perform_94 rfl ?_
    exact rr_ireturn d_Ma_perform_95 rfl rfl (Nat.le_of_ble_eq_true rfl) (Nat.le_of_ble_eq_true rfl) (⟨_, _, _, _, _, Or.inl ⟨rfl, rfl, rfl⟩⟩)
  | cons u rs ih =>
    intro dn hg ef fs ec ev hus
    have hul : us.length = dn.length + (rs.length + 1) := by rw [hus, List.length_append]; rfl
    have hfl : us.flatMap fl_u = dn.flatMap fl_u ++ (fl_u u ++ rs.flatMap fl_u) := by rw [hus, List.flatMap_append, List.flatMap_cons]
    have hre1 : re dn.length = nI ((dn.flatMap fl_u).length + (fl_u u).length) := by
      rw [hre dn.length (by omega), hus, List.take_append, List.take_of_length_le (by omega), show dn.length + 1 - dn.length = 1 by omega]
      simp [List.flatMap_append]
    have hal : at_c ck cv 0 (us.flatMap fl_u) := fun k q hq => by rw [Nat.zero_add]; exact hck k q hq
    rw [hfl] at hal
    obtain ⟨-, a2⟩ := at_c_app hal
    obtain ⟨a3, -⟩ := at_c_app a2
    rw [Nat.zero_add] at a3
    have hlen : (dn.flatMap fl_u).length + (fl_u u).length ≤ 160 := by
      rw [hfl] at h160
      simp only [List.length_append] at h160
      omega
    have hguu := hgu u (by rw [hus]; simp)
    have hiv : vp_in (nI dn.length) 6 := vp_in_nI (by omega) (by decide)
    refine rr_iload d_Ma_perform_42 rfl ?_
    refine rr_aload_n d_Ma_perform_44 rfl rfl ?_
    refine rr_getf d_Ma_perform_45 fl_Ma_40 rfl rfl ?_
    refine rr_icmp_ge 94 d_Ma_perform_48 (by decide) (fun c9 => absurd c9 (nI_ge (by omega) (by omega))) (fun _ => ?_)
    refine rr_aload_n d_Ma_perform_51 rfl rfl ?_
    refine rr_aload_n d_Ma_perform_52 rfl rfl ?_
    refine rr_iload d_Ma_perform_53 rfl ?_
    refine rr_aload_n d_Ma_perform_55 rfl rfl ?_
    refine rr_getf d_Ma_perform_56 fl_Ma_45 rfl rfl ?_
    refine rr_iload d_Ma_perform_59 rfl ?_
    refine rr_iald d_Ma_perform_61 rfl (hiv) ?_
    refine rr_iload_n d_Ma_perform_62 rfl rfl ?_
    refine rr_iload_n d_Ma_perform_63 rfl rfl ?_
    rw [nI_clamp (by omega), hre1]
    refine rr_callV d_Ma_perform_64 il_Ma_48 m_Ma_isTaken (s_Ma_isTaken u hguu hlen a3 rfl) rfl rfl rfl rfl (Nat.le_of_ble_eq_true rfl) (Nat.le_of_ble_eq_true rfl) (Nat.le_of_ble_eq_true rfl) (Nat.le_of_ble_eq_true rfl) (Nat.le_of_ble_eq_true rfl) (fun r h1 hq => ?_)
    obtain ⟨n2, m2, fs2, ec2, ev2, hq⟩ := hq
    unfold sp_pick
    by_cases hc : sp_ts fc sv sp u.1 = true
    · rw [if_pos hc] at hq
      obtain ⟨rfl, rfl⟩ := hq
      simp only [if_pos hc]
      refine rr_if_eq 79 d_Ma_perform_67 (by decide) (fun c9 => absurd c9 (by decide)) (fun _ => ?_)
      refine rr_aload_n d_Ma_perform_70 rfl rfl ?_
      rw [show nI u.2.length = nI (sp_eL fc sv sp u.2).length by unfold sp_eL; rw [List.length_map]]
      have hl8 : (sp_eL fc sv sp u.2).length ≤ 8 := by unfold sp_eL; rw [List.length_map]; exact hguu.2.2
      refine rr_callV d_Ma_perform_71 il_Ma_52 m_Ma_applyEffects (s_Ma_applyEffects (g := g) (sp_eL fc sv sp u.2) (sp_eL_get hguu.2.1) hl8 (by omega)) rfl rfl rfl rfl (Nat.le_of_ble_eq_true rfl) (Nat.le_of_ble_eq_true rfl) (Nat.le_of_ble_eq_true rfl) (Nat.le_of_ble_eq_true rfl) (Nat.le_of_ble_eq_true rfl) (fun r h1 hq => ?_)
      obtain ⟨rfl, rfl⟩ := hq
      refine rr_iload d_Ma_perform_74 rfl ?_
      refine rr_iconst 1 d_Ma_perform_76 rfl ?_
      refine rr_iadd d_Ma_perform_77 ?_
      rw [nI_1]
      exact rr_ireturn d_Ma_perform_78 rfl rfl (Nat.le_of_ble_eq_true rfl) (Nat.le_of_ble_eq_true rfl) (⟨_, _, _, _, _, Or.inr ⟨_, _, rfl, rfl, rfl⟩⟩)
    · rw [if_neg hc] at hq
      obtain ⟨rfl, rfl⟩ := hq
      simp only [if_neg hc]
      refine rr_if_eq 79 d_Ma_perform_67 (by decide) (fun _ => ?_) (fun c9 => absurd (rfl) c9)
      refine rr_aload_n d_Ma_perform_79 rfl rfl ?_
      refine rr_getf d_Ma_perform_80 fl_Ma_45 rfl rfl ?_
      refine rr_iload d_Ma_perform_83 rfl ?_
      refine rr_iald d_Ma_perform_85 rfl (hiv) ?_
      refine rr_istore d_Ma_perform_86 (by decide) ?_
      refine rr_iinc 1 d_Ma_perform_88 rfl rfl (by decide) ?_
      refine rr_goto 42 d_Ma_perform_91 (by decide) ?_
      rw [nI_clamp (by omega), hre1, nI_1]
      have nx := ih (dn ++ [u]) n2 m2 fs2 ec2 ev2 (by rw [hus]; simp)
      rw [show (dn ++ [u]).length = dn.length + 1 by simp, show ((dn ++ [u]).flatMap fl_u).length = (dn.flatMap fl_u).length + (fl_u u).length by simp [List.flatMap_append]] at nx
      exact rr_lvs _ rfl nx

set_option maxRecDepth 100000 in
set_option maxHeartbeats 4000000 in
theorem s_Ma_perform {x0 x1 x2 x3 x4 x5 x6 x7 x8 x9 x10 x11 : va_E} {g0 : rr_H} {r g : Nat} {s0 sv sp : Int32} {fc cc cf cb ck cv re : Nat → Int32} {us : List sp_U} {hg ef : Int32} {fs ec ev : Nat → Int32} (hco : co_is us ck cv re) (hgu : ∀ u ∈ us, gu u) (hr : r ≤ 200) (hg2 : r < 200 → g + 8 ≤ 1600) : rr_Spec 3 y_Ma_perform c_Ma_perform 6 (some .int) 0 0 [.ref 12, .ref 20, .int sv, .int sp] (x0 :: x1 :: x2 :: x3 :: x4 :: x5 :: x6 :: x7 :: x8 :: x9 :: x10 :: x11 :: .inr (1, [.ref 13, .ref 14, .int hg, .ref 15, .ref 16, .int ef, .ref 17, .ref 18, .int (nI g), .ref 19, .int (nI r)]) :: .inl (0, 32, .inl (fc)) :: .inl (0, 80, .inl (fs)) :: .inl (0, 8, .inl (ec)) :: .inl (0, 8, .inl (ev)) :: .inl (0, 1600, .inl (cc)) :: .inl (0, 1600, .inl (cf)) :: .inl (0, 200, .inl (cb)) :: .inr (0, [.ref 21, .ref 22, .ref 23, .int s0, .int (nI us.length)]) :: .inl (0, 160, .inl ck) :: .inl (0, 160, .inl cv) :: .inl (0, 6, .inl re) :: g0) (fun rv h1 => if r < 200 then (fun rv h1 => ∃ (hg2 ef2 : Int32) (fs2 ec2 ev2 : Nat → Int32), (sp_pick fc sv sp us 0 = none ∧ rv = some (.int 0) ∧ h1 = x0 :: x1 :: x2 :: x3 :: x4 :: x5 :: x6 :: x7 :: x8 :: x9 :: x10 :: x11 :: .inr (1, [.ref 13, .ref 14, .int hg2, .ref 15, .ref 16, .int ef2, .ref 17, .ref 18, .int (nI g), .ref 19, .int (nI (r + 1))]) :: .inl (0, 32, .inl (fc)) :: .inl (0, 80, .inl (fs2)) :: .inl (0, 8, .inl (ec2)) :: .inl (0, 8, .inl (ev2)) :: .inl (0, 1600, .inl (cc)) :: .inl (0, 1600, .inl (cf)) :: .inl (0, 200, .inl ((upd cb r (nI g)))) :: .inr (0, [.ref 21, .ref 22, .ref 23, .int s0, .int (nI us.length)]) :: .inl (0, 160, .inl ck) :: .inl (0, 160, .inl cv) :: .inl (0, 6, .inl re) :: g0) ∨ ∃ (k2 : Nat) (L2 : List (Nat × Int32)), sp_pick fc sv sp us 0 = some (k2, L2) ∧ rv = some (.int (nI k2)) ∧ h1 = x0 :: x1 :: x2 :: x3 :: x4 :: x5 :: x6 :: x7 :: x8 :: x9 :: x10 :: x11 :: .inr (1, [.ref 13, .ref 14, .int hg2, .ref 15, .ref 16, .int ef2, .ref 17, .ref 18, .int (nI (g + L2.length)), .ref 19, .int (nI (r + 1))]) :: .inl (0, 32, .inl (ch_c L2 fc)) :: .inl (0, 80, .inl (fs2)) :: .inl (0, 8, .inl (ec2)) :: .inl (0, 8, .inl (ev2)) :: .inl (0, 1600, .inl (ch_k L2 cc g)) :: .inl (0, 1600, .inl (ch_v L2 fc cf g)) :: .inl (0, 200, .inl ((upd cb r (nI g)))) :: .inr (0, [.ref 21, .ref 22, .ref 23, .int s0, .int (nI us.length)]) :: .inl (0, 160, .inl ck) :: .inl (0, 160, .inl cv) :: .inl (0, 6, .inl re) :: g0) rv h1 else rv = some (.int (-3)) ∧ h1 = x0 :: x1 :: x2 :: x3 :: x4 :: x5 :: x6 :: x7 :: x8 :: x9 :: x10 :: x11 :: .inr (1, [.ref 13, .ref 14, .int hg, .ref 15, .ref 16, .int ef, .ref 17, .ref 18, .int (nI g), .ref 19, .int (nI r)]) :: .inl (0, 32, .inl (fc)) :: .inl (0, 80, .inl (fs)) :: .inl (0, 8, .inl (ec)) :: .inl (0, 8, .inl (ev)) :: .inl (0, 1600, .inl (cc)) :: .inl (0, 1600, .inl (cf)) :: .inl (0, 200, .inl (cb)) :: .inr (0, [.ref 21, .ref 22, .ref 23, .int s0, .int (nI us.length)]) :: .inl (0, 160, .inl ck) :: .inl (0, 160, .inl cv) :: .inl (0, 6, .inl re) :: g0) := by
  refine rr_met (own := R_Ma) (kd := (false, none)) (by decide +kernel) rfl (fun h => by cases h) rfl (Nat.le_of_ble_eq_true rfl) ?_
  refine rr_aload_n d_Ma_perform_0 rfl rfl ?_
  refine rr_getf d_Ma_perform_1 fl_Ma_33 rfl rfl ?_
  refine rr_sipush 200 d_Ma_perform_4 rfl ?_
  by_cases hr2 : r < 200
  · simp only [if_pos hr2]
    refine rr_icmp_lt 13 d_Ma_perform_7 (by decide) (fun _ => ?_) (fun c9 => absurd (nI_lt (b := 200) hr2 (by decide)) c9)
    refine rr_aload_n d_Ma_perform_13 rfl rfl ?_
    refine rr_getf d_Ma_perform_14 fl_Ma_30 rfl rfl ?_
    refine rr_aload_n d_Ma_perform_17 rfl rfl ?_
    refine rr_getf d_Ma_perform_18 fl_Ma_33 rfl rfl ?_
    refine rr_aload_n d_Ma_perform_21 rfl rfl ?_
    refine rr_getf d_Ma_perform_22 fl_Ma_37 rfl rfl ?_
    refine rr_iast d_Ma_perform_25 rfl (vp_in_nI hr2 (by decide)) ?_
    refine rr_aload_n d_Ma_perform_26 rfl rfl ?_
    refine rr_dup d_Ma_perform_27 rfl ?_
    refine rr_getf d_Ma_perform_28 fl_Ma_33 rfl rfl ?_
    refine rr_iconst 1 d_Ma_perform_31 rfl ?_
    refine rr_iadd d_Ma_perform_32 ?_
    refine rr_putf d_Ma_perform_33 fl_Ma_33 rfl rfl rfl rfl ?_
    refine rr_iconst 0 d_Ma_perform_36 rfl ?_
    refine rr_istore d_Ma_perform_37 (by decide) ?_
    refine rr_iconst 0 d_Ma_perform_39 rfl ?_
    refine rr_istore d_Ma_perform_40 (by decide) ?_
    rw [nI_1, nI_clamp (by omega)]
    exact rr_lvs _ rfl (l_Ma_perform (r := r + 1) hco hgu (hg2 hr2) us [] hg ef fs ec ev rfl)
  · simp only [if_neg hr2]
    refine rr_icmp_lt 13 d_Ma_perform_7 (by decide) (fun c9 => absurd c9 (nI_nlt (a := r) (b := 200) (by omega) (by omega))) (fun _ => ?_)
    refine rr_bipush (-3) d_Ma_perform_10 rfl ?_
    exact rr_ireturn d_Ma_perform_12 rfl rfl (Nat.le_of_ble_eq_true rfl) (Nat.le_of_ble_eq_true rfl) (⟨rfl, rfl⟩)

theorem tb_lt {lo : Nat} (h : lo < 2 ^ 30) : nI lo - 1 < nI lo := by
  have e1 : (nI lo - 1 : Int32).toInt = (lo : Int) - 1 := pk_sub_toInt (b := 1) h (by decide)
  have e2 := nI_toInt (n := lo) (by omega)
  rw [Int32.lt_iff_toInt_lt]
  omega
theorem tb_m1 (x : Int32) : x + -1 = x - 1 := by rw [Int32.sub_eq_add_neg]

set_option maxRecDepth 100000 in
set_option maxHeartbeats 4000000 in
theorem l_Ma_takeBack {x0 x1 x2 x3 x4 x5 x6 x7 x8 x9 x10 x11 x14 x15 x16 : va_E} {g0 : rr_H} {r g lo : Nat} {hg ef : Int32} {cc cf cb : Nat → Int32} (hr : r < 200) : ∀ (j : Nat) (fc : Nat → Int32), (∀ i, i < lo + j → ∃ c : Nat, c < 32 ∧ cc i = nI c) → lo + j ≤ 1600 → rr_A R_Ma c_Ma_takeBack 3 (some .int) (false, none) { frames := 0, cells := 0, slots := 0, locals := 0 * 64 } (fun rv h1 => rv = some (.int (nI r)) ∧ h1 = x0 :: x1 :: x2 :: x3 :: x4 :: x5 :: x6 :: x7 :: x8 :: x9 :: x10 :: x11 :: .inr (1, [.ref 13, .ref 14, .int hg, .ref 15, .ref 16, .int ef, .ref 17, .ref 18, .int (nI lo), .ref 19, .int (nI r)]) :: .inl (0, 32, .inl (rb cc cf lo j fc)) :: x14 :: x15 :: x16 :: .inl (0, 1600, .inl (cc)) :: .inl (0, 1600, .inl (cf)) :: .inl (0, 200, .inl (cb)) :: g0) 0 0 37 [(2, .int (nI (lo + j) - 1)), (1, .int (nI lo)), (0, .ref 12)] [] (x0 :: x1 :: x2 :: x3 :: x4 :: x5 :: x6 :: x7 :: x8 :: x9 :: x10 :: x11 :: .inr (1, [.ref 13, .ref 14, .int hg, .ref 15, .ref 16, .int ef, .ref 17, .ref 18, .int (nI g), .ref 19, .int (nI r)]) :: .inl (0, 32, .inl (fc)) :: x14 :: x15 :: x16 :: .inl (0, 1600, .inl (cc)) :: .inl (0, 1600, .inl (cf)) :: .inl (0, 200, .inl (cb)) :: g0) := by
  intro j
  induction j with
  | zero =>
    intro fc hc hj
    refine rr_iload_n d_Ma_takeBack_37 rfl rfl ?_
    refine rr_iload_n d_Ma_takeBack_38 rfl rfl ?_
    refine rr_icmp_lt 65 d_Ma_takeBack_39 (by decide) (fun _ => ?_) (fun c9 => absurd (tb_lt (by omega)) c9)
    refine rr_aload_n d_Ma_takeBack_65 rfl rfl ?_
    refine rr_iload_n d_Ma_takeBack_66 rfl rfl ?_
    refine rr_putf d_Ma_takeBack_67 fl_Ma_37 rfl rfl rfl rfl ?_
    refine rr_aload_n d_Ma_takeBack_70 rfl rfl ?_
    refine rr_getf d_Ma_takeBack_71 fl_Ma_33 rfl rfl ?_
    exact rr_ireturn d_Ma_takeBack_74 rfl rfl (Nat.le_of_ble_eq_true rfl) (Nat.le_of_ble_eq_true rfl) (⟨rfl, rfl⟩)
  | succ j ih =>
    intro fc hc hj
    obtain ⟨c, hc1, hc2⟩ := hc (lo + j) (by omega)
    rw [show lo + (j + 1) = (lo + j) + 1 by omega, nI_pred]
    have hiv : vp_in (nI (lo + j)) 1600 := vp_in_nI (by omega) (by decide)
    refine rr_iload_n d_Ma_takeBack_37 rfl rfl ?_
    refine rr_iload_n d_Ma_takeBack_38 rfl rfl ?_
    refine rr_icmp_lt 65 d_Ma_takeBack_39 (by decide) (fun c9 => absurd c9 (nI_nlt (by omega) (by omega))) (fun _ => ?_)
    refine rr_aload_n d_Ma_takeBack_42 rfl rfl ?_
    refine rr_getf d_Ma_takeBack_43 fl_Ma_9 rfl rfl ?_
    refine rr_aload_n d_Ma_takeBack_46 rfl rfl ?_
    refine rr_getf d_Ma_takeBack_47 fl_Ma_24 rfl rfl ?_
    refine rr_iload_n d_Ma_takeBack_50 rfl rfl ?_
    refine rr_iald d_Ma_takeBack_51 rfl (hiv) ?_
    refine rr_aload_n d_Ma_takeBack_52 rfl rfl ?_
    refine rr_getf d_Ma_takeBack_53 fl_Ma_27 rfl rfl ?_
    refine rr_iload_n d_Ma_takeBack_56 rfl rfl ?_
    refine rr_iald d_Ma_takeBack_57 rfl (hiv) ?_
    refine rr_iast d_Ma_takeBack_58 rfl (show vp_in (cc (nI (lo + j)).toNatClampNeg) 32 by rw [nI_clamp (by omega), hc2]; exact vp_in_nI hc1 (by decide)) ?_
    refine rr_iinc (-1) d_Ma_takeBack_59 rfl rfl (by decide) ?_
    refine rr_goto 37 d_Ma_takeBack_62 (by decide) ?_
    rw [nI_clamp (n := lo + j) (by omega), tb_m1]
    exact rr_lvs _ rfl (ih _ (fun i hi => hc i (by omega)) (by omega))

set_option maxRecDepth 100000 in
set_option maxHeartbeats 4000000 in
theorem s_Ma_takeBack {x0 x1 x2 x3 x4 x5 x6 x7 x8 x9 x10 x11 x14 x15 x16 : va_E} {g0 : rr_H} {r g lo : Nat} {hg ef : Int32} {fc cc cf cb : Nat → Int32} (hr : r ≤ 200) (hlo : 0 < r → cb (r - 1) = nI lo ∧ lo ≤ g) (hc : ∀ i, i < g → ∃ c : Nat, c < 32 ∧ cc i = nI c) (hg2 : g ≤ 1600) : rr_Spec 0 y_Ma_takeBack c_Ma_takeBack 3 (some .int) 0 0 [.ref 12] (x0 :: x1 :: x2 :: x3 :: x4 :: x5 :: x6 :: x7 :: x8 :: x9 :: x10 :: x11 :: .inr (1, [.ref 13, .ref 14, .int hg, .ref 15, .ref 16, .int ef, .ref 17, .ref 18, .int (nI g), .ref 19, .int (nI r)]) :: .inl (0, 32, .inl (fc)) :: x14 :: x15 :: x16 :: .inl (0, 1600, .inl (cc)) :: .inl (0, 1600, .inl (cf)) :: .inl (0, 200, .inl (cb)) :: g0) (fun rv h1 => if r = 0 then rv = some (.int (-2)) ∧ h1 = x0 :: x1 :: x2 :: x3 :: x4 :: x5 :: x6 :: x7 :: x8 :: x9 :: x10 :: x11 :: .inr (1, [.ref 13, .ref 14, .int hg, .ref 15, .ref 16, .int ef, .ref 17, .ref 18, .int (nI g), .ref 19, .int (nI r)]) :: .inl (0, 32, .inl (fc)) :: x14 :: x15 :: x16 :: .inl (0, 1600, .inl (cc)) :: .inl (0, 1600, .inl (cf)) :: .inl (0, 200, .inl (cb)) :: g0 else rv = some (.int (nI (r - 1))) ∧ h1 = x0 :: x1 :: x2 :: x3 :: x4 :: x5 :: x6 :: x7 :: x8 :: x9 :: x10 :: x11 :: .inr (1, [.ref 13, .ref 14, .int hg, .ref 15, .ref 16, .int ef, .ref 17, .ref 18, .int (nI lo), .ref 19, .int (nI (r - 1))]) :: .inl (0, 32, .inl (rb cc cf lo (g - lo) fc)) :: x14 :: x15 :: x16 :: .inl (0, 1600, .inl (cc)) :: .inl (0, 1600, .inl (cf)) :: .inl (0, 200, .inl (cb)) :: g0) := by
  refine rr_met (own := R_Ma) (kd := (false, none)) (by decide +kernel) rfl (fun h => by cases h) rfl (Nat.le_of_ble_eq_true rfl) ?_
  refine rr_aload_n d_Ma_takeBack_0 rfl rfl ?_
  refine rr_getf d_Ma_takeBack_1 fl_Ma_33 rfl rfl ?_
  by_cases h0 : r = 0
  · simp only [if_pos h0]
    subst h0
    refine rr_if_ne 10 d_Ma_takeBack_4 (by decide) (fun c9 => absurd (rfl) c9) (fun _ => ?_)
    refine rr_bipush (-2) d_Ma_takeBack_7 rfl ?_
    exact rr_ireturn d_Ma_takeBack_9 rfl rfl (Nat.le_of_ble_eq_true rfl) (Nat.le_of_ble_eq_true rfl) (⟨rfl, rfl⟩)
  · simp only [if_neg h0]
    obtain ⟨k, rfl⟩ : ∃ k, r = k + 1 := ⟨r - 1, by omega⟩
    obtain ⟨e1, e2⟩ := hlo (by omega)
    rw [Nat.add_sub_cancel] at e1 ⊢
    refine rr_if_ne 10 d_Ma_takeBack_4 (by decide) (fun _ => ?_) (fun c9 => absurd c9 (nI_ne0 (by omega) (by omega)))
    refine rr_aload_n d_Ma_takeBack_10 rfl rfl ?_
    refine rr_dup d_Ma_takeBack_11 rfl ?_
    refine rr_getf d_Ma_takeBack_12 fl_Ma_33 rfl rfl ?_
    refine rr_iconst 1 d_Ma_takeBack_15 rfl ?_
    refine rr_isub d_Ma_takeBack_16 ?_
    refine rr_putf d_Ma_takeBack_17 fl_Ma_33 rfl rfl rfl rfl ?_
    rw [nI_pred]
    refine rr_aload_n d_Ma_takeBack_20 rfl rfl ?_
    refine rr_getf d_Ma_takeBack_21 fl_Ma_30 rfl rfl ?_
    refine rr_aload_n d_Ma_takeBack_24 rfl rfl ?_
    refine rr_getf d_Ma_takeBack_25 fl_Ma_33 rfl rfl ?_
    refine rr_iald d_Ma_takeBack_28 rfl (vp_in_nI (n := k) (by omega) (by decide)) ?_
    refine rr_istore_n d_Ma_takeBack_29 rfl (by decide) ?_
    refine rr_aload_n d_Ma_takeBack_30 rfl rfl ?_
    refine rr_getf d_Ma_takeBack_31 fl_Ma_37 rfl rfl ?_
    refine rr_iconst 1 d_Ma_takeBack_34 rfl ?_
    refine rr_isub d_Ma_takeBack_35 ?_
    refine rr_istore_n d_Ma_takeBack_36 rfl (by decide) ?_
    rw [nI_clamp (by omega), e1]
    have nx := l_Ma_takeBack (x0 := x0) (x1 := x1) (x2 := x2) (x3 := x3) (x4 := x4) (x5 := x5) (x6 := x6) (x7 := x7) (x8 := x8) (x9 := x9) (x10 := x10) (x11 := x11) (x14 := x14) (x15 := x15) (x16 := x16) (g0 := g0) (r := k) (g := g) (lo := lo) (hg := hg) (ef := ef) (cc := cc) (cf := cf) (cb := cb) (by omega) (g - lo) fc (fun i hi => hc i (by omega)) (by omega)
    rw [show lo + (g - lo) = g by omega] at nx
    exact rr_lvs _ rfl nx
