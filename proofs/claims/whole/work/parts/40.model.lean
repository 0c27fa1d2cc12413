/-! The reference: tokens. -/
/-- the reference's kinds: 0 end, 1 word, 2 number, 3 sign, 4 bad -/
def mk (k : Nat) : Nat := if k = 0 then 0 else if k = 1 then 4 else if k ≤ 8 then 1 else if k = 9 then 2 else 3

set_option maxRecDepth 100000 in
set_option maxHeartbeats 4000000 in
theorem s_Mo_in {h : rr_H} {x a b : Int32} : rr_Spec 0 y_Mo_in c_Mo_in 3 (some .boolean) 0 0 [.int x, .int a, .int b] (h) (fun r h1 => r = some (.int (sp_b (decide (a ≤ x ∧ x ≤ b)))) ∧ h1 = h) := by
  refine rr_met (own := R_Mo) (kd := (false, none)) (by decide +kernel) rfl (fun h => by cases h) rfl (Nat.le_of_ble_eq_true rfl) ?_
  refine rr_iload_n d_Mo_in_0 rfl rfl ?_
  refine rr_iload_n d_Mo_in_1 rfl rfl ?_
  refine rr_icmp_lt 14 d_Mo_in_2 (by decide) (fun hc => ?_) (fun hc => ?_)
  · rw [show decide (a ≤ x ∧ x ≤ b) = false from decide_eq_false (fun q => Int32.not_le.mpr hc q.1)]
    refine rr_iconst 0 d_Mo_in_14 rfl ?_
    exact rr_ireturn d_Mo_in_15 rfl rfl (Nat.le_of_ble_eq_true rfl) (Nat.le_of_ble_eq_true rfl) (⟨rfl, rfl⟩)
  · skip
    refine rr_iload_n d_Mo_in_5 rfl rfl ?_
    refine rr_iload_n d_Mo_in_6 rfl rfl ?_
    refine rr_icmp_gt 14 d_Mo_in_7 (by decide) (fun hd => ?_) (fun hd => ?_)
    · rw [show decide (a ≤ x ∧ x ≤ b) = false from decide_eq_false (fun q => Int32.not_le.mpr hd q.2)]
      refine rr_iconst 0 d_Mo_in_14 rfl ?_
      exact rr_ireturn d_Mo_in_15 rfl rfl (Nat.le_of_ble_eq_true rfl) (Nat.le_of_ble_eq_true rfl) (⟨rfl, rfl⟩)
    · rw [show decide (a ≤ x ∧ x ≤ b) = true from decide_eq_true ⟨Int32.not_lt.mp hc, Int32.not_lt.mp hd⟩]
      refine rr_iconst 1 d_Mo_in_10 rfl ?_
      refine rr_goto 15 d_Mo_in_11 (by decide) ?_
      exact rr_ireturn d_Mo_in_15 rfl rfl (Nat.le_of_ble_eq_true rfl) (Nat.le_of_ble_eq_true rfl) (⟨rfl, rfl⟩)

set_option maxRecDepth 100000 in
set_option maxHeartbeats 4000000 in
theorem s_Mo_isLetter {h : rr_H} {x : Int32} : rr_Spec 0 y_Mo_isLetter c_Mo_isLetter 1 (some .boolean) 0 0 [.int x] (h) (fun r h1 => r = some (.int (sp_b (sp_isL x))) ∧ h1 = h) := by
  refine rr_met (own := R_Mo) (kd := (false, none)) (by decide +kernel) rfl (fun h => by cases h) rfl (Nat.le_of_ble_eq_true rfl) ?_
  refine rr_iload_n d_Mo_isLetter_0 rfl rfl ?_
  refine rr_bipush 97 d_Mo_isLetter_1 rfl ?_
  refine rr_icmp_lt 16 d_Mo_isLetter_3 (by decide) (fun hc => ?_) (fun hc => ?_)
  · have e : sp_isL x = false := by
      unfold sp_isL
      rw [decide_eq_false (Int32.not_le.mpr hc)]
      rfl
    rw [e]
    refine rr_iconst 0 d_Mo_isLetter_16 rfl ?_
    exact rr_ireturn d_Mo_isLetter_17 rfl rfl (Nat.le_of_ble_eq_true rfl) (Nat.le_of_ble_eq_true rfl) (⟨rfl, rfl⟩)
  · skip
    refine rr_iload_n d_Mo_isLetter_6 rfl rfl ?_
    refine rr_bipush 122 d_Mo_isLetter_7 rfl ?_
    refine rr_icmp_gt 16 d_Mo_isLetter_9 (by decide) (fun hd => ?_) (fun hd => ?_)
    · have e : sp_isL x = false := by
        unfold sp_isL
        rw [decide_eq_false (Int32.not_le.mpr hd), Bool.and_false]
      rw [e]
      refine rr_iconst 0 d_Mo_isLetter_16 rfl ?_
      exact rr_ireturn d_Mo_isLetter_17 rfl rfl (Nat.le_of_ble_eq_true rfl) (Nat.le_of_ble_eq_true rfl) (⟨rfl, rfl⟩)
    · have e : sp_isL x = true := by
        unfold sp_isL
        rw [decide_eq_true (Int32.not_lt.mp hc), decide_eq_true (Int32.not_lt.mp hd)]
        rfl
      rw [e]
      refine rr_iconst 1 d_Mo_isLetter_12 rfl ?_
      refine rr_goto 17 d_Mo_isLetter_13 (by decide) ?_
      exact rr_ireturn d_Mo_isLetter_17 rfl rfl (Nat.le_of_ble_eq_true rfl) (Nat.le_of_ble_eq_true rfl) (⟨rfl, rfl⟩)

set_option maxRecDepth 100000 in
set_option maxHeartbeats 4000000 in
theorem s_Mo_isDigit {h : rr_H} {x : Int32} : rr_Spec 0 y_Mo_isDigit c_Mo_isDigit 1 (some .boolean) 0 0 [.int x] (h) (fun r h1 => r = some (.int (sp_b (sp_isD x))) ∧ h1 = h) := by
  refine rr_met (own := R_Mo) (kd := (false, none)) (by decide +kernel) rfl (fun h => by cases h) rfl (Nat.le_of_ble_eq_true rfl) ?_
  refine rr_iload_n d_Mo_isDigit_0 rfl rfl ?_
  refine rr_bipush 48 d_Mo_isDigit_1 rfl ?_
  refine rr_icmp_lt 16 d_Mo_isDigit_3 (by decide) (fun hc => ?_) (fun hc => ?_)
  · have e : sp_isD x = false := by
      unfold sp_isD
      rw [decide_eq_false (Int32.not_le.mpr hc)]
      rfl
    rw [e]
    refine rr_iconst 0 d_Mo_isDigit_16 rfl ?_
    exact rr_ireturn d_Mo_isDigit_17 rfl rfl (Nat.le_of_ble_eq_true rfl) (Nat.le_of_ble_eq_true rfl) (⟨rfl, rfl⟩)
  · skip
    refine rr_iload_n d_Mo_isDigit_6 rfl rfl ?_
    refine rr_bipush 57 d_Mo_isDigit_7 rfl ?_
    refine rr_icmp_gt 16 d_Mo_isDigit_9 (by decide) (fun hd => ?_) (fun hd => ?_)
    · have e : sp_isD x = false := by
        unfold sp_isD
        rw [decide_eq_false (Int32.not_le.mpr hd), Bool.and_false]
      rw [e]
      refine rr_iconst 0 d_Mo_isDigit_16 rfl ?_
      exact rr_ireturn d_Mo_isDigit_17 rfl rfl (Nat.le_of_ble_eq_true rfl) (Nat.le_of_ble_eq_true rfl) (⟨rfl, rfl⟩)
    · have e : sp_isD x = true := by
        unfold sp_isD
        rw [decide_eq_true (Int32.not_lt.mp hc), decide_eq_true (Int32.not_lt.mp hd)]
        rfl
      rw [e]
      refine rr_iconst 1 d_Mo_isDigit_12 rfl ?_
      refine rr_goto 17 d_Mo_isDigit_13 (by decide) ?_
      exact rr_ireturn d_Mo_isDigit_17 rfl rfl (Nat.le_of_ble_eq_true rfl) (Nat.le_of_ble_eq_true rfl) (⟨rfl, rfl⟩)

set_option maxRecDepth 100000 in
set_option maxHeartbeats 4000000 in
theorem l_is {x0 x1 x2 x3 x4 x5 x6 x7 x8 x9 x10 x11 x12 x13 x14 x15 x16 x17 x18 x19 x20 x21 x22 x23 : va_E} {g : rr_H} {tm ru fa pa my pcv at0 sz : Int32} {lt : Value} {nu : Int64} {f : Nat → Int32} {p e j kd : Nat} (hj : j < rr_nS) (he : e ≤ 400) (hp : p + rr_len.getD j 0 = e) : ∀ (k i : Nat), i + k = rr_len.getD j 0 → rr_A R_Mo c_Mo_is 3 (some .boolean) (false, none) { frames := 4, cells := 0, slots := 0, locals := 4 * 64 } (fun r h1 => r = some (.int (sp_b (sp_eqs f p j i k))) ∧ h1 = x0 :: x1 :: x2 :: x3 :: x4 :: x5 :: x6 :: x7 :: x8 :: x9 :: x10 :: x11 :: x12 :: x13 :: x14 :: x15 :: x16 :: x17 :: x18 :: x19 :: x20 :: x21 :: x22 :: x23 :: .inr (6, [.ref 25, .int tm, lt, .ref 26, .int ru, .int at0, .int sz, .int (nI kd), .int (nI p), .int (nI e), .int fa, .int pa, .long nu, .ref 27, .int my, .ref 28, .ref 29, .ref 30, .ref 31, .int pcv]) :: .inl (1, 400, .inl f) :: g) 0 0 36 [(2, .int (nI i)), (0, .ref 24), (1, .ref (rr_K0 + j))] [] (x0 :: x1 :: x2 :: x3 :: x4 :: x5 :: x6 :: x7 :: x8 :: x9 :: x10 :: x11 :: x12 :: x13 :: x14 :: x15 :: x16 :: x17 :: x18 :: x19 :: x20 :: x21 :: x22 :: x23 :: .inr (6, [.ref 25, .int tm, lt, .ref 26, .int ru, .int at0, .int sz, .int (nI kd), .int (nI p), .int (nI e), .int fa, .int pa, .long nu, .ref 27, .int my, .ref 28, .ref 29, .ref 30, .ref 31, .int pcv]) :: .inl (1, 400, .inl f) :: g) := by
  have h6 := sp_len_ok j hj
  intro k
  induction k with
  | zero =>
    intro i hi
    refine rr_iload_n d_Mo_is_36 rfl rfl ?_
    refine rr_aload_n d_Mo_is_37 rfl rfl ?_
    refine rr_callS0 d_Mo_is_38 il_Mo_100 m_St_length (s_St_length hj) hj rfl rfl rfl (Nat.le_of_ble_eq_true rfl) (Nat.le_of_ble_eq_true rfl) (Nat.le_of_ble_eq_true rfl) (Nat.le_of_ble_eq_true rfl) (Nat.le_of_ble_eq_true rfl) (fun rv9 hp9 hq => ?_)
    obtain ⟨rfl, rfl⟩ := hq
    refine rr_icmp_ge 71 d_Mo_is_41 (by decide) (fun _ => ?_) (fun c9 => absurd (nI_le (by omega) (by omega)) c9)
    refine rr_iconst 1 d_Mo_is_71 rfl ?_
    exact rr_ireturn d_Mo_is_72 rfl rfl (Nat.le_of_ble_eq_true rfl) (Nat.le_of_ble_eq_true rfl) (⟨rfl, rfl⟩)
  | succ k ih =>
    intro i hi
    refine rr_iload_n d_Mo_is_36 rfl rfl ?_
    refine rr_aload_n d_Mo_is_37 rfl rfl ?_
    refine rr_callS0 d_Mo_is_38 il_Mo_100 m_St_length (s_St_length hj) hj rfl rfl rfl (Nat.le_of_ble_eq_true rfl) (Nat.le_of_ble_eq_true rfl) (Nat.le_of_ble_eq_true rfl) (Nat.le_of_ble_eq_true rfl) (Nat.le_of_ble_eq_true rfl) (fun rv9 hp9 hq => ?_)
    obtain ⟨rfl, rfl⟩ := hq
    refine rr_icmp_ge 71 d_Mo_is_41 (by decide) (fun c9 => absurd c9 (nI_ge (by omega) (by omega))) (fun _ => ?_)
    refine rr_aload_n d_Mo_is_44 rfl rfl ?_
    refine rr_getf d_Mo_is_45 fl_Mo_9 rfl rfl ?_
    refine rr_aload_n d_Mo_is_48 rfl rfl ?_
    refine rr_getf d_Mo_is_49 fl_Mo_46 rfl rfl ?_
    refine rr_iload_n d_Mo_is_52 rfl rfl ?_
    refine rr_iadd d_Mo_is_53 ?_
    rw [nI_add]
    refine rr_bald d_Mo_is_54 rfl (vp_in_nI (n := p + i) (by omega) (by decide)) ?_
    refine rr_aload_n d_Mo_is_55 rfl rfl ?_
    refine rr_iload_n d_Mo_is_56 rfl rfl ?_
    rw [nI_clamp (by omega)]
    refine rr_callS0 d_Mo_is_57 il_Mo_106 m_St_charAt (s_St_charAt hj (i := i) (by omega)) hj rfl rfl rfl (Nat.le_of_ble_eq_true rfl) (Nat.le_of_ble_eq_true rfl) (Nat.le_of_ble_eq_true rfl) (Nat.le_of_ble_eq_true rfl) (Nat.le_of_ble_eq_true rfl) (fun rv9 hp9 hq => ?_)
    obtain ⟨rfl, rfl⟩ := hq
    refine rr_icmp_eq 65 d_Mo_is_60 (by decide) (fun hc => ?_) (fun hc => ?_)
    · have e1 : sp_eqs f p j i (k + 1) = sp_eqs f p j (i + 1) k := by
        show (decide (f (p + i) = sp_ch j i) && sp_eqs f p j (i + 1) k) = _
        rw [decide_eq_true hc]
        rfl
      rw [e1]
      refine rr_iinc 1 d_Mo_is_65 rfl rfl (by decide) ?_
      refine rr_goto 36 d_Mo_is_68 (by decide) ?_
      rw [nI_1]
      exact rr_lvs _ rfl (ih (i + 1) (by omega))
    · have e1 : sp_eqs f p j i (k + 1) = false := by
        show (decide (f (p + i) = sp_ch j i) && sp_eqs f p j (i + 1) k) = _
        rw [decide_eq_false hc]
        rfl
      rw [e1]
      refine rr_iconst 0 d_Mo_is_63 rfl ?_
      exact rr_ireturn d_Mo_is_64 rfl rfl (Nat.le_of_ble_eq_true rfl) (Nat.le_of_ble_eq_true rfl) (⟨rfl, rfl⟩)

set_option maxRecDepth 100000 in
set_option maxHeartbeats 4000000 in
theorem s_Mo_is {x0 x1 x2 x3 x4 x5 x6 x7 x8 x9 x10 x11 x12 x13 x14 x15 x16 x17 x18 x19 x20 x21 x22 x23 : va_E} {g : rr_H} {tm ru fa pa my pcv at0 sz : Int32} {lt : Value} {nu : Int64} {f : Nat → Int32} {p e j kd : Nat} (hj : j < rr_nS) (hk : kd ≤ 4) (hpe : p ≤ e) (he : e ≤ 400) : rr_Spec 4 y_Mo_is c_Mo_is 3 (some .boolean) 0 0 [.ref 24, .ref (rr_K0 + j)] (x0 :: x1 :: x2 :: x3 :: x4 :: x5 :: x6 :: x7 :: x8 :: x9 :: x10 :: x11 :: x12 :: x13 :: x14 :: x15 :: x16 :: x17 :: x18 :: x19 :: x20 :: x21 :: x22 :: x23 :: .inr (6, [.ref 25, .int tm, lt, .ref 26, .int ru, .int at0, .int sz, .int (nI kd), .int (nI p), .int (nI e), .int fa, .int pa, .long nu, .ref 27, .int my, .ref 28, .ref 29, .ref 30, .ref 31, .int pcv]) :: .inl (1, 400, .inl f) :: g) (fun r h1 => r = some (.int (sp_b (decide (kd = 1 ∨ kd = 3) && sp_spell f p e j))) ∧ h1 = x0 :: x1 :: x2 :: x3 :: x4 :: x5 :: x6 :: x7 :: x8 :: x9 :: x10 :: x11 :: x12 :: x13 :: x14 :: x15 :: x16 :: x17 :: x18 :: x19 :: x20 :: x21 :: x22 :: x23 :: .inr (6, [.ref 25, .int tm, lt, .ref 26, .int ru, .int at0, .int sz, .int (nI kd), .int (nI p), .int (nI e), .int fa, .int pa, .long nu, .ref 27, .int my, .ref 28, .ref 29, .ref 30, .ref 31, .int pcv]) :: .inl (1, 400, .inl f) :: g) := by
  have h6 := sp_len_ok j hj
  refine rr_met (own := R_Mo) (kd := (false, none)) (by decide +kernel) rfl (fun h => by cases h) rfl (Nat.le_of_ble_eq_true rfl) ?_
  refine rr_aload_n d_Mo_is_0 rfl rfl ?_
  refine rr_getf d_Mo_is_1 fl_Mo_49 rfl rfl ?_
  refine rr_iconst 1 d_Mo_is_4 rfl ?_
  have go : kd = 1 ∨ kd = 3 → rr_A R_Mo c_Mo_is 3 (some .boolean) (false, none) { frames := 4, cells := 0, slots := 0, locals := 4 * 64 } (fun r h1 => r = some (.int (sp_b (decide (kd = 1 ∨ kd = 3) && sp_spell f p e j))) ∧ h1 = x0 :: x1 :: x2 :: x3 :: x4 :: x5 :: x6 :: x7 :: x8 :: x9 :: x10 :: x11 :: x12 :: x13 :: x14 :: x15 :: x16 :: x17 :: x18 :: x19 :: x20 :: x21 :: x22 :: x23 :: .inr (6, [.ref 25, .int tm, lt, .ref 26, .int ru, .int at0, .int sz, .int (nI kd), .int (nI p), .int (nI e), .int fa, .int pa, .long nu, .ref 27, .int my, .ref 28, .ref 29, .ref 30, .ref 31, .int pcv]) :: .inl (1, 400, .inl f) :: g) 0 0 16 [(0, .ref 24), (1, .ref (rr_K0 + j))] [] (x0 :: x1 :: x2 :: x3 :: x4 :: x5 :: x6 :: x7 :: x8 :: x9 :: x10 :: x11 :: x12 :: x13 :: x14 :: x15 :: x16 :: x17 :: x18 :: x19 :: x20 :: x21 :: x22 :: x23 :: .inr (6, [.ref 25, .int tm, lt, .ref 26, .int ru, .int at0, .int sz, .int (nI kd), .int (nI p), .int (nI e), .int fa, .int pa, .long nu, .ref 27, .int my, .ref 28, .ref 29, .ref 30, .ref 31, .int pcv]) :: .inl (1, 400, .inl f) :: g) := by
    intro hk13
    rw [show decide (kd = 1 ∨ kd = 3) = true from decide_eq_true hk13, Bool.true_and]
    refine rr_aload_n d_Mo_is_16 rfl rfl ?_
    refine rr_getf d_Mo_is_17 fl_Mo_56 rfl rfl ?_
    refine rr_aload_n d_Mo_is_20 rfl rfl ?_
    refine rr_getf d_Mo_is_21 fl_Mo_46 rfl rfl ?_
    refine rr_isub d_Mo_is_24 ?_
    refine rr_aload_n d_Mo_is_25 rfl rfl ?_
    rw [pk_sub hpe]
    refine rr_callS0 d_Mo_is_26 il_Mo_100 m_St_length (s_St_length hj) hj rfl rfl rfl (Nat.le_of_ble_eq_true rfl) (Nat.le_of_ble_eq_true rfl) (Nat.le_of_ble_eq_true rfl) (Nat.le_of_ble_eq_true rfl) (Nat.le_of_ble_eq_true rfl) (fun rv9 hp9 hq => ?_)
    obtain ⟨rfl, rfl⟩ := hq
    refine rr_icmp_eq 34 d_Mo_is_29 (by decide) (fun hc => ?_) (fun hc => ?_)
    · have hp : p + rr_len.getD j 0 = e := by
        have := (nI_eq (by omega) (by omega)).mp hc
        omega
      have e1 : sp_spell f p e j = sp_eqs f p j 0 (rr_len.getD j 0) := by
        unfold sp_spell
        rw [decide_eq_true hp]
        rfl
      rw [e1]
      refine rr_iconst 0 d_Mo_is_34 rfl ?_
      refine rr_istore_n d_Mo_is_35 rfl (by decide) ?_
      exact rr_lvs _ rfl (l_is hj he hp (rr_len.getD j 0) 0 (by omega))
    · have e1 : sp_spell f p e j = false := by
        unfold sp_spell
        rw [decide_eq_false (fun q => hc ((nI_eq (by omega) (by omega)).mpr (by omega)))]
        rfl
      rw [e1]
      refine rr_iconst 0 d_Mo_is_32 rfl ?_
      exact rr_ireturn d_Mo_is_33 rfl rfl (Nat.le_of_ble_eq_true rfl) (Nat.le_of_ble_eq_true rfl) (⟨rfl, rfl⟩)
  refine rr_icmp_eq 16 d_Mo_is_5 (by decide) (fun h1 => ?_) (fun h1 => ?_)
  · exact go (Or.inl ((nI_eq (b := 1) (by omega) (by decide)).mp h1))
  refine rr_aload_n d_Mo_is_8 rfl rfl ?_
  refine rr_getf d_Mo_is_9 fl_Mo_49 rfl rfl ?_
  refine rr_iconst 3 d_Mo_is_12 rfl ?_
  refine rr_icmp_ne 32 d_Mo_is_13 (by decide) (fun h3 => ?_) (fun h3 => ?_)
  · rw [show decide (kd = 1 ∨ kd = 3) = false from decide_eq_false (fun q => q.elim (fun q => h1 ((nI_eq (b := 1) (by omega) (by decide)).mpr q)) (fun q => h3 ((nI_eq (b := 3) (by omega) (by decide)).mpr q))), Bool.false_and]
    refine rr_iconst 0 d_Mo_is_32 rfl ?_
    exact rr_ireturn d_Mo_is_33 rfl rfl (Nat.le_of_ble_eq_true rfl) (Nat.le_of_ble_eq_true rfl) (⟨rfl, rfl⟩)
  · exact go (Or.inr ((nI_eq (b := 3) (by omega) (by decide)).mp h3))

set_option maxRecDepth 100000 in
set_option maxHeartbeats 4000000 in
theorem s_Mo_bad {x0 x1 x2 x3 x4 x5 x6 x7 x8 x9 x10 x11 x12 x13 x14 x15 x16 x17 x18 x19 x20 x21 x22 x23 : va_E} {g : rr_H} {tm ru pa my pcv at0 sz kd0 to0 fr0 : Int32} {lt : Value} {nu : Int64} {f : Nat → Int32} : rr_Spec 0 y_Mo_bad c_Mo_bad 1 (some .boolean) 0 0 [.ref 24] (x0 :: x1 :: x2 :: x3 :: x4 :: x5 :: x6 :: x7 :: x8 :: x9 :: x10 :: x11 :: x12 :: x13 :: x14 :: x15 :: x16 :: x17 :: x18 :: x19 :: x20 :: x21 :: x22 :: x23 :: .inr (6, [.ref 25, .int tm, lt, .ref 26, .int ru, .int at0, .int sz, .int kd0, .int fr0, .int to0, .int (-1), .int pa, .long nu, .ref 27, .int my, .ref 28, .ref 29, .ref 30, .ref 31, .int pcv]) :: .inl (1, 400, .inl f) :: g) (fun r h1 => r = some (.int 0) ∧ h1 = x0 :: x1 :: x2 :: x3 :: x4 :: x5 :: x6 :: x7 :: x8 :: x9 :: x10 :: x11 :: x12 :: x13 :: x14 :: x15 :: x16 :: x17 :: x18 :: x19 :: x20 :: x21 :: x22 :: x23 :: .inr (6, [.ref 25, .int tm, lt, .ref 26, .int ru, .int at0, .int sz, .int kd0, .int fr0, .int to0, .int fr0, .int pa, .long nu, .ref 27, .int my, .ref 28, .ref 29, .ref 30, .ref 31, .int pcv]) :: .inl (1, 400, .inl f) :: g) := by
  refine rr_met (own := R_Mo) (kd := (false, none)) (by decide +kernel) rfl (fun h => by cases h) rfl (Nat.le_of_ble_eq_true rfl) ?_
  refine rr_aload_n d_Mo_bad_0 rfl rfl ?_
  refine rr_getf d_Mo_bad_1 fl_Mo_110 rfl rfl ?_
  refine rr_if_ge 15 d_Mo_bad_4 (by decide) (fun c9 => absurd c9 (by decide)) (fun _ => ?_)
  refine rr_aload_n d_Mo_bad_7 rfl rfl ?_
  refine rr_aload_n d_Mo_bad_8 rfl rfl ?_
  refine rr_getf d_Mo_bad_9 fl_Mo_46 rfl rfl ?_
  refine rr_putf d_Mo_bad_12 fl_Mo_110 rfl rfl rfl rfl ?_
  refine rr_iconst 0 d_Mo_bad_15 rfl ?_
  exact rr_ireturn d_Mo_bad_16 rfl rfl (Nat.le_of_ble_eq_true rfl) (Nat.le_of_ble_eq_true rfl) (⟨rfl, rfl⟩)

set_option maxRecDepth 100000 in
set_option maxHeartbeats 4000000 in
theorem s_Mo_put {x0 x1 x2 x3 x4 x5 x6 x7 x8 x9 x10 x11 x12 x13 x14 x15 x16 x17 x18 x19 x20 x21 x22 x23 x25 x26 : va_E} {g : rr_H} {tm ru fa pa pcv at0 sz kd0 to0 fr0 v : Int32} {lt : Value} {nu : Int64} {cd : Nat → Int32} {y : Nat} (hy : y < 1600) : rr_Spec 0 y_Mo_put c_Mo_put 2 none 0 0 [.ref 24, .int v] (x0 :: x1 :: x2 :: x3 :: x4 :: x5 :: x6 :: x7 :: x8 :: x9 :: x10 :: x11 :: x12 :: x13 :: x14 :: x15 :: x16 :: x17 :: x18 :: x19 :: x20 :: x21 :: x22 :: x23 :: .inr (6, [.ref 25, .int tm, lt, .ref 26, .int ru, .int at0, .int sz, .int kd0, .int fr0, .int to0, .int fa, .int pa, .long nu, .ref 27, .int (nI y), .ref 28, .ref 29, .ref 30, .ref 31, .int pcv]) :: x25 :: x26 :: .inl (0, 1600, .inl (cd)) :: g) (fun r h1 => r = none ∧ h1 = x0 :: x1 :: x2 :: x3 :: x4 :: x5 :: x6 :: x7 :: x8 :: x9 :: x10 :: x11 :: x12 :: x13 :: x14 :: x15 :: x16 :: x17 :: x18 :: x19 :: x20 :: x21 :: x22 :: x23 :: .inr (6, [.ref 25, .int tm, lt, .ref 26, .int ru, .int at0, .int sz, .int kd0, .int fr0, .int to0, .int fa, .int pa, .long nu, .ref 27, .int (nI (y + 1)), .ref 28, .ref 29, .ref 30, .ref 31, .int pcv]) :: x25 :: x26 :: .inl (0, 1600, .inl (upd cd y v)) :: g) := by
  refine rr_met (own := R_Mo) (kd := (false, none)) (by decide +kernel) rfl (fun h => by cases h) rfl (Nat.le_of_ble_eq_true rfl) ?_
  refine rr_aload_n d_Mo_put_0 rfl rfl ?_
  refine rr_getf d_Mo_put_1 fl_Mo_17 rfl rfl ?_
  refine rr_aload_n d_Mo_put_4 rfl rfl ?_
  refine rr_getf d_Mo_put_5 fl_Mo_120 rfl rfl ?_
  refine rr_iload_n d_Mo_put_8 rfl rfl ?_
  refine rr_iast d_Mo_put_9 rfl (vp_in_nI hy (by decide)) ?_
  refine rr_aload_n d_Mo_put_10 rfl rfl ?_
  refine rr_dup d_Mo_put_11 rfl ?_
  refine rr_getf d_Mo_put_12 fl_Mo_120 rfl rfl ?_
  refine rr_iconst 1 d_Mo_put_15 rfl ?_
  refine rr_iadd d_Mo_put_16 ?_
  refine rr_putf d_Mo_put_17 fl_Mo_120 rfl rfl rfl rfl ?_
  rw [nI_1, nI_clamp (by omega)]
  exact rr_return d_Mo_put_20 rfl (Nat.le_of_ble_eq_true rfl) (Nat.le_of_ble_eq_true rfl) (⟨rfl, rfl⟩)

theorem nu_stepF {a : Nat} {x : Int32} (hx : sp_isD x = true) : (if 10 * lN (min a 1099511627776) + x.toInt64 - 48 < 1099511627776 then 10 * lN (min a 1099511627776) + x.toInt64 - 48 else (1099511627776 : Int64)) = lN (min (a * 10 + sp_dg x) 1099511627776) := by
  obtain ⟨c, h1, h2, rfl⟩ := sp_isD_of hx
  have e2 : sp_dg (nI c) = c - 48 := by unfold sp_dg; rw [nI_clamp (by omega)]
  rw [e2, nI_l (by omega), show (10 : Int64) = lN 10 from rfl, lN_mul, lN_add, show (48 : Int64) = lN 48 from rfl, lN_sub (by omega), show (1099511627776 : Int64) = lN 1099511627776 from rfl]
  have hb : 10 * min a 1099511627776 + c - 48 < 2 ^ 63 := by omega
  by_cases h : 10 * min a 1099511627776 + c - 48 < 1099511627776
  · rw [if_pos ((pk_lLT hb (by omega)).mpr h)]
    exact congrArg lN (by omega)
  · rw [if_neg (fun q => h ((pk_lLT hb (by omega)).mp q))]
    exact congrArg lN (by omega)
theorem nu_endF {a : Nat} : 0 < lg_cmp (lN (min a 1099511627776)) 2147483647 ↔ ¬ a < 2147483648 := by
  rw [show (2147483647 : Int64) = lN 2147483647 from rfl]
  unfold lg_cmp
  by_cases h : a < 2147483648
  · rw [if_neg (fun q => by have := (pk_lLT (by omega) (by omega)).mp q; omega)]
    refine ⟨fun q => ?_, fun q => absurd h q⟩
    exfalso
    revert q
    split <;> decide
  · rw [if_pos ((pk_lLT (by omega) (by omega)).mpr (by omega))]
    exact ⟨fun _ => h, fun _ => by decide⟩

set_option maxRecDepth 100000 in
set_option maxHeartbeats 4000000 in
theorem l_skip {x0 x1 x2 x3 x4 x5 x6 x7 x8 x9 x10 x11 x12 x13 x14 x15 x16 x17 x18 x19 x20 x21 x22 x23 : va_E} {g : rr_H} {tm ru fa pa my pcv : Int32} {lt : Value} {f : Nat → Int32} {n : Nat} {Q : Option Value → rr_H → Prop} {fr0 to0 kd0 : Int32} {nu : Int64} (hn : n ≤ 400) : ∀ (k p : Nat), p + k = n → rr_A R_Mo c_Mo_step 3 none (false, none) { frames := 5, cells := 0, slots := 0, locals := 5 * 64 } (Q) 0 0 38 [(0, .ref 24)] [] (x0 :: x1 :: x2 :: x3 :: x4 :: x5 :: x6 :: x7 :: x8 :: x9 :: x10 :: x11 :: x12 :: x13 :: x14 :: x15 :: x16 :: x17 :: x18 :: x19 :: x20 :: x21 :: x22 :: x23 :: .inr (6, [.ref 25, .int tm, lt, .ref 26, .int ru, .int (nI (sp_run (fun x => decide (x = 32)) f p k)), .int (nI n), .int kd0, .int fr0, .int to0, .int fa, .int pa, .long nu, .ref 27, .int my, .ref 28, .ref 29, .ref 30, .ref 31, .int pcv]) :: .inl (1, 400, .inl f) :: g) → rr_A R_Mo c_Mo_step 3 none (false, none) { frames := 5, cells := 0, slots := 0, locals := 5 * 64 } (Q) 0 0 0 [(0, .ref 24)] [] (x0 :: x1 :: x2 :: x3 :: x4 :: x5 :: x6 :: x7 :: x8 :: x9 :: x10 :: x11 :: x12 :: x13 :: x14 :: x15 :: x16 :: x17 :: x18 :: x19 :: x20 :: x21 :: x22 :: x23 :: .inr (6, [.ref 25, .int tm, lt, .ref 26, .int ru, .int (nI p), .int (nI n), .int kd0, .int fr0, .int to0, .int fa, .int pa, .long nu, .ref 27, .int my, .ref 28, .ref 29, .ref 30, .ref 31, .int pcv]) :: .inl (1, 400, .inl f) :: g) := by
  intro k
  induction k with
  | zero =>
    intro p hp K
    refine rr_aload_n d_Mo_step_0 rfl rfl ?_
    refine rr_getf d_Mo_step_1 fl_Mo_40 rfl rfl ?_
    refine rr_aload_n d_Mo_step_4 rfl rfl ?_
    refine rr_getf d_Mo_step_5 fl_Mo_43 rfl rfl ?_
    refine rr_icmp_ge 38 d_Mo_step_8 (by decide) (fun _ => ?_) (fun c9 => absurd (nI_le (by omega) (by omega)) c9)
    exact K
  | succ k ih =>
    intro p hp K
    refine rr_aload_n d_Mo_step_0 rfl rfl ?_
    refine rr_getf d_Mo_step_1 fl_Mo_40 rfl rfl ?_
    refine rr_aload_n d_Mo_step_4 rfl rfl ?_
    refine rr_getf d_Mo_step_5 fl_Mo_43 rfl rfl ?_
    refine rr_icmp_ge 38 d_Mo_step_8 (by decide) (fun c9 => absurd c9 (nI_ge (by omega) (by omega))) (fun _ => ?_)
    refine rr_aload_n d_Mo_step_11 rfl rfl ?_
    refine rr_getf d_Mo_step_12 fl_Mo_9 rfl rfl ?_
    refine rr_aload_n d_Mo_step_15 rfl rfl ?_
    refine rr_getf d_Mo_step_16 fl_Mo_40 rfl rfl ?_
    refine rr_bald d_Mo_step_19 rfl (vp_in_nI (n := p) (by omega) (by decide)) ?_
    refine rr_bipush 32 d_Mo_step_20 rfl ?_
    rw [nI_clamp (by omega)]
    unfold sp_run at K
    refine rr_icmp_ne 38 d_Mo_step_22 (by decide) (fun hc => ?_) (fun hc => ?_)
    · rw [if_neg (by rw [decide_eq_false hc]; decide)] at K
      exact K
    · rw [if_pos (decide_eq_true hc)] at K
      refine rr_aload_n d_Mo_step_25 rfl rfl ?_
      refine rr_dup d_Mo_step_26 rfl ?_
      refine rr_getf d_Mo_step_27 fl_Mo_40 rfl rfl ?_
      refine rr_iconst 1 d_Mo_step_30 rfl ?_
      refine rr_iadd d_Mo_step_31 ?_
      refine rr_putf d_Mo_step_32 fl_Mo_40 rfl rfl rfl rfl ?_
      refine rr_goto 0 d_Mo_step_35 (by decide) ?_
      rw [nI_1]
      exact ih (p + 1) (by omega) K

set_option maxRecDepth 100000 in
set_option maxHeartbeats 4000000 in
theorem l_word {x0 x1 x2 x3 x4 x5 x6 x7 x8 x9 x10 x11 x12 x13 x14 x15 x16 x17 x18 x19 x20 x21 x22 x23 : va_E} {g : rr_H} {tm ru fa pa my pcv : Int32} {lt : Value} {f : Nat → Int32} {n : Nat} {Q : Option Value → rr_H → Prop} {fr0 to0 kd0 : Int32} {nu : Int64} (hn : n ≤ 400) : ∀ (k p : Nat), p + k = n → rr_A R_Mo c_Mo_step 3 none (false, none) { frames := 5, cells := 0, slots := 0, locals := 5 * 64 } (Q) 0 0 119 [(0, .ref 24)] [] (x0 :: x1 :: x2 :: x3 :: x4 :: x5 :: x6 :: x7 :: x8 :: x9 :: x10 :: x11 :: x12 :: x13 :: x14 :: x15 :: x16 :: x17 :: x18 :: x19 :: x20 :: x21 :: x22 :: x23 :: .inr (6, [.ref 25, .int tm, lt, .ref 26, .int ru, .int (nI (sp_run sp_isL f p k)), .int (nI n), .int kd0, .int fr0, .int to0, .int fa, .int pa, .long nu, .ref 27, .int my, .ref 28, .ref 29, .ref 30, .ref 31, .int pcv]) :: .inl (1, 400, .inl f) :: g) → rr_A R_Mo c_Mo_step 3 none (false, none) { frames := 5, cells := 0, slots := 0, locals := 5 * 64 } (Q) 0 0 80 [(0, .ref 24)] [] (x0 :: x1 :: x2 :: x3 :: x4 :: x5 :: x6 :: x7 :: x8 :: x9 :: x10 :: x11 :: x12 :: x13 :: x14 :: x15 :: x16 :: x17 :: x18 :: x19 :: x20 :: x21 :: x22 :: x23 :: .inr (6, [.ref 25, .int tm, lt, .ref 26, .int ru, .int (nI p), .int (nI n), .int kd0, .int fr0, .int to0, .int fa, .int pa, .long nu, .ref 27, .int my, .ref 28, .ref 29, .ref 30, .ref 31, .int pcv]) :: .inl (1, 400, .inl f) :: g) := by
  intro k
  induction k with
  | zero =>
    intro p hp K
    refine rr_aload_n d_Mo_step_80 rfl rfl ?_
    refine rr_getf d_Mo_step_81 fl_Mo_40 rfl rfl ?_
    refine rr_aload_n d_Mo_step_84 rfl rfl ?_
    refine rr_getf d_Mo_step_85 fl_Mo_43 rfl rfl ?_
    refine rr_icmp_ge 119 d_Mo_step_88 (by decide) (fun _ => ?_) (fun c9 => absurd (nI_le (by omega) (by omega)) c9)
    exact K
  | succ k ih =>
    intro p hp K
    refine rr_aload_n d_Mo_step_80 rfl rfl ?_
    refine rr_getf d_Mo_step_81 fl_Mo_40 rfl rfl ?_
    refine rr_aload_n d_Mo_step_84 rfl rfl ?_
    refine rr_getf d_Mo_step_85 fl_Mo_43 rfl rfl ?_
    refine rr_icmp_ge 119 d_Mo_step_88 (by decide) (fun c9 => absurd c9 (nI_ge (by omega) (by omega))) (fun _ => ?_)
    refine rr_aload_n d_Mo_step_91 rfl rfl ?_
    refine rr_getf d_Mo_step_92 fl_Mo_9 rfl rfl ?_
    refine rr_aload_n d_Mo_step_95 rfl rfl ?_
    refine rr_getf d_Mo_step_96 fl_Mo_40 rfl rfl ?_
    refine rr_bald d_Mo_step_99 rfl (vp_in_nI (n := p) (by omega) (by decide)) ?_
    rw [nI_clamp (by omega)]
    refine rr_callS d_Mo_step_100 il_Mo_52 m_Mo_isLetter (s_Mo_isLetter) rfl rfl (Nat.le_of_ble_eq_true rfl) (Nat.le_of_ble_eq_true rfl) (Nat.le_of_ble_eq_true rfl) (Nat.le_of_ble_eq_true rfl) (Nat.le_of_ble_eq_true rfl) (fun rv9 hp9 hq => ?_)
    obtain ⟨rfl, rfl⟩ := hq
    unfold sp_run at K
    by_cases hc : sp_isL (f p) = true
    · rw [if_pos hc] at K
      rw [hc]
      refine rr_if_eq 119 d_Mo_step_103 (by decide) (fun c9 => absurd c9 (by decide)) (fun _ => ?_)
      refine rr_aload_n d_Mo_step_106 rfl rfl ?_
      refine rr_dup d_Mo_step_107 rfl ?_
      refine rr_getf d_Mo_step_108 fl_Mo_40 rfl rfl ?_
      refine rr_iconst 1 d_Mo_step_111 rfl ?_
      refine rr_iadd d_Mo_step_112 ?_
      refine rr_putf d_Mo_step_113 fl_Mo_40 rfl rfl rfl rfl ?_
      refine rr_goto 80 d_Mo_step_116 (by decide) ?_
      rw [nI_1]
      exact ih (p + 1) (by omega) K
    · rw [if_neg hc] at K
      rw [(Bool.not_eq_true _).mp hc]
      refine rr_if_eq 119 d_Mo_step_103 (by decide) (fun _ => ?_) (fun c9 => absurd (rfl) c9)
      exact K

set_option maxRecDepth 100000 in
set_option maxHeartbeats 4000000 in
theorem l_digs {x0 x1 x2 x3 x4 x5 x6 x7 x8 x9 x10 x11 x12 x13 x14 x15 x16 x17 x18 x19 x20 x21 x22 x23 : va_E} {g : rr_H} {tm ru fa pa my pcv : Int32} {lt : Value} {f : Nat → Int32} {n : Nat} {Q : Option Value → rr_H → Prop} {fr0 to0 kd0 : Int32} (hn : n ≤ 400) : ∀ (k p a : Nat), p + k = n → rr_A R_Mo c_Mo_step 3 none (false, none) { frames := 5, cells := 0, slots := 0, locals := 5 * 64 } (Q) 0 0 295 [(0, .ref 24)] [] (x0 :: x1 :: x2 :: x3 :: x4 :: x5 :: x6 :: x7 :: x8 :: x9 :: x10 :: x11 :: x12 :: x13 :: x14 :: x15 :: x16 :: x17 :: x18 :: x19 :: x20 :: x21 :: x22 :: x23 :: .inr (6, [.ref 25, .int tm, lt, .ref 26, .int ru, .int (nI (sp_run sp_isD f p k)), .int (nI n), .int kd0, .int fr0, .int to0, .int fa, .int pa, .long (lN (min (sp_nv f p k a) 1099511627776)), .ref 27, .int my, .ref 28, .ref 29, .ref 30, .ref 31, .int pcv]) :: .inl (1, 400, .inl f) :: g) → rr_A R_Mo c_Mo_step 3 none (false, none) { frames := 5, cells := 0, slots := 0, locals := 5 * 64 } (Q) 0 0 223 [(0, .ref 24)] [] (x0 :: x1 :: x2 :: x3 :: x4 :: x5 :: x6 :: x7 :: x8 :: x9 :: x10 :: x11 :: x12 :: x13 :: x14 :: x15 :: x16 :: x17 :: x18 :: x19 :: x20 :: x21 :: x22 :: x23 :: .inr (6, [.ref 25, .int tm, lt, .ref 26, .int ru, .int (nI p), .int (nI n), .int kd0, .int fr0, .int to0, .int fa, .int pa, .long (lN (min a 1099511627776)), .ref 27, .int my, .ref 28, .ref 29, .ref 30, .ref 31, .int pcv]) :: .inl (1, 400, .inl f) :: g) := by
  intro k
  induction k with
  | zero =>
    intro p a hp K
    refine rr_aload_n d_Mo_step_223 rfl rfl ?_
    refine rr_getf d_Mo_step_224 fl_Mo_40 rfl rfl ?_
    refine rr_aload_n d_Mo_step_227 rfl rfl ?_
    refine rr_getf d_Mo_step_228 fl_Mo_43 rfl rfl ?_
    refine rr_icmp_ge 295 d_Mo_step_231 (by decide) (fun _ => ?_) (fun c9 => absurd (nI_le (by omega) (by omega)) c9)
    exact K
  | succ k ih =>
    intro p a hp K
    refine rr_aload_n d_Mo_step_223 rfl rfl ?_
    refine rr_getf d_Mo_step_224 fl_Mo_40 rfl rfl ?_
    refine rr_aload_n d_Mo_step_227 rfl rfl ?_
    refine rr_getf d_Mo_step_228 fl_Mo_43 rfl rfl ?_
    refine rr_icmp_ge 295 d_Mo_step_231 (by decide) (fun c9 => absurd c9 (nI_ge (by omega) (by omega))) (fun _ => ?_)
    refine rr_aload_n d_Mo_step_234 rfl rfl ?_
    refine rr_getf d_Mo_step_235 fl_Mo_9 rfl rfl ?_
    refine rr_aload_n d_Mo_step_238 rfl rfl ?_
    refine rr_getf d_Mo_step_239 fl_Mo_40 rfl rfl ?_
    refine rr_bald d_Mo_step_242 rfl (vp_in_nI (n := p) (by omega) (by decide)) ?_
    rw [nI_clamp (by omega)]
    refine rr_callS d_Mo_step_243 il_Mo_77 m_Mo_isDigit (s_Mo_isDigit) rfl rfl (Nat.le_of_ble_eq_true rfl) (Nat.le_of_ble_eq_true rfl) (Nat.le_of_ble_eq_true rfl) (Nat.le_of_ble_eq_true rfl) (Nat.le_of_ble_eq_true rfl) (fun rv9 hp9 hq => ?_)
    obtain ⟨rfl, rfl⟩ := hq
    unfold sp_run sp_nv at K
    by_cases hc : sp_isD (f p) = true
    · simp only [if_pos hc] at K
      rw [hc]
      refine rr_if_eq 295 d_Mo_step_246 (by decide) (fun c9 => absurd c9 (by decide)) (fun _ => ?_)
      refine rr_aload_n d_Mo_step_249 rfl rfl ?_
      refine rr_ldc2 d_Mo_step_250 kl_Mo_84 ?_
      refine rr_ldc2 d_Mo_step_253 kl_Mo_86 ?_
      refine rr_aload_n d_Mo_step_256 rfl rfl ?_
      refine rr_getf d_Mo_step_257 fl_Mo_80 rfl rfl ?_
      refine rr_lmul d_Mo_step_260 ?_
      refine rr_aload_n d_Mo_step_261 rfl rfl ?_
      refine rr_getf d_Mo_step_262 fl_Mo_9 rfl rfl ?_
      refine rr_aload_n d_Mo_step_265 rfl rfl ?_
      refine rr_getf d_Mo_step_266 fl_Mo_40 rfl rfl ?_
      refine rr_bald d_Mo_step_269 rfl (vp_in_nI (n := p) (by omega) (by decide)) ?_
      refine rr_i2l d_Mo_step_270 ?_
      refine rr_ladd d_Mo_step_271 ?_
      refine rr_ldc2 d_Mo_step_272 kl_Mo_88 ?_
      refine rr_lsub d_Mo_step_275 ?_
      refine rr_minJ d_Mo_step_276 ml_Mo_90 (Nat.le_of_ble_eq_true rfl) (Nat.le_of_ble_eq_true rfl) (Nat.le_of_ble_eq_true rfl) (Nat.le_of_ble_eq_true rfl) ?_
      rw [nI_clamp (by omega), nu_stepF hc]
      refine rr_putf d_Mo_step_279 fl_Mo_80 rfl rfl rfl rfl ?_
      refine rr_aload_n d_Mo_step_282 rfl rfl ?_
      refine rr_dup d_Mo_step_283 rfl ?_
      refine rr_getf d_Mo_step_284 fl_Mo_40 rfl rfl ?_
      refine rr_iconst 1 d_Mo_step_287 rfl ?_
      refine rr_iadd d_Mo_step_288 ?_
      refine rr_putf d_Mo_step_289 fl_Mo_40 rfl rfl rfl rfl ?_
      refine rr_goto 223 d_Mo_step_292 (by decide) ?_
      rw [nI_1]
      exact ih (p + 1) _ (by omega) K
    · simp only [if_neg hc] at K
      rw [(Bool.not_eq_true _).mp hc]
      refine rr_if_eq 295 d_Mo_step_246 (by decide) (fun _ => ?_) (fun c9 => absurd (rfl) c9)
      exact K
