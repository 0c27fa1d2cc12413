/-! The reference: a program. -/
/-- where the i-th rule begins -/
def mdp (us : List sp_U) : Nat := 7 + (us.flatMap enU).length
/-- a row that holds a program, for the reference -/
def md_is (us : List sp_U) (c : Nat → Int32) : Prop := c 0 = nI us.length ∧ (∀ i, i < us.length → c (i + 1) = nI (mdp (us.take i))) ∧ hd_ c 7 (us.flatMap enU)

set_option maxRecDepth 100000 in
set_option maxHeartbeats 4000000 in
theorem s_Ar_copyOf_0 {x0 x1 x2 x3 x4 x5 x6 x7 x8 x9 x10 x11 x12 x13 x14 x15 x16 x17 x18 x19 x20 x21 x22 x23 x24 x25 x26 x28 x29 x30 x31 : va_E} {cd : Nat → Int32} {y : Nat} (hy : y < 1600) : rr_Spec 1 y_Ar_copyOf c_Ar_copyOf 3 (some (.array .int)) 1 1600 [.ref 27, .int (nI y)] (x0 :: x1 :: x2 :: x3 :: x4 :: x5 :: x6 :: x7 :: x8 :: x9 :: x10 :: x11 :: x12 :: x13 :: x14 :: x15 :: x16 :: x17 :: x18 :: x19 :: x20 :: x21 :: x22 :: x23 :: x24 :: x25 :: x26 :: .inl (0, 1600, .inl cd) :: x28 :: x29 :: x30 :: x31 :: []) (fun r h1 => r = some (.ref 32) ∧ h1 = x0 :: x1 :: x2 :: x3 :: x4 :: x5 :: x6 :: x7 :: x8 :: x9 :: x10 :: x11 :: x12 :: x13 :: x14 :: x15 :: x16 :: x17 :: x18 :: x19 :: x20 :: x21 :: x22 :: x23 :: x24 :: x25 :: x26 :: .inl (0, 1600, .inl cd) :: x28 :: x29 :: x30 :: x31 :: .inl (0, y, .inl (va_cpy cd (fun _ => 0) 0 0 y)) :: []) := by
  refine rr_met (own := R_Ar) (kd := (false, none)) (by decide +kernel) rfl (fun h => by cases h) rfl (Nat.le_of_ble_eq_true rfl) ?_
  refine rr_iload_n d_Ar_copyOf_0 rfl rfl ?_
  refine rr_aload_n d_Ar_copyOf_1 rfl rfl ?_
  refine rr_alen d_Ar_copyOf_2 rfl (by decide) ?_
  refine rr_icmp_ne 14 d_Ar_copyOf_3 (by decide) (fun _ => ?_) (fun c9 => absurd c9 (fun z => absurd ((nI_eq (b := 1600) (by omega) (by decide)).mp z) (by omega)))
  refine rr_iload_n d_Ar_copyOf_14 rfl rfl ?_
  refine rr_newI y d_Ar_copyOf_15 (nI_pos (by omega)) (nI_clamp (by omega)) (by omega) (Nat.le_of_ble_eq_true rfl) (by dsimp only; omega) (Nat.le_of_ble_eq_true rfl) ?_
  refine rr_astore_n d_Ar_copyOf_17 rfl (by decide) ?_
  refine rr_aload_n d_Ar_copyOf_18 rfl rfl ?_
  refine rr_iconst 0 d_Ar_copyOf_19 rfl ?_
  refine rr_aload_n d_Ar_copyOf_20 rfl rfl ?_
  refine rr_iconst 0 d_Ar_copyOf_21 rfl ?_
  refine rr_aload_n d_Ar_copyOf_22 rfl rfl ?_
  refine rr_alen d_Ar_copyOf_23 rfl (by decide) ?_
  refine rr_iload_n d_Ar_copyOf_24 rfl rfl ?_
  refine rr_minI d_Ar_copyOf_25 ml_Ar_304 (Nat.le_of_ble_eq_true rfl) (Nat.le_of_ble_eq_true rfl) (Nat.le_of_ble_eq_true rfl) (by dsimp only; omega) ?_
  rw [if_pos (show nI y < Int32.ofNat 1600 from nI_lt (b := 1600) hy (by decide))]
  refine rr_copyI d_Ar_copyOf_28 sy_Ar_150 rfl rfl (by decide) (by decide) (nI_pos (by omega)) (by rw [nI_clamp (by omega)]; show 0 + y ≤ 1600; omega) (by rw [nI_clamp (by omega)]; show 0 + y ≤ y; omega) (Nat.le_of_ble_eq_true rfl) (Nat.le_of_ble_eq_true rfl) ?_
  rw [nI_clamp (by omega)]
  refine rr_aload_n d_Ar_copyOf_31 rfl rfl ?_
  exact rr_areturn d_Ar_copyOf_32 rfl (Or.inr ⟨_, rfl⟩) (Nat.le_of_ble_eq_true rfl) (by dsimp only; omega) (⟨rfl, rfl⟩)

set_option maxRecDepth 100000 in
set_option maxHeartbeats 4000000 in
theorem s_Ar_copyOf_1 {x0 x1 x2 x3 x4 x5 x6 x7 x8 x9 x10 x11 x12 x13 x14 x15 x16 x17 x18 x19 x20 x21 x22 x23 x24 x25 x26 x28 x29 x30 x31 x32 : va_E} {cd : Nat → Int32} {y : Nat} (hy : y < 1600) : rr_Spec 1 y_Ar_copyOf c_Ar_copyOf 3 (some (.array .int)) 1 1600 [.ref 27, .int (nI y)] (x0 :: x1 :: x2 :: x3 :: x4 :: x5 :: x6 :: x7 :: x8 :: x9 :: x10 :: x11 :: x12 :: x13 :: x14 :: x15 :: x16 :: x17 :: x18 :: x19 :: x20 :: x21 :: x22 :: x23 :: x24 :: x25 :: x26 :: .inl (0, 1600, .inl cd) :: x28 :: x29 :: x30 :: x31 :: x32 :: []) (fun r h1 => r = some (.ref 33) ∧ h1 = x0 :: x1 :: x2 :: x3 :: x4 :: x5 :: x6 :: x7 :: x8 :: x9 :: x10 :: x11 :: x12 :: x13 :: x14 :: x15 :: x16 :: x17 :: x18 :: x19 :: x20 :: x21 :: x22 :: x23 :: x24 :: x25 :: x26 :: .inl (0, 1600, .inl cd) :: x28 :: x29 :: x30 :: x31 :: x32 :: .inl (0, y, .inl (va_cpy cd (fun _ => 0) 0 0 y)) :: []) := by
  refine rr_met (own := R_Ar) (kd := (false, none)) (by decide +kernel) rfl (fun h => by cases h) rfl (Nat.le_of_ble_eq_true rfl) ?_
  refine rr_iload_n d_Ar_copyOf_0 rfl rfl ?_
  refine rr_aload_n d_Ar_copyOf_1 rfl rfl ?_
  refine rr_alen d_Ar_copyOf_2 rfl (by decide) ?_
  refine rr_icmp_ne 14 d_Ar_copyOf_3 (by decide) (fun _ => ?_) (fun c9 => absurd c9 (fun z => absurd ((nI_eq (b := 1600) (by omega) (by decide)).mp z) (by omega)))
  refine rr_iload_n d_Ar_copyOf_14 rfl rfl ?_
  refine rr_newI y d_Ar_copyOf_15 (nI_pos (by omega)) (nI_clamp (by omega)) (by omega) (Nat.le_of_ble_eq_true rfl) (by dsimp only; omega) (Nat.le_of_ble_eq_true rfl) ?_
  refine rr_astore_n d_Ar_copyOf_17 rfl (by decide) ?_
  refine rr_aload_n d_Ar_copyOf_18 rfl rfl ?_
  refine rr_iconst 0 d_Ar_copyOf_19 rfl ?_
  refine rr_aload_n d_Ar_copyOf_20 rfl rfl ?_
  refine rr_iconst 0 d_Ar_copyOf_21 rfl ?_
  refine rr_aload_n d_Ar_copyOf_22 rfl rfl ?_
  refine rr_alen d_Ar_copyOf_23 rfl (by decide) ?_
  refine rr_iload_n d_Ar_copyOf_24 rfl rfl ?_
  refine rr_minI d_Ar_copyOf_25 ml_Ar_304 (Nat.le_of_ble_eq_true rfl) (Nat.le_of_ble_eq_true rfl) (Nat.le_of_ble_eq_true rfl) (by dsimp only; omega) ?_
  rw [if_pos (show nI y < Int32.ofNat 1600 from nI_lt (b := 1600) hy (by decide))]
  refine rr_copyI d_Ar_copyOf_28 sy_Ar_150 rfl rfl (by decide) (by decide) (nI_pos (by omega)) (by rw [nI_clamp (by omega)]; show 0 + y ≤ 1600; omega) (by rw [nI_clamp (by omega)]; show 0 + y ≤ y; omega) (Nat.le_of_ble_eq_true rfl) (Nat.le_of_ble_eq_true rfl) ?_
  rw [nI_clamp (by omega)]
  refine rr_aload_n d_Ar_copyOf_31 rfl rfl ?_
  exact rr_areturn d_Ar_copyOf_32 rfl (Or.inr ⟨_, rfl⟩) (Nat.le_of_ble_eq_true rfl) (by dsimp only; omega) (⟨rfl, rfl⟩)
