/-! The law: its loop, and its start. -/

set_option maxRecDepth 100000 in
set_option maxHeartbeats 4000000 in
theorem lw_loop {L : Nat} {xs : Nat → Int32} (hL : L ≤ 3072) : ∀ (m it : Nat), L < 6 * (it + m) + 6 → it ≤ 512 → lw_P0 L xs (40 + it) (20000 + 1600 * it) (6 * it) ∧ lw_P1 L xs (40 + it) (20000 + 1600 * it) (6 * it) := by
  have hle : ∀ it : Nat, Int32.ofNat L - 6 < nI (6 * it) ∨ 6 * it ≤ L → True := fun _ _ => trivial
  intro m
  induction m with
  | zero =>
    intro it hm h512
    refine ⟨?_, ?_⟩
    · intro n r g us f fc fk fv fp ck0 cv0 re0 fs ec ev cc cf cb ck cv re be cd mst fo go a0 p0 tz s0 u0 hg ef s1 at0 sz kd0 fr0 to0 fa pa my pcv nu hI hJ
      obtain ⟨hn, hr, hlg, hco, hgu⟩ := id hI
      have eT : (Int32.ofNat L - 6 : Int32).toInt = (L : Int) - 6 := pk_sub_toInt (a := L) (b := 6) (by omega) (by decide)
      have eU : (nI (6 * it)).toInt = ((6 * it : Nat) : Int) := nI_toInt (by omega)
      refine rr_iload_n d_La_law_18 rfl rfl ?_
      refine rr_aload_n d_La_law_19 rfl rfl ?_
      refine rr_slen2 rfl d_La_law_20 ?_
      refine rr_bipush 6 d_La_law_21 rfl ?_
      refine rr_isub d_La_law_23 ?_
      refine rr_icmp_gt 311 d_La_law_24 (by decide) (fun hc => ?_) (fun hc => ?_)
      · skip
        refine rr_iconst 1 d_La_law_311 rfl ?_
        exact rr_ireturn d_La_law_312 rfl rfl (by show _ ≤ 600000; omega) (by show _ ≤ 7302250; omega) (rfl)
      · rw [Int32.lt_iff_toInt_lt, eT, eU] at hc
        exfalso
        omega
    · intro n r g us f fc fk fv fp ck0 cv0 re0 fs ec ev cc cf cb ck cv re be cd mst fo go a0 p0 tz s0 u0 hg ef s1 at0 sz kd0 fr0 to0 fa pa my pcv nu c hI hJ
      obtain ⟨hn, hr, hlg, hco, hgu⟩ := id hI
      have eT : (Int32.ofNat L - 6 : Int32).toInt = (L : Int) - 6 := pk_sub_toInt (a := L) (b := 6) (by omega) (by decide)
      have eU : (nI (6 * it)).toInt = ((6 * it : Nat) : Int) := nI_toInt (by omega)
      refine rr_iload_n d_La_law_18 rfl rfl ?_
      refine rr_aload_n d_La_law_19 rfl rfl ?_
      refine rr_slen2 rfl d_La_law_20 ?_
      refine rr_bipush 6 d_La_law_21 rfl ?_
      refine rr_isub d_La_law_23 ?_
      refine rr_icmp_gt 311 d_La_law_24 (by decide) (fun hc => ?_) (fun hc => ?_)
      · skip
        refine rr_iconst 1 d_La_law_311 rfl ?_
        exact rr_ireturn d_La_law_312 rfl rfl (by show _ ≤ 600000; omega) (by show _ ≤ 7302250; omega) (rfl)
      · rw [Int32.lt_iff_toInt_lt, eT, eU] at hc
        exfalso
        omega
  | succ m ih =>
    intro it hm h512
    refine ⟨?_, ?_⟩
    · intro n r g us f fc fk fv fp ck0 cv0 re0 fs ec ev cc cf cb ck cv re be cd mst fo go a0 p0 tz s0 u0 hg ef s1 at0 sz kd0 fr0 to0 fa pa my pcv nu hI hJ
      obtain ⟨hn, hr, hlg, hco, hgu⟩ := id hI
      have eT : (Int32.ofNat L - 6 : Int32).toInt = (L : Int) - 6 := pk_sub_toInt (a := L) (b := 6) (by omega) (by decide)
      have eU : (nI (6 * it)).toInt = ((6 * it : Nat) : Int) := nI_toInt (by omega)
      refine rr_iload_n d_La_law_18 rfl rfl ?_
      refine rr_aload_n d_La_law_19 rfl rfl ?_
      refine rr_slen2 rfl d_La_law_20 ?_
      refine rr_bipush 6 d_La_law_21 rfl ?_
      refine rr_isub d_La_law_23 ?_
      refine rr_icmp_gt 311 d_La_law_24 (by decide) (fun hc => ?_) (fun hc => ?_)
      · skip
        refine rr_iconst 1 d_La_law_311 rfl ?_
        exact rr_ireturn d_La_law_312 rfl rfl (by show _ ≤ 600000; omega) (by show _ ≤ 7302250; omega) (rfl)
      · rw [Int32.lt_iff_toInt_lt, eT, eU] at hc
        have hi : 6 * it + 6 ≤ L := by omega
        obtain ⟨k0, k1⟩ := ih (it + 1) (by omega) (by omega)
        rw [show 20000 + 1600 * (it + 1) = 20000 + 1600 * it + 1600 by omega, show 6 * (it + 1) = 6 * it + 6 by omega, show 40 + (it + 1) = 40 + it + 1 by omega] at k0 k1
        refine rr_aload_n d_La_law_27 rfl rfl ?_
        refine rr_iload_n d_La_law_28 rfl rfl ?_
        refine rr_sld rfl d_La_law_29 (vp_in_nI (n := 6 * it) (by omega) (by omega)) ?_
        refine rr_bipush 7 d_La_law_30 rfl ?_
        refine rr_iand d_La_law_32 ?_
        obtain ⟨j, hj, ej⟩ := pk_andE (xs (nI (6 * it)).toNatClampNeg) (m := 7) 3 (by decide)
        rw [ej]
        have hj8 : j = 0 ∨ j = 1 ∨ j = 2 ∨ j = 3 ∨ j = 4 ∨ j = 5 ∨ j = 6 ∨ j = 7 := by omega
        rcases hj8 with rfl | rfl | rfl | rfl | rfl | rfl | rfl | rfl
        · refine rr_tin 80 47 d_La_law_33 (by decide) (by decide) (by decide) (by decide) ?_
          exact rr_lvs _ rfl (lw_feed0 hL hi k0 k1 hI hJ)
        · refine rr_tin 143 110 d_La_law_33 (by decide) (by decide) (by decide) (by decide) ?_
          exact rr_lvs _ rfl (lw_end0 hL hi k0 k1 hI hJ)
        · refine rr_tin 166 133 d_La_law_33 (by decide) (by decide) (by decide) (by decide) ?_
          exact rr_lvs _ rfl (lw_prog0 hL hi k0 k1 hI hJ)
        · refine rr_tin 179 146 d_La_law_33 (by decide) (by decide) (by decide) (by decide) ?_
          exact rr_lvs _ rfl (lw_run0 hL hi k0 k1 hI hJ)
        · refine rr_tin 212 179 d_La_law_33 (by decide) (by decide) (by decide) (by decide) ?_
          exact rr_lvs _ rfl (lw_undo0 hL hi k0 k1 hI hJ)
        · refine rr_tin 225 192 d_La_law_33 (by decide) (by decide) (by decide) (by decide) ?_
          exact rr_lvs _ rfl (lw_cell0 hL hi k0 k1 hI hJ)
        · refine rr_tin 249 216 d_La_law_33 (by decide) (by decide) (by decide) (by decide) ?_
          exact rr_lvs _ rfl (lw_set0 hL hi k0 k1 hI hJ)
        · refine rr_tin 282 249 d_La_law_33 (by decide) (by decide) (by decide) (by decide) ?_
          exact rr_lvs _ rfl (lw_count0 hL hi k0 k1 hI hJ)
    · intro n r g us f fc fk fv fp ck0 cv0 re0 fs ec ev cc cf cb ck cv re be cd mst fo go a0 p0 tz s0 u0 hg ef s1 at0 sz kd0 fr0 to0 fa pa my pcv nu c hI hJ
      obtain ⟨hn, hr, hlg, hco, hgu⟩ := id hI
      have eT : (Int32.ofNat L - 6 : Int32).toInt = (L : Int) - 6 := pk_sub_toInt (a := L) (b := 6) (by omega) (by decide)
      have eU : (nI (6 * it)).toInt = ((6 * it : Nat) : Int) := nI_toInt (by omega)
      refine rr_iload_n d_La_law_18 rfl rfl ?_
      refine rr_aload_n d_La_law_19 rfl rfl ?_
      refine rr_slen2 rfl d_La_law_20 ?_
      refine rr_bipush 6 d_La_law_21 rfl ?_
      refine rr_isub d_La_law_23 ?_
      refine rr_icmp_gt 311 d_La_law_24 (by decide) (fun hc => ?_) (fun hc => ?_)
      · skip
        refine rr_iconst 1 d_La_law_311 rfl ?_
        exact rr_ireturn d_La_law_312 rfl rfl (by show _ ≤ 600000; omega) (by show _ ≤ 7302250; omega) (rfl)
      · rw [Int32.lt_iff_toInt_lt, eT, eU] at hc
        have hi : 6 * it + 6 ≤ L := by omega
        obtain ⟨k0, k1⟩ := ih (it + 1) (by omega) (by omega)
        rw [show 20000 + 1600 * (it + 1) = 20000 + 1600 * it + 1600 by omega, show 6 * (it + 1) = 6 * it + 6 by omega, show 40 + (it + 1) = 40 + it + 1 by omega] at k0 k1
        refine rr_aload_n d_La_law_27 rfl rfl ?_
        refine rr_iload_n d_La_law_28 rfl rfl ?_
        refine rr_sld rfl d_La_law_29 (vp_in_nI (n := 6 * it) (by omega) (by omega)) ?_
        refine rr_bipush 7 d_La_law_30 rfl ?_
        refine rr_iand d_La_law_32 ?_
        obtain ⟨j, hj, ej⟩ := pk_andE (xs (nI (6 * it)).toNatClampNeg) (m := 7) 3 (by decide)
        rw [ej]
        have hj8 : j = 0 ∨ j = 1 ∨ j = 2 ∨ j = 3 ∨ j = 4 ∨ j = 5 ∨ j = 6 ∨ j = 7 := by omega
        rcases hj8 with rfl | rfl | rfl | rfl | rfl | rfl | rfl | rfl
        · refine rr_tin 80 47 d_La_law_33 (by decide) (by decide) (by decide) (by decide) ?_
          exact rr_lvs _ rfl (lw_feed1 hL hi k0 k1 hI hJ)
        · refine rr_tin 143 110 d_La_law_33 (by decide) (by decide) (by decide) (by decide) ?_
          exact rr_lvs _ rfl (lw_end1 hL hi k0 k1 hI hJ)
        · refine rr_tin 166 133 d_La_law_33 (by decide) (by decide) (by decide) (by decide) ?_
          exact rr_lvs _ rfl (lw_prog1 hL hi k0 k1 hI hJ)
        · refine rr_tin 179 146 d_La_law_33 (by decide) (by decide) (by decide) (by decide) ?_
          exact rr_lvs _ rfl (lw_run1 hL hi k0 k1 hI hJ)
        · refine rr_tin 212 179 d_La_law_33 (by decide) (by decide) (by decide) (by decide) ?_
          exact rr_lvs _ rfl (lw_undo1 hL hi k0 k1 hI hJ)
        · refine rr_tin 225 192 d_La_law_33 (by decide) (by decide) (by decide) (by decide) ?_
          exact rr_lvs _ rfl (lw_cell1 hL hi k0 k1 hI hJ)
        · refine rr_tin 249 216 d_La_law_33 (by decide) (by decide) (by decide) (by decide) ?_
          exact rr_lvs _ rfl (lw_set1 hL hi k0 k1 hI hJ)
        · refine rr_tin 282 249 d_La_law_33 (by decide) (by decide) (by decide) (by decide) ?_
          exact rr_lvs _ rfl (lw_count1 hL hi k0 k1 hI hJ)

set_option maxRecDepth 100000 in
set_option maxHeartbeats 4000000 in
theorem lw_main {L : Nat} {xs : Nat → Int32} (hL : L ≤ 3072) : rr_A R_La code 4 ret (false, some (L, xs)) room_1 lw_Q1 0 0 0 [(0, .ref (rr_K0 + 200))] [] ([]) := by
  refine rr_new d_La_law_0 nl_La_7 (Nat.le_of_ble_eq_true rfl) (Nat.le_of_ble_eq_true rfl) (Nat.le_of_ble_eq_true rfl) ?_
  refine rr_dup d_La_law_3 rfl ?_
  refine rr_callI d_La_law_4 il_La_9 m_Ru_init (s_Ru_init) rfl rfl (Nat.le_of_ble_eq_true rfl) (Nat.le_of_ble_eq_true rfl) (Nat.le_of_ble_eq_true rfl) (Nat.le_of_ble_eq_true rfl) (Nat.le_of_ble_eq_true rfl) (fun rv9 hp9 hq => ?_)
  obtain ⟨rfl, rfl⟩ := hq
  refine rr_astore_n d_La_law_7 rfl (by decide) ?_
  refine rr_new d_La_law_8 nl_La_10 (Nat.le_of_ble_eq_true rfl) (Nat.le_of_ble_eq_true rfl) (Nat.le_of_ble_eq_true rfl) ?_
  refine rr_dup d_La_law_11 rfl ?_
  refine rr_callI d_La_law_12 il_La_12 m_Mo_init (s_Mo_init) rfl rfl (Nat.le_of_ble_eq_true rfl) (Nat.le_of_ble_eq_true rfl) (Nat.le_of_ble_eq_true rfl) (Nat.le_of_ble_eq_true rfl) (Nat.le_of_ble_eq_true rfl) (fun rv9 hp9 hq => ?_)
  obtain ⟨rfl, rfl⟩ := hq
  refine rr_astore_n d_La_law_15 rfl (by decide) ?_
  refine rr_iconst 0 d_La_law_16 rfl ?_
  refine rr_istore_n d_La_law_17 rfl (by decide) ?_
  refine rr_lvs [(3, .int (nI (6 * 0))), (2, .ref 24), (1, .ref 0), (0, .ref (rr_K0 + 200))] rfl (rr_widen (kc' := 40 + 0) (ks' := 20000 + 1600 * 0) (by decide) (by decide) ?_)
  exact (lw_loop hL 512 0 (by omega) (by decide)).1 0 0 0 [] (fun _ => 0) (fun _ => 0) (fun _ => 0) (fun _ => 0) (fun _ => 0) (fun _ => 0) (fun _ => 0) (fun _ => 0) (fun _ => 0) (fun _ => 0) (fun _ => 0) (fun _ => 0) (fun _ => 0) (fun _ => 0) (fun _ => 0) (fun _ => 0) (fun _ => 0) (fun _ => 0) (fun _ => 0) (fun _ => 0) (fun _ => 0) (fun _ => 0) 0 0 0 0 0 0 0 0 0 0 0 0 0 0 0 0 0 0 ⟨by decide, by decide, rfl, ⟨by decide, by decide, fun i q h => by simp at h, fun i hi => absurd hi (Nat.not_lt_zero i)⟩, fun u hu => by cases hu⟩ rfl
