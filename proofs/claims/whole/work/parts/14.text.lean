/-! The texts' own methods. -/
def sp_ch (j i : Nat) : Int32 := (rr_byt.getD j []).getD i 0
theorem sp_ch_ok : ∀ j, j < 18 → ∀ i, i < 6 → (((sp_ch j i &&& 255).toUInt32 % 65536).toInt32 = sp_ch j i ∧ narrow .char (.int (sp_ch j i)) = .int (sp_ch j i)) := by decide +kernel
theorem sp_len_ok : ∀ j, j < 18 → rr_len.getD j 0 ≤ 6 := by decide +kernel

set_option maxRecDepth 100000 in
set_option maxHeartbeats 4000000 in
theorem s_St_coder {h : rr_H} {j : Nat} (hj : j < rr_nS) : rr_Spec 0 y_St_coder c_St_coder 1 (some .byte) 0 0 [.ref (rr_K0 + j)] (h) (fun r h1 => r = some (.int 0) ∧ h1 = h) := by
  refine rr_met (own := R_St) (kd := (false, none)) (by decide +kernel) rfl (fun h => by cases h) rfl (Nat.le_of_ble_eq_true rfl) ?_
  refine rr_getsC d_St_coder_0 fs_St_38 ?_
  refine rr_if_eq 13 d_St_coder_3 (by decide) (fun c9 => absurd c9 (by decide)) (fun _ => ?_)
  refine rr_aload_n d_St_coder_6 rfl rfl ?_
  refine rr_getSc d_St_coder_7 fs_St_15 (hj) ?_
  refine rr_goto 14 d_St_coder_10 (by decide) ?_
  exact rr_ireturn d_St_coder_14 rfl rfl (Nat.le_of_ble_eq_true rfl) (Nat.le_of_ble_eq_true rfl) (⟨rfl, rfl⟩)

set_option maxRecDepth 100000 in
set_option maxHeartbeats 4000000 in
theorem s_St_isLatin1 {h : rr_H} {j : Nat} (hj : j < rr_nS) : rr_Spec 0 y_St_isLatin1 c_St_isLatin1 1 (some .boolean) 0 0 [.ref (rr_K0 + j)] (h) (fun r h1 => r = some (.int 1) ∧ h1 = h) := by
  refine rr_met (own := R_St) (kd := (false, none)) (by decide +kernel) rfl (fun h => by cases h) rfl (Nat.le_of_ble_eq_true rfl) ?_
  refine rr_getsC d_St_isLatin1_0 fs_St_38 ?_
  refine rr_if_eq 17 d_St_isLatin1_3 (by decide) (fun c9 => absurd c9 (by decide)) (fun _ => ?_)
  refine rr_aload_n d_St_isLatin1_6 rfl rfl ?_
  refine rr_getSc d_St_isLatin1_7 fs_St_15 (hj) ?_
  refine rr_if_ne 17 d_St_isLatin1_10 (by decide) (fun c9 => absurd (rfl) c9) (fun _ => ?_)
  refine rr_iconst 1 d_St_isLatin1_13 rfl ?_
  refine rr_goto 18 d_St_isLatin1_14 (by decide) ?_
  exact rr_ireturn d_St_isLatin1_18 rfl rfl (Nat.le_of_ble_eq_true rfl) (Nat.le_of_ble_eq_true rfl) (⟨rfl, rfl⟩)

set_option maxRecDepth 100000 in
set_option maxHeartbeats 4000000 in
theorem s_St_length {h : rr_H} {j : Nat} (hj : j < rr_nS) : rr_Spec 1 y_St_length c_St_length 1 (some .int) 0 0 [.ref (rr_K0 + j)] (h) (fun r h1 => r = some (.int (nI (rr_len.getD j 0))) ∧ h1 = h) := by
  refine rr_met (own := R_St) (kd := (false, none)) (by decide +kernel) rfl (fun h => by cases h) rfl (Nat.le_of_ble_eq_true rfl) ?_
  refine rr_aload_n d_St_length_0 rfl rfl ?_
  refine rr_getSv d_St_length_1 fs_St_9 (hj) ?_
  refine rr_lenS d_St_length_4 (hj) ?_
  refine rr_aload_n d_St_length_5 rfl rfl ?_
  refine rr_callS0 d_St_length_6 il_St_335 m_St_coder (s_St_coder hj) hj rfl rfl rfl (Nat.le_of_ble_eq_true rfl) (Nat.le_of_ble_eq_true rfl) (Nat.le_of_ble_eq_true rfl) (Nat.le_of_ble_eq_true rfl) (Nat.le_of_ble_eq_true rfl) (fun r h1 hq => ?_)
  obtain ⟨rfl, rfl⟩ := hq
  refine rr_ishr d_St_length_9 ?_
  have e : Int32.ofNat (rr_len.getD j 0) >>> ((0 : Int32) &&& 31) = nI (rr_len.getD j 0) := sb_shr0 _
  exact rr_ireturn d_St_length_10 rfl rfl (Nat.le_of_ble_eq_true rfl) (Nat.le_of_ble_eq_true rfl) (⟨by rw [e], rfl⟩)

set_option maxRecDepth 100000 in
set_option maxHeartbeats 4000000 in
theorem s_Pr_checkIndex {h : rr_H} {i j : Nat} {v : Value} (hj : j < rr_nS) (hi : i < rr_len.getD j 0) (hv : v = .null ∨ v = .ref (rr_K0 + 300)) : rr_Spec 0 y_Pr_checkIndex c_Pr_checkIndex 3 (some .int) 0 0 [.int (nI i), .int (nI (rr_len.getD j 0)), v] (h) (fun r h1 => r = some (.int (nI i)) ∧ h1 = h) := by
  have h6 := sp_len_ok j hj
  rcases hv with rfl | rfl
  · refine rr_met (own := R_Pr) (kd := (false, none)) (by decide +kernel) rfl (fun h => by cases h) rfl (Nat.le_of_ble_eq_true rfl) ?_
    refine rr_iload_n d_Pr_checkIndex_0 rfl rfl ?_
    refine rr_if_lt 9 d_Pr_checkIndex_1 (by decide) (fun c9 => absurd c9 (nI_pos (by omega))) (fun _ => ?_)
    refine rr_iload_n d_Pr_checkIndex_4 rfl rfl ?_
    refine rr_iload_n d_Pr_checkIndex_5 rfl rfl ?_
    refine rr_icmp_lt 16 d_Pr_checkIndex_6 (by decide) (fun _ => ?_) (fun c9 => absurd (nI_lt hi (by omega)) c9)
    refine rr_iload_n d_Pr_checkIndex_16 rfl rfl ?_
    exact rr_ireturn d_Pr_checkIndex_17 rfl rfl (Nat.le_of_ble_eq_true rfl) (Nat.le_of_ble_eq_true rfl) (⟨rfl, rfl⟩)
  · refine rr_met (own := R_Pr) (kd := (false, none)) (by decide +kernel) rfl (fun h => by cases h) rfl (Nat.le_of_ble_eq_true rfl) ?_
    refine rr_iload_n d_Pr_checkIndex_0 rfl rfl ?_
    refine rr_if_lt 9 d_Pr_checkIndex_1 (by decide) (fun c9 => absurd c9 (nI_pos (by omega))) (fun _ => ?_)
    refine rr_iload_n d_Pr_checkIndex_4 rfl rfl ?_
    refine rr_iload_n d_Pr_checkIndex_5 rfl rfl ?_
    refine rr_icmp_lt 16 d_Pr_checkIndex_6 (by decide) (fun _ => ?_) (fun c9 => absurd (nI_lt hi (by omega)) c9)
    refine rr_iload_n d_Pr_checkIndex_16 rfl rfl ?_
    exact rr_ireturn d_Pr_checkIndex_17 rfl rfl (Nat.le_of_ble_eq_true rfl) (Nat.le_of_ble_eq_true rfl) (⟨rfl, rfl⟩)

set_option maxRecDepth 100000 in
set_option maxHeartbeats 4000000 in
theorem s_St_checkIndex {h : rr_H} {i j : Nat} (hj : j < rr_nS) (hi : i < rr_len.getD j 0) : rr_Spec 1 y_St_checkIndex c_St_checkIndex 2 none 0 0 [.int (nI i), .int (nI (rr_len.getD j 0))] (h) (fun r h1 => r = none ∧ h1 = h) := by
  refine rr_met (own := R_St) (kd := (false, none)) (by decide +kernel) rfl (fun h => by cases h) rfl (Nat.le_of_ble_eq_true rfl) ?_
  refine rr_iload_n d_St_checkIndex_0 rfl rfl ?_
  refine rr_iload_n d_St_checkIndex_1 rfl rfl ?_
  refine rr_getsF d_St_checkIndex_2 fs_St_1053 (fun v hv => ?_)
  refine rr_callS d_St_checkIndex_5 il_St_1059 m_Pr_checkIndex (s_Pr_checkIndex hj hi hv) rfl rfl (Nat.le_of_ble_eq_true rfl) (Nat.le_of_ble_eq_true rfl) (Nat.le_of_ble_eq_true rfl) (Nat.le_of_ble_eq_true rfl) (Nat.le_of_ble_eq_true rfl) (fun r h1 hq => ?_)
  obtain ⟨rfl, rfl⟩ := hq
  refine rr_pop d_St_checkIndex_8 rfl ?_
  exact rr_return d_St_checkIndex_9 rfl (Nat.le_of_ble_eq_true rfl) (Nat.le_of_ble_eq_true rfl) (⟨rfl, rfl⟩)

set_option maxRecDepth 100000 in
set_option maxHeartbeats 4000000 in
theorem s_Sl_charAt {h : rr_H} {i j : Nat} (hj : j < rr_nS) (hi : i < rr_len.getD j 0) : rr_Spec 2 y_Sl_charAt c_Sl_charAt 2 (some .char) 0 0 [.ref (rr_K0 + (100 + j)), .int (nI i)] (h) (fun r h1 => r = some (.int (sp_ch j i)) ∧ h1 = h) := by
  have h6 := sp_len_ok j hj
  obtain ⟨e1, e2⟩ := sp_ch_ok j hj i (by omega)
  refine rr_met (own := R_Sl) (kd := (false, none)) (by decide +kernel) rfl (fun h => by cases h) rfl (Nat.le_of_ble_eq_true rfl) ?_
  refine rr_iload_n d_Sl_charAt_0 rfl rfl ?_
  refine rr_aload_n d_Sl_charAt_1 rfl rfl ?_
  refine rr_lenS d_Sl_charAt_2 (hj) ?_
  refine rr_callS d_Sl_charAt_3 il_Sl_9 m_St_checkIndex (s_St_checkIndex hj hi) rfl rfl (Nat.le_of_ble_eq_true rfl) (Nat.le_of_ble_eq_true rfl) (Nat.le_of_ble_eq_true rfl) (Nat.le_of_ble_eq_true rfl) (Nat.le_of_ble_eq_true rfl) (fun r h1 hq => ?_)
  obtain ⟨rfl, rfl⟩ := hq
  refine rr_aload_n d_Sl_charAt_6 rfl rfl ?_
  refine rr_iload_n d_Sl_charAt_7 rfl rfl ?_
  refine rr_baldS d_Sl_charAt_8 (hj) (vp_in_nI hi (by omega)) ?_
  refine rr_sipush 255 d_Sl_charAt_9 rfl ?_
  refine rr_iand d_Sl_charAt_12 ?_
  refine rr_i2c d_Sl_charAt_13 ?_
  rw [nI_clamp (by omega), show (rr_byt.getD j []).getD i 0 = sp_ch j i from rfl, e1]
  exact rr_ireturn d_Sl_charAt_14 rfl e2 (Nat.le_of_ble_eq_true rfl) (Nat.le_of_ble_eq_true rfl) (⟨rfl, rfl⟩)

set_option maxRecDepth 100000 in
set_option maxHeartbeats 4000000 in
theorem s_St_charAt {h : rr_H} {i j : Nat} (hj : j < rr_nS) (hi : i < rr_len.getD j 0) : rr_Spec 3 y_St_charAt c_St_charAt 2 (some .char) 0 0 [.ref (rr_K0 + j), .int (nI i)] (h) (fun r h1 => r = some (.int (sp_ch j i)) ∧ h1 = h) := by
  have h6 := sp_len_ok j hj
  obtain ⟨e1, e2⟩ := sp_ch_ok j hj i (by omega)
  refine rr_met (own := R_St) (kd := (false, none)) (by decide +kernel) rfl (fun h => by cases h) rfl (Nat.le_of_ble_eq_true rfl) ?_
  refine rr_aload_n d_St_charAt_0 rfl rfl ?_
  refine rr_callS0 d_St_charAt_1 il_St_492 m_St_isLatin1 (s_St_isLatin1 hj) hj rfl rfl rfl (Nat.le_of_ble_eq_true rfl) (Nat.le_of_ble_eq_true rfl) (Nat.le_of_ble_eq_true rfl) (Nat.le_of_ble_eq_true rfl) (Nat.le_of_ble_eq_true rfl) (fun r h1 hq => ?_)
  obtain ⟨rfl, rfl⟩ := hq
  refine rr_if_eq 16 d_St_charAt_4 (by decide) (fun c9 => absurd c9 (by decide)) (fun _ => ?_)
  refine rr_aload_n d_St_charAt_7 rfl rfl ?_
  refine rr_getSv d_St_charAt_8 fs_St_9 (hj) ?_
  refine rr_iload_n d_St_charAt_11 rfl rfl ?_
  refine rr_callS d_St_charAt_12 il_St_495 m_Sl_charAt (s_Sl_charAt hj hi) rfl rfl (Nat.le_of_ble_eq_true rfl) (Nat.le_of_ble_eq_true rfl) (Nat.le_of_ble_eq_true rfl) (Nat.le_of_ble_eq_true rfl) (Nat.le_of_ble_eq_true rfl) (fun r h1 hq => ?_)
  obtain ⟨rfl, rfl⟩ := hq
  exact rr_ireturn d_St_charAt_15 rfl e2 (Nat.le_of_ble_eq_true rfl) (Nat.le_of_ble_eq_true rfl) (⟨rfl, rfl⟩)
