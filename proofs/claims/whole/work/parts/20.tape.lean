/-- a byte is put -/
def ta_b (x s : Int32) : Int32 := vp_nar .byte (x >>> (s &&& 31)).toInt8.toInt32
def ta_4 (f : Nat → Int32) (n : Nat) (x : Int32) : Nat → Int32 := upd (upd (upd (upd f n (ta_b x 24)) (n + 1) (ta_b x 16)) (n + 2) (ta_b x 8)) (n + 3) (ta_b x 0)

set_option maxRecDepth 100000 in
set_option maxHeartbeats 4000000 in
theorem s_Ta_append {x0 : va_E} {g : rr_H} {n : Nat} {f : Nat → Int32} {x : Int32} (hn : n + 4 ≤ 400) : rr_Spec 1 y_Ta_append c_Ta_append 3 none 0 0 [.ref 1, .int x] (x0 :: .inr (3, [.ref 2, .int (nI n)]) :: .inl (1, 400, .inl (f)) :: g) (fun r h1 => r = none ∧ h1 = x0 :: .inr (3, [.ref 2, .int (nI (n + 4))]) :: .inl (1, 400, .inl (ta_4 f n x)) :: g) := by
  refine rr_met (own := R_Ta) (kd := (false, none)) (by decide +kernel) rfl (fun h => by cases h) rfl (Nat.le_of_ble_eq_true rfl) ?_
  refine rr_bipush 24 d_Ta_append_0 rfl ?_
  refine rr_istore_n d_Ta_append_2 rfl (by decide) ?_
  refine rr_iload_n d_Ta_append_3 rfl rfl ?_
  refine rr_if_lt 46 d_Ta_append_4 (by decide) (fun c9 => absurd c9 (by decide)) (fun _ => ?_)
  refine rr_aload_n d_Ta_append_7 rfl rfl ?_
  refine rr_getf d_Ta_append_8 fl_Ta_15 rfl rfl ?_
  refine rr_sipush 400 d_Ta_append_11 rfl ?_
  refine rr_icmp_ge 40 d_Ta_append_14 (by decide) (fun c9 => absurd c9 (nI_ge (a := n) (b := 400) (by omega) (by decide))) (fun _ => ?_)
  refine rr_aload_n d_Ta_append_17 rfl rfl ?_
  refine rr_getf d_Ta_append_18 fl_Ta_9 rfl rfl ?_
  refine rr_aload_n d_Ta_append_21 rfl rfl ?_
  refine rr_getf d_Ta_append_22 fl_Ta_15 rfl rfl ?_
  refine rr_iload_n d_Ta_append_25 rfl rfl ?_
  refine rr_iload_n d_Ta_append_26 rfl rfl ?_
  refine rr_ishr d_Ta_append_27 ?_
  refine rr_i2b d_Ta_append_28 ?_
  refine rr_bast d_Ta_append_29 rfl (vp_in_nI (n := n) (by omega) (by decide)) ?_
  refine rr_aload_n d_Ta_append_30 rfl rfl ?_
  refine rr_dup d_Ta_append_31 rfl ?_
  refine rr_getf d_Ta_append_32 fl_Ta_15 rfl rfl ?_
  refine rr_iconst 1 d_Ta_append_35 rfl ?_
  refine rr_iadd d_Ta_append_36 ?_
  refine rr_putf d_Ta_append_37 fl_Ta_15 rfl rfl rfl rfl ?_
  refine rr_iinc (-8) d_Ta_append_40 rfl rfl (by decide) ?_
  refine rr_goto 3 d_Ta_append_43 (by decide) ?_
  rw [nI_1, nI_clamp (by omega)]
  refine rr_iload_n d_Ta_append_3 rfl rfl ?_
  refine rr_if_lt 46 d_Ta_append_4 (by decide) (fun c9 => absurd c9 (by decide)) (fun _ => ?_)
  refine rr_aload_n d_Ta_append_7 rfl rfl ?_
  refine rr_getf d_Ta_append_8 fl_Ta_15 rfl rfl ?_
  refine rr_sipush 400 d_Ta_append_11 rfl ?_
  refine rr_icmp_ge 40 d_Ta_append_14 (by decide) (fun c9 => absurd c9 (nI_ge (a := (n + 1)) (b := 400) (by omega) (by decide))) (fun _ => ?_)
  refine rr_aload_n d_Ta_append_17 rfl rfl ?_
  refine rr_getf d_Ta_append_18 fl_Ta_9 rfl rfl ?_
  refine rr_aload_n d_Ta_append_21 rfl rfl ?_
  refine rr_getf d_Ta_append_22 fl_Ta_15 rfl rfl ?_
  refine rr_iload_n d_Ta_append_25 rfl rfl ?_
  refine rr_iload_n d_Ta_append_26 rfl rfl ?_
  refine rr_ishr d_Ta_append_27 ?_
  refine rr_i2b d_Ta_append_28 ?_
  refine rr_bast d_Ta_append_29 rfl (vp_in_nI (n := (n + 1)) (by omega) (by decide)) ?_
  refine rr_aload_n d_Ta_append_30 rfl rfl ?_
  refine rr_dup d_Ta_append_31 rfl ?_
  refine rr_getf d_Ta_append_32 fl_Ta_15 rfl rfl ?_
  refine rr_iconst 1 d_Ta_append_35 rfl ?_
  refine rr_iadd d_Ta_append_36 ?_
  refine rr_putf d_Ta_append_37 fl_Ta_15 rfl rfl rfl rfl ?_
  refine rr_iinc (-8) d_Ta_append_40 rfl rfl (by decide) ?_
  refine rr_goto 3 d_Ta_append_43 (by decide) ?_
  rw [nI_1, nI_clamp (by omega)]
  refine rr_iload_n d_Ta_append_3 rfl rfl ?_
  refine rr_if_lt 46 d_Ta_append_4 (by decide) (fun c9 => absurd c9 (by decide)) (fun _ => ?_)
  refine rr_aload_n d_Ta_append_7 rfl rfl ?_
  refine rr_getf d_Ta_append_8 fl_Ta_15 rfl rfl ?_
  refine rr_sipush 400 d_Ta_append_11 rfl ?_
  refine rr_icmp_ge 40 d_Ta_append_14 (by decide) (fun c9 => absurd c9 (nI_ge (a := (n + 2)) (b := 400) (by omega) (by decide))) (fun _ => ?_)
  refine rr_aload_n d_Ta_append_17 rfl rfl ?_
  refine rr_getf d_Ta_append_18 fl_Ta_9 rfl rfl ?_
  refine rr_aload_n d_Ta_append_21 rfl rfl ?_
  refine rr_getf d_Ta_append_22 fl_Ta_15 rfl rfl ?_
  refine rr_iload_n d_Ta_append_25 rfl rfl ?_
  refine rr_iload_n d_Ta_append_26 rfl rfl ?_
  refine rr_ishr d_Ta_append_27 ?_
  refine rr_i2b d_Ta_append_28 ?_
  refine rr_bast d_Ta_append_29 rfl (vp_in_nI (n := (n + 2)) (by omega) (by decide)) ?_
  refine rr_aload_n d_Ta_append_30 rfl rfl ?_
  refine rr_dup d_Ta_append_31 rfl ?_
  refine rr_getf d_Ta_append_32 fl_Ta_15 rfl rfl ?_
  refine rr_iconst 1 d_Ta_append_35 rfl ?_
  refine rr_iadd d_Ta_append_36 ?_
  refine rr_putf d_Ta_append_37 fl_Ta_15 rfl rfl rfl rfl ?_
  refine rr_iinc (-8) d_Ta_append_40 rfl rfl (by decide) ?_
  refine rr_goto 3 d_Ta_append_43 (by decide) ?_
  rw [nI_1, nI_clamp (by omega)]
  refine rr_iload_n d_Ta_append_3 rfl rfl ?_
  refine rr_if_lt 46 d_Ta_append_4 (by decide) (fun c9 => absurd c9 (by decide)) (fun _ => ?_)
  refine rr_aload_n d_Ta_append_7 rfl rfl ?_
  refine rr_getf d_Ta_append_8 fl_Ta_15 rfl rfl ?_
  refine rr_sipush 400 d_Ta_append_11 rfl ?_
  refine rr_icmp_ge 40 d_Ta_append_14 (by decide) (fun c9 => absurd c9 (nI_ge (a := (n + 3)) (b := 400) (by omega) (by decide))) (fun _ => ?_)
  refine rr_aload_n d_Ta_append_17 rfl rfl ?_
  refine rr_getf d_Ta_append_18 fl_Ta_9 rfl rfl ?_
  refine rr_aload_n d_Ta_append_21 rfl rfl ?_
  refine rr_getf d_Ta_append_22 fl_Ta_15 rfl rfl ?_
  refine rr_iload_n d_Ta_append_25 rfl rfl ?_
  refine rr_iload_n d_Ta_append_26 rfl rfl ?_
  refine rr_ishr d_Ta_append_27 ?_
  refine rr_i2b d_Ta_append_28 ?_
  refine rr_bast d_Ta_append_29 rfl (vp_in_nI (n := (n + 3)) (by omega) (by decide)) ?_
  refine rr_aload_n d_Ta_append_30 rfl rfl ?_
  refine rr_dup d_Ta_append_31 rfl ?_
  refine rr_getf d_Ta_append_32 fl_Ta_15 rfl rfl ?_
  refine rr_iconst 1 d_Ta_append_35 rfl ?_
  refine rr_iadd d_Ta_append_36 ?_
  refine rr_putf d_Ta_append_37 fl_Ta_15 rfl rfl rfl rfl ?_
  refine rr_iinc (-8) d_Ta_append_40 rfl rfl (by decide) ?_
  refine rr_goto 3 d_Ta_append_43 (by decide) ?_
  rw [nI_1, nI_clamp (by omega)]
  refine rr_iload_n d_Ta_append_3 rfl rfl ?_
  refine rr_if_lt 46 d_Ta_append_4 (by decide) (fun _ => ?_) (fun c9 => absurd (by decide) c9)
  exact rr_return d_Ta_append_46 rfl (Nat.le_of_ble_eq_true rfl) (Nat.le_of_ble_eq_true rfl) (⟨rfl, rfl⟩)
