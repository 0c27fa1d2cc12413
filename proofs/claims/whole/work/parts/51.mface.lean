/-! The reference: feed, end, cell, set, count, making. -/

set_option maxRecDepth 100000 in
set_option maxHeartbeats 4000000 in
theorem s_Mo_feed_0 {x0 x1 x2 x3 x4 x5 x6 x7 x8 x9 x10 x11 x12 x13 x14 x15 x16 x17 x18 x19 x20 x21 x22 x23 x26 x27 x28 x29 x30 x31 : va_E} {ru at0 sz kd0 fr0 to0 fa pa my pcv : Int32} {nu : Int64} {lt : Value} {n : Nat} {f : Nat → Int32} {a b c d e : Int32} (hn : n ≤ 400) : rr_Spec 1 y_Mo_feed c_Mo_feed 8 (some .int) 1 5 [.ref 24, .int a, .int b, .int c, .int d, .int e] (x0 :: x1 :: x2 :: x3 :: x4 :: x5 :: x6 :: x7 :: x8 :: x9 :: x10 :: x11 :: x12 :: x13 :: x14 :: x15 :: x16 :: x17 :: x18 :: x19 :: x20 :: x21 :: x22 :: x23 :: .inr (6, [.ref 25, .int (nI n), lt, .ref 26, .int ru, .int at0, .int sz, .int kd0, .int fr0, .int to0, .int fa, .int pa, .long nu, .ref 27, .int my, .ref 28, .ref 29, .ref 30, .ref 31, .int pcv]) :: .inl (1, 400, .inl (f)) :: x26 :: x27 :: x28 :: x29 :: x30 :: x31 :: []) (fun r h1 => if n + 20 ≤ 400 then r = some (.int (nI (n + 20))) ∧ h1 = x0 :: x1 :: x2 :: x3 :: x4 :: x5 :: x6 :: x7 :: x8 :: x9 :: x10 :: x11 :: x12 :: x13 :: x14 :: x15 :: x16 :: x17 :: x18 :: x19 :: x20 :: x21 :: x22 :: x23 :: .inr (6, [.ref 25, .int (nI (n + 20)), lt, .ref 26, .int ru, .int at0, .int sz, .int kd0, .int fr0, .int to0, .int fa, .int pa, .long nu, .ref 27, .int my, .ref 28, .ref 29, .ref 30, .ref 31, .int pcv]) :: .inl (1, 400, .inl (ta_20 f n a b c d e)) :: x26 :: x27 :: x28 :: x29 :: x30 :: x31 :: .inl (0, 5, .inl (upd (upd (upd (upd (upd (fun _ => 0) 0 a) 1 b) 2 c) 3 d) 4 e)) :: [] else r = some (.int (-3)) ∧ h1 = x0 :: x1 :: x2 :: x3 :: x4 :: x5 :: x6 :: x7 :: x8 :: x9 :: x10 :: x11 :: x12 :: x13 :: x14 :: x15 :: x16 :: x17 :: x18 :: x19 :: x20 :: x21 :: x22 :: x23 :: .inr (6, [.ref 25, .int (nI n), lt, .ref 26, .int ru, .int at0, .int sz, .int kd0, .int fr0, .int to0, .int fa, .int pa, .long nu, .ref 27, .int my, .ref 28, .ref 29, .ref 30, .ref 31, .int pcv]) :: .inl (1, 400, .inl (f)) :: x26 :: x27 :: x28 :: x29 :: x30 :: x31 :: []) := by
  refine rr_met (own := R_Mo) (kd := (false, none)) (by decide +kernel) rfl (fun h => by cases h) rfl (Nat.le_of_ble_eq_true rfl) ?_
  refine rr_aload_n d_Mo_feed_0 rfl rfl ?_
  refine rr_getf d_Mo_feed_1 fl_Mo_32 rfl rfl ?_
  refine rr_bipush 20 d_Mo_feed_4 rfl ?_
  refine rr_iadd d_Mo_feed_6 ?_
  refine rr_sipush 400 d_Mo_feed_7 rfl ?_
  rw [show (nI n + 20 : Int32) = nI (n + 20) from nI_add n 20]
  refine rr_icmp_le 16 d_Mo_feed_10 (by decide) (fun hc => ?_) (fun hc => ?_)
  · have h20 : n + 20 ≤ 400 := (nI_leI (by omega) (by decide)).mp hc
    simp only [if_pos h20]
    refine rr_iconst 5 d_Mo_feed_16 rfl ?_
    refine rr_newI (5) d_Mo_feed_17 (by decide) (by decide) (Nat.le_of_ble_eq_true rfl) (Nat.le_of_ble_eq_true rfl) (Nat.le_of_ble_eq_true rfl) (Nat.le_of_ble_eq_true rfl) ?_
    refine rr_dup d_Mo_feed_19 rfl ?_
    refine rr_iconst 0 d_Mo_feed_20 rfl ?_
    refine rr_iload_n d_Mo_feed_21 rfl rfl ?_
    refine rr_iast d_Mo_feed_22 rfl (vp_in_nI (n := 0) (N := 5) (by decide) (by decide)) ?_
    refine rr_dup d_Mo_feed_23 rfl ?_
    refine rr_iconst 1 d_Mo_feed_24 rfl ?_
    refine rr_iload_n d_Mo_feed_25 rfl rfl ?_
    refine rr_iast d_Mo_feed_26 rfl (vp_in_nI (n := 1) (N := 5) (by decide) (by decide)) ?_
    refine rr_dup d_Mo_feed_27 rfl ?_
    refine rr_iconst 2 d_Mo_feed_28 rfl ?_
    refine rr_iload_n d_Mo_feed_29 rfl rfl ?_
    refine rr_iast d_Mo_feed_30 rfl (vp_in_nI (n := 2) (N := 5) (by decide) (by decide)) ?_
    refine rr_dup d_Mo_feed_31 rfl ?_
    refine rr_iconst 3 d_Mo_feed_32 rfl ?_
    refine rr_iload d_Mo_feed_33 rfl ?_
    refine rr_iast d_Mo_feed_35 rfl (vp_in_nI (n := 3) (N := 5) (by decide) (by decide)) ?_
    refine rr_dup d_Mo_feed_36 rfl ?_
    refine rr_iconst 4 d_Mo_feed_37 rfl ?_
    refine rr_iload d_Mo_feed_38 rfl ?_
    refine rr_iast d_Mo_feed_40 rfl (vp_in_nI (n := 4) (N := 5) (by decide) (by decide)) ?_
    refine rr_astore d_Mo_feed_41 (by decide) ?_
    refine rr_iconst 0 d_Mo_feed_43 rfl ?_
    refine rr_istore d_Mo_feed_44 (by decide) ?_
    refine rr_to 46 _ [] (x0 :: x1 :: x2 :: x3 :: x4 :: x5 :: x6 :: x7 :: x8 :: x9 :: x10 :: x11 :: x12 :: x13 :: x14 :: x15 :: x16 :: x17 :: x18 :: x19 :: x20 :: x21 :: x22 :: x23 :: .inr (6, [.ref 25, .int (nI n), lt, .ref 26, .int ru, .int at0, .int sz, .int kd0, .int fr0, .int to0, .int fa, .int pa, .long nu, .ref 27, .int my, .ref 28, .ref 29, .ref 30, .ref 31, .int pcv]) :: .inl (1, 400, .inl (f)) :: x26 :: x27 :: x28 :: x29 :: x30 :: x31 :: .inl (0, 5, .inl (upd (upd (upd (upd (upd (fun _ => 0) 0 a) 1 b) 2 c) 3 d) 4 e)) :: []) ?_ rfl rfl rfl rfl
    refine rr_lvs [(7, .int 0), (6, .ref 32), (0, .ref 24), (1, .int a), (2, .int b), (3, .int c), (4, .int d), (5, .int e)] rfl ?_
    refine rr_iload d_Mo_feed_46 rfl ?_
    refine rr_bipush 20 d_Mo_feed_48 rfl ?_
    refine rr_icmp_ge 90 d_Mo_feed_50 (by decide) (fun c9 => absurd c9 (by decide)) (fun _ => ?_)
    refine rr_aload_n d_Mo_feed_53 rfl rfl ?_
    refine rr_getf d_Mo_feed_54 fl_Mo_9 rfl rfl ?_
    refine rr_aload_n d_Mo_feed_57 rfl rfl ?_
    refine rr_getf d_Mo_feed_58 fl_Mo_32 rfl rfl ?_
    refine rr_iload d_Mo_feed_61 rfl ?_
    refine rr_iadd d_Mo_feed_63 ?_
    rw [show (nI n + 0 : Int32) = nI n from nI_add n 0]
    refine rr_aload d_Mo_feed_64 rfl ?_
    refine rr_iload d_Mo_feed_66 rfl ?_
    refine rr_iconst 4 d_Mo_feed_68 rfl ?_
    refine rr_idiv d_Mo_feed_69 (by decide) ?_
    refine rr_iald d_Mo_feed_70 rfl (vp_in_nI (n := 0) (N := 5) (by decide) (by decide)) ?_
    refine rr_bipush 24 d_Mo_feed_71 rfl ?_
    refine rr_bipush 8 d_Mo_feed_73 rfl ?_
    refine rr_iload d_Mo_feed_75 rfl ?_
    refine rr_iconst 4 d_Mo_feed_77 rfl ?_
    refine rr_irem d_Mo_feed_78 (by decide) ?_
    refine rr_imul d_Mo_feed_79 ?_
    refine rr_isub d_Mo_feed_80 ?_
    refine rr_ishr d_Mo_feed_81 ?_
    refine rr_i2b d_Mo_feed_82 ?_
    refine rr_bast d_Mo_feed_83 rfl (vp_in_nI (n := n) (by omega) (by decide)) ?_
    refine rr_iinc 1 d_Mo_feed_84 rfl rfl (by decide) ?_
    refine rr_goto 46 d_Mo_feed_87 (by decide) ?_
    rw [nI_clamp (n := n) (by omega)]
    refine rr_to 46 _ [] (x0 :: x1 :: x2 :: x3 :: x4 :: x5 :: x6 :: x7 :: x8 :: x9 :: x10 :: x11 :: x12 :: x13 :: x14 :: x15 :: x16 :: x17 :: x18 :: x19 :: x20 :: x21 :: x22 :: x23 :: .inr (6, [.ref 25, .int (nI n), lt, .ref 26, .int ru, .int at0, .int sz, .int kd0, .int fr0, .int to0, .int fa, .int pa, .long nu, .ref 27, .int my, .ref 28, .ref 29, .ref 30, .ref 31, .int pcv]) :: .inl (1, 400, .inl (upd (f) n (ta_b a 24))) :: x26 :: x27 :: x28 :: x29 :: x30 :: x31 :: .inl (0, 5, .inl (upd (upd (upd (upd (upd (fun _ => 0) 0 a) 1 b) 2 c) 3 d) 4 e)) :: []) ?_ rfl rfl rfl rfl
    refine rr_lvs [(7, .int 1), (6, .ref 32), (0, .ref 24), (1, .int a), (2, .int b), (3, .int c), (4, .int d), (5, .int e)] rfl ?_
    refine rr_iload d_Mo_feed_46 rfl ?_
    refine rr_bipush 20 d_Mo_feed_48 rfl ?_
    refine rr_icmp_ge 90 d_Mo_feed_50 (by decide) (fun c9 => absurd c9 (by decide)) (fun _ => ?_)
    refine rr_aload_n d_Mo_feed_53 rfl rfl ?_
    refine rr_getf d_Mo_feed_54 fl_Mo_9 rfl rfl ?_
    refine rr_aload_n d_Mo_feed_57 rfl rfl ?_
    refine rr_getf d_Mo_feed_58 fl_Mo_32 rfl rfl ?_
    refine rr_iload d_Mo_feed_61 rfl ?_
    refine rr_iadd d_Mo_feed_63 ?_
    rw [show (nI n + 1 : Int32) = nI (n + 1) from nI_add n 1]
    refine rr_aload d_Mo_feed_64 rfl ?_
    refine rr_iload d_Mo_feed_66 rfl ?_
    refine rr_iconst 4 d_Mo_feed_68 rfl ?_
    refine rr_idiv d_Mo_feed_69 (by decide) ?_
    refine rr_iald d_Mo_feed_70 rfl (vp_in_nI (n := 0) (N := 5) (by decide) (by decide)) ?_
    refine rr_bipush 24 d_Mo_feed_71 rfl ?_
    refine rr_bipush 8 d_Mo_feed_73 rfl ?_
    refine rr_iload d_Mo_feed_75 rfl ?_
    refine rr_iconst 4 d_Mo_feed_77 rfl ?_
    refine rr_irem d_Mo_feed_78 (by decide) ?_
    refine rr_imul d_Mo_feed_79 ?_
    refine rr_isub d_Mo_feed_80 ?_
    refine rr_ishr d_Mo_feed_81 ?_
    refine rr_i2b d_Mo_feed_82 ?_
    refine rr_bast d_Mo_feed_83 rfl (vp_in_nI (n := (n + 1)) (by omega) (by decide)) ?_
    refine rr_iinc 1 d_Mo_feed_84 rfl rfl (by decide) ?_
    refine rr_goto 46 d_Mo_feed_87 (by decide) ?_
    rw [nI_clamp (n := (n + 1)) (by omega)]
    refine rr_to 46 _ [] (x0 :: x1 :: x2 :: x3 :: x4 :: x5 :: x6 :: x7 :: x8 :: x9 :: x10 :: x11 :: x12 :: x13 :: x14 :: x15 :: x16 :: x17 :: x18 :: x19 :: x20 :: x21 :: x22 :: x23 :: .inr (6, [.ref 25, .int (nI n), lt, .ref 26, .int ru, .int at0, .int sz, .int kd0, .int fr0, .int to0, .int fa, .int pa, .long nu, .ref 27, .int my, .ref 28, .ref 29, .ref 30, .ref 31, .int pcv]) :: .inl (1, 400, .inl (upd (upd (f) n (ta_b a 24)) (n + 1) (ta_b a 16))) :: x26 :: x27 :: x28 :: x29 :: x30 :: x31 :: .inl (0, 5, .inl (upd (upd (upd (upd (upd (fun _ => 0) 0 a) 1 b) 2 c) 3 d) 4 e)) :: []) ?_ rfl rfl rfl rfl
    refine rr_lvs [(7, .int 2), (6, .ref 32), (0, .ref 24), (1, .int a), (2, .int b), (3, .int c), (4, .int d), (5, .int e)] rfl ?_
    refine rr_iload d_Mo_feed_46 rfl ?_
    refine rr_bipush 20 d_Mo_feed_48 rfl ?_
    refine rr_icmp_ge 90 d_Mo_feed_50 (by decide) (fun c9 => absurd c9 (by decide)) (fun _ => ?_)
    refine rr_aload_n d_Mo_feed_53 rfl rfl ?_
    refine rr_getf d_Mo_feed_54 fl_Mo_9 rfl rfl ?_
    refine rr_aload_n d_Mo_feed_57 rfl rfl ?_
    refine rr_getf d_Mo_feed_58 fl_Mo_32 rfl rfl ?_
    refine rr_iload d_Mo_feed_61 rfl ?_
    refine rr_iadd d_Mo_feed_63 ?_
    rw [show (nI n + 2 : Int32) = nI (n + 2) from nI_add n 2]
    refine rr_aload d_Mo_feed_64 rfl ?_
    refine rr_iload d_Mo_feed_66 rfl ?_
    refine rr_iconst 4 d_Mo_feed_68 rfl ?_
    refine rr_idiv d_Mo_feed_69 (by decide) ?_
    refine rr_iald d_Mo_feed_70 rfl (vp_in_nI (n := 0) (N := 5) (by decide) (by decide)) ?_
    refine rr_bipush 24 d_Mo_feed_71 rfl ?_
    refine rr_bipush 8 d_Mo_feed_73 rfl ?_
    refine rr_iload d_Mo_feed_75 rfl ?_
    refine rr_iconst 4 d_Mo_feed_77 rfl ?_
    refine rr_irem d_Mo_feed_78 (by decide) ?_
    refine rr_imul d_Mo_feed_79 ?_
    refine rr_isub d_Mo_feed_80 ?_
    refine rr_ishr d_Mo_feed_81 ?_
    refine rr_i2b d_Mo_feed_82 ?_
    refine rr_bast d_Mo_feed_83 rfl (vp_in_nI (n := (n + 2)) (by omega) (by decide)) ?_
    refine rr_iinc 1 d_Mo_feed_84 rfl rfl (by decide) ?_
    refine rr_goto 46 d_Mo_feed_87 (by decide) ?_
    rw [nI_clamp (n := (n + 2)) (by omega)]
    refine rr_to 46 _ [] (x0 :: x1 :: x2 :: x3 :: x4 :: x5 :: x6 :: x7 :: x8 :: x9 :: x10 :: x11 :: x12 :: x13 :: x14 :: x15 :: x16 :: x17 :: x18 :: x19 :: x20 :: x21 :: x22 :: x23 :: .inr (6, [.ref 25, .int (nI n), lt, .ref 26, .int ru, .int at0, .int sz, .int kd0, .int fr0, .int to0, .int fa, .int pa, .long nu, .ref 27, .int my, .ref 28, .ref 29, .ref 30, .ref 31, .int pcv]) :: .inl (1, 400, .inl (upd (upd (upd (f) n (ta_b a 24)) (n + 1) (ta_b a 16)) (n + 2) (ta_b a 8))) :: x26 :: x27 :: x28 :: x29 :: x30 :: x31 :: .inl (0, 5, .inl (upd (upd (upd (upd (upd (fun _ => 0) 0 a) 1 b) 2 c) 3 d) 4 e)) :: []) ?_ rfl rfl rfl rfl
    refine rr_lvs [(7, .int 3), (6, .ref 32), (0, .ref 24), (1, .int a), (2, .int b), (3, .int c), (4, .int d), (5, .int e)] rfl ?_
    refine rr_iload d_Mo_feed_46 rfl ?_
    refine rr_bipush 20 d_Mo_feed_48 rfl ?_
    refine rr_icmp_ge 90 d_Mo_feed_50 (by decide) (fun c9 => absurd c9 (by decide)) (fun _ => ?_)
    refine rr_aload_n d_Mo_feed_53 rfl rfl ?_
    refine rr_getf d_Mo_feed_54 fl_Mo_9 rfl rfl ?_
    refine rr_aload_n d_Mo_feed_57 rfl rfl ?_
    refine rr_getf d_Mo_feed_58 fl_Mo_32 rfl rfl ?_
    refine rr_iload d_Mo_feed_61 rfl ?_
    refine rr_iadd d_Mo_feed_63 ?_
    rw [show (nI n + 3 : Int32) = nI (n + 3) from nI_add n 3]
    refine rr_aload d_Mo_feed_64 rfl ?_
    refine rr_iload d_Mo_feed_66 rfl ?_
    refine rr_iconst 4 d_Mo_feed_68 rfl ?_
    refine rr_idiv d_Mo_feed_69 (by decide) ?_
    refine rr_iald d_Mo_feed_70 rfl (vp_in_nI (n := 0) (N := 5) (by decide) (by decide)) ?_
    refine rr_bipush 24 d_Mo_feed_71 rfl ?_
    refine rr_bipush 8 d_Mo_feed_73 rfl ?_
    refine rr_iload d_Mo_feed_75 rfl ?_
    refine rr_iconst 4 d_Mo_feed_77 rfl ?_
    refine rr_irem d_Mo_feed_78 (by decide) ?_
    refine rr_imul d_Mo_feed_79 ?_
    refine rr_isub d_Mo_feed_80 ?_
    refine rr_ishr d_Mo_feed_81 ?_
    refine rr_i2b d_Mo_feed_82 ?_
    refine rr_bast d_Mo_feed_83 rfl (vp_in_nI (n := (n + 3)) (by omega) (by decide)) ?_
    refine rr_iinc 1 d_Mo_feed_84 rfl rfl (by decide) ?_
    refine rr_goto 46 d_Mo_feed_87 (by decide) ?_
    rw [nI_clamp (n := (n + 3)) (by omega)]
    refine rr_to 46 _ [] (x0 :: x1 :: x2 :: x3 :: x4 :: x5 :: x6 :: x7 :: x8 :: x9 :: x10 :: x11 :: x12 :: x13 :: x14 :: x15 :: x16 :: x17 :: x18 :: x19 :: x20 :: x21 :: x22 :: x23 :: .inr (6, [.ref 25, .int (nI n), lt, .ref 26, .int ru, .int at0, .int sz, .int kd0, .int fr0, .int to0, .int fa, .int pa, .long nu, .ref 27, .int my, .ref 28, .ref 29, .ref 30, .ref 31, .int pcv]) :: .inl (1, 400, .inl (upd (upd (upd (upd (f) n (ta_b a 24)) (n + 1) (ta_b a 16)) (n + 2) (ta_b a 8)) (n + 3) (ta_b a 0))) :: x26 :: x27 :: x28 :: x29 :: x30 :: x31 :: .inl (0, 5, .inl (upd (upd (upd (upd (upd (fun _ => 0) 0 a) 1 b) 2 c) 3 d) 4 e)) :: []) ?_ rfl rfl rfl rfl
    refine rr_lvs [(7, .int 4), (6, .ref 32), (0, .ref 24), (1, .int a), (2, .int b), (3, .int c), (4, .int d), (5, .int e)] rfl ?_
    refine rr_iload d_Mo_feed_46 rfl ?_
    refine rr_bipush 20 d_Mo_feed_48 rfl ?_
    refine rr_icmp_ge 90 d_Mo_feed_50 (by decide) (fun c9 => absurd c9 (by decide)) (fun _ => ?_)
    refine rr_aload_n d_Mo_feed_53 rfl rfl ?_
    refine rr_getf d_Mo_feed_54 fl_Mo_9 rfl rfl ?_
    refine rr_aload_n d_Mo_feed_57 rfl rfl ?_
    refine rr_getf d_Mo_feed_58 fl_Mo_32 rfl rfl ?_
    refine rr_iload d_Mo_feed_61 rfl ?_
    refine rr_iadd d_Mo_feed_63 ?_
    rw [show (nI n + 4 : Int32) = nI (n + 4) from nI_add n 4]
    refine rr_aload d_Mo_feed_64 rfl ?_
    refine rr_iload d_Mo_feed_66 rfl ?_
    refine rr_iconst 4 d_Mo_feed_68 rfl ?_
    refine rr_idiv d_Mo_feed_69 (by decide) ?_
    refine rr_iald d_Mo_feed_70 rfl (vp_in_nI (n := 1) (N := 5) (by decide) (by decide)) ?_
    refine rr_bipush 24 d_Mo_feed_71 rfl ?_
    refine rr_bipush 8 d_Mo_feed_73 rfl ?_
    refine rr_iload d_Mo_feed_75 rfl ?_
    refine rr_iconst 4 d_Mo_feed_77 rfl ?_
    refine rr_irem d_Mo_feed_78 (by decide) ?_
    refine rr_imul d_Mo_feed_79 ?_
    refine rr_isub d_Mo_feed_80 ?_
    refine rr_ishr d_Mo_feed_81 ?_
    refine rr_i2b d_Mo_feed_82 ?_
    refine rr_bast d_Mo_feed_83 rfl (vp_in_nI (n := (n + 4)) (by omega) (by decide)) ?_
    refine rr_iinc 1 d_Mo_feed_84 rfl rfl (by decide) ?_
    refine rr_goto 46 d_Mo_feed_87 (by decide) ?_
    rw [nI_clamp (n := (n + 4)) (by omega)]
    refine rr_to 46 _ [] (x0 :: x1 :: x2 :: x3 :: x4 :: x5 :: x6 :: x7 :: x8 :: x9 :: x10 :: x11 :: x12 :: x13 :: x14 :: x15 :: x16 :: x17 :: x18 :: x19 :: x20 :: x21 :: x22 :: x23 :: .inr (6, [.ref 25, .int (nI n), lt, .ref 26, .int ru, .int at0, .int sz, .int kd0, .int fr0, .int to0, .int fa, .int pa, .long nu, .ref 27, .int my, .ref 28, .ref 29, .ref 30, .ref 31, .int pcv]) :: .inl (1, 400, .inl (upd (upd (upd (upd (upd (f) n (ta_b a 24)) (n + 1) (ta_b a 16)) (n + 2) (ta_b a 8)) (n + 3) (ta_b a 0)) (n + 4) (ta_b b 24))) :: x26 :: x27 :: x28 :: x29 :: x30 :: x31 :: .inl (0, 5, .inl (upd (upd (upd (upd (upd (fun _ => 0) 0 a) 1 b) 2 c) 3 d) 4 e)) :: []) ?_ rfl rfl rfl rfl
    refine rr_lvs [(7, .int 5), (6, .ref 32), (0, .ref 24), (1, .int a), (2, .int b), (3, .int c), (4, .int d), (5, .int e)] rfl ?_
    refine rr_iload d_Mo_feed_46 rfl ?_
    refine rr_bipush 20 d_Mo_feed_48 rfl ?_
    refine rr_icmp_ge 90 d_Mo_feed_50 (by decide) (fun c9 => absurd c9 (by decide)) (fun _ => ?_)
    refine rr_aload_n d_Mo_feed_53 rfl rfl ?_
    refine rr_getf d_Mo_feed_54 fl_Mo_9 rfl rfl ?_
    refine rr_aload_n d_Mo_feed_57 rfl rfl ?_
    refine rr_getf d_Mo_feed_58 fl_Mo_32 rfl rfl ?_
    refine rr_iload d_Mo_feed_61 rfl ?_
    refine rr_iadd d_Mo_feed_63 ?_
    rw [show (nI n + 5 : Int32) = nI (n + 5) from nI_add n 5]
    refine rr_aload d_Mo_feed_64 rfl ?_
    refine rr_iload d_Mo_feed_66 rfl ?_
    refine rr_iconst 4 d_Mo_feed_68 rfl ?_
    refine rr_idiv d_Mo_feed_69 (by decide) ?_
    refine rr_iald d_Mo_feed_70 rfl (vp_in_nI (n := 1) (N := 5) (by decide) (by decide)) ?_
    refine rr_bipush 24 d_Mo_feed_71 rfl ?_
    refine rr_bipush 8 d_Mo_feed_73 rfl ?_
    refine rr_iload d_Mo_feed_75 rfl ?_
    refine rr_iconst 4 d_Mo_feed_77 rfl ?_
    refine rr_irem d_Mo_feed_78 (by decide) ?_
    refine rr_imul d_Mo_feed_79 ?_
    refine rr_isub d_Mo_feed_80 ?_
    refine rr_ishr d_Mo_feed_81 ?_
    refine rr_i2b d_Mo_feed_82 ?_
    refine rr_bast d_Mo_feed_83 rfl (vp_in_nI (n := (n + 5)) (by omega) (by decide)) ?_
    refine rr_iinc 1 d_Mo_feed_84 rfl rfl (by decide) ?_
    refine rr_goto 46 d_Mo_feed_87 (by decide) ?_
    rw [nI_clamp (n := (n + 5)) (by omega)]
    refine rr_to 46 _ [] (x0 :: x1 :: x2 :: x3 :: x4 :: x5 :: x6 :: x7 :: x8 :: x9 :: x10 :: x11 :: x12 :: x13 :: x14 :: x15 :: x16 :: x17 :: x18 :: x19 :: x20 :: x21 :: x22 :: x23 :: .inr (6, [.ref 25, .int (nI n), lt, .ref 26, .int ru, .int at0, .int sz, .int kd0, .int fr0, .int to0, .int fa, .int pa, .long nu, .ref 27, .int my, .ref 28, .ref 29, .ref 30, .ref 31, .int pcv]) :: .inl (1, 400, .inl (upd (upd (upd (upd (upd (upd (f) n (ta_b a 24)) (n + 1) (ta_b a 16)) (n + 2) (ta_b a 8)) (n + 3) (ta_b a 0)) (n + 4) (ta_b b 24)) (n + 5) (ta_b b 16))) :: x26 :: x27 :: x28 :: x29 :: x30 :: x31 :: .inl (0, 5, .inl (upd (upd (upd (upd (upd (fun _ => 0) 0 a) 1 b) 2 c) 3 d) 4 e)) :: []) ?_ rfl rfl rfl rfl
    refine rr_lvs [(7, .int 6), (6, .ref 32), (0, .ref 24), (1, .int a), (2, .int b), (3, .int c), (4, .int d), (5, .int e)] rfl ?_
    refine rr_iload d_Mo_feed_46 rfl ?_
    refine rr_bipush 20 d_Mo_feed_48 rfl ?_
    refine rr_icmp_ge 90 d_Mo_feed_50 (by decide) (fun c9 => absurd c9 (by decide)) (fun _ => ?_)
    refine rr_aload_n d_Mo_feed_53 rfl rfl ?_
    refine rr_getf d_Mo_feed_54 fl_Mo_9 rfl rfl ?_
    refine rr_aload_n d_Mo_feed_57 rfl rfl ?_
    refine rr_getf d_Mo_feed_58 fl_Mo_32 rfl rfl ?_
    refine rr_iload d_Mo_feed_61 rfl ?_
    refine rr_iadd d_Mo_feed_63 ?_
    rw [show (nI n + 6 : Int32) = nI (n + 6) from nI_add n 6]
    refine rr_aload d_Mo_feed_64 rfl ?_
    refine rr_iload d_Mo_feed_66 rfl ?_
    refine rr_iconst 4 d_Mo_feed_68 rfl ?_
    refine rr_idiv d_Mo_feed_69 (by decide) ?_
    refine rr_iald d_Mo_feed_70 rfl (vp_in_nI (n := 1) (N := 5) (by decide) (by decide)) ?_
    refine rr_bipush 24 d_Mo_feed_71 rfl ?_
    refine rr_bipush 8 d_Mo_feed_73 rfl ?_
    refine rr_iload d_Mo_feed_75 rfl ?_
    refine rr_iconst 4 d_Mo_feed_77 rfl ?_
    refine rr_irem d_Mo_feed_78 (by decide) ?_
    refine rr_imul d_Mo_feed_79 ?_
    refine rr_isub d_Mo_feed_80 ?_
    refine rr_ishr d_Mo_feed_81 ?_
    refine rr_i2b d_Mo_feed_82 ?_
    refine rr_bast d_Mo_feed_83 rfl (vp_in_nI (n := (n + 6)) (by omega) (by decide)) ?_
    refine rr_iinc 1 d_Mo_feed_84 rfl rfl (by decide) ?_
    refine rr_goto 46 d_Mo_feed_87 (by decide) ?_
    rw [nI_clamp (n := (n + 6)) (by omega)]
    refine rr_to 46 _ [] (x0 :: x1 :: x2 :: x3 :: x4 :: x5 :: x6 :: x7 :: x8 :: x9 :: x10 :: x11 :: x12 :: x13 :: x14 :: x15 :: x16 :: x17 :: x18 :: x19 :: x20 :: x21 :: x22 :: x23 :: .inr (6, [.ref 25, .int (nI n), lt, .ref 26, .int ru, .int at0, .int sz, .int kd0, .int fr0, .int to0, .int fa, .int pa, .long nu, .ref 27, .int my, .ref 28, .ref 29, .ref 30, .ref 31, .int pcv]) :: .inl (1, 400, .inl (upd (upd (upd (upd (upd (upd (upd (f) n (ta_b a 24)) (n + 1) (ta_b a 16)) (n + 2) (ta_b a 8)) (n + 3) (ta_b a 0)) (n + 4) (ta_b b 24)) (n + 5) (ta_b b 16)) (n + 6) (ta_b b 8))) :: x26 :: x27 :: x28 :: x29 :: x30 :: x31 :: .inl (0, 5, .inl (upd (upd (upd (upd (upd (fun _ => 0) 0 a) 1 b) 2 c) 3 d) 4 e)) :: []) ?_ rfl rfl rfl rfl
    refine rr_lvs [(7, .int 7), (6, .ref 32), (0, .ref 24), (1, .int a), (2, .int b), (3, .int c), (4, .int d), (5, .int e)] rfl ?_
    refine rr_iload d_Mo_feed_46 rfl ?_
    refine rr_bipush 20 d_Mo_feed_48 rfl ?_
    refine rr_icmp_ge 90 d_Mo_feed_50 (by decide) (fun c9 => absurd c9 (by decide)) (fun _ => ?_)
    refine rr_aload_n d_Mo_feed_53 rfl rfl ?_
    refine rr_getf d_Mo_feed_54 fl_Mo_9 rfl rfl ?_
    refine rr_aload_n d_Mo_feed_57 rfl rfl ?_
    refine rr_getf d_Mo_feed_58 fl_Mo_32 rfl rfl ?_
    refine rr_iload d_Mo_feed_61 rfl ?_
    refine rr_iadd d_Mo_feed_63 ?_
    rw [show (nI n + 7 : Int32) = nI (n + 7) from nI_add n 7]
    refine rr_aload d_Mo_feed_64 rfl ?_
    refine rr_iload d_Mo_feed_66 rfl ?_
    refine rr_iconst 4 d_Mo_feed_68 rfl ?_
    refine rr_idiv d_Mo_feed_69 (by decide) ?_
    refine rr_iald d_Mo_feed_70 rfl (vp_in_nI (n := 1) (N := 5) (by decide) (by decide)) ?_
    refine rr_bipush 24 d_Mo_feed_71 rfl ?_
    refine rr_bipush 8 d_Mo_feed_73 rfl ?_
    refine rr_iload d_Mo_feed_75 rfl ?_
    refine rr_iconst 4 d_Mo_feed_77 rfl ?_
    refine rr_irem d_Mo_feed_78 (by decide) ?_
    refine rr_imul d_Mo_feed_79 ?_
    refine rr_isub d_Mo_feed_80 ?_
    refine rr_ishr d_Mo_feed_81 ?_
    refine rr_i2b d_Mo_feed_82 ?_
    refine rr_bast d_Mo_feed_83 rfl (vp_in_nI (n := (n + 7)) (by omega) (by decide)) ?_
    refine rr_iinc 1 d_Mo_feed_84 rfl rfl (by decide) ?_
    refine rr_goto 46 d_Mo_feed_87 (by decide) ?_
    rw [nI_clamp (n := (n + 7)) (by omega)]
    refine rr_to 46 _ [] (x0 :: x1 :: x2 :: x3 :: x4 :: x5 :: x6 :: x7 :: x8 :: x9 :: x10 :: x11 :: x12 :: x13 :: x14 :: x15 :: x16 :: x17 :: x18 :: x19 :: x20 :: x21 :: x22 :: x23 :: .inr (6, [.ref 25, .int (nI n), lt, .ref 26, .int ru, .int at0, .int sz, .int kd0, .int fr0, .int to0, .int fa, .int pa, .long nu, .ref 27, .int my, .ref 28, .ref 29, .ref 30, .ref 31, .int pcv]) :: .inl (1, 400, .inl (upd (upd (upd (upd (upd (upd (upd (upd (f) n (ta_b a 24)) (n + 1) (ta_b a 16)) (n + 2) (ta_b a 8)) (n + 3) (ta_b a 0)) (n + 4) (ta_b b 24)) (n + 5) (ta_b b 16)) (n + 6) (ta_b b 8)) (n + 7) (ta_b b 0))) :: x26 :: x27 :: x28 :: x29 :: x30 :: x31 :: .inl (0, 5, .inl (upd (upd (upd (upd (upd (fun _ => 0) 0 a) 1 b) 2 c) 3 d) 4 e)) :: []) ?_ rfl rfl rfl rfl
    refine rr_lvs [(7, .int 8), (6, .ref 32), (0, .ref 24), (1, .int a), (2, .int b), (3, .int c), (4, .int d), (5, .int e)] rfl ?_
    refine rr_iload d_Mo_feed_46 rfl ?_
    refine rr_bipush 20 d_Mo_feed_48 rfl ?_
    refine rr_icmp_ge 90 d_Mo_feed_50 (by decide) (fun c9 => absurd c9 (by decide)) (fun _ => ?_)
    refine rr_aload_n d_Mo_feed_53 rfl rfl ?_
    refine rr_getf d_Mo_feed_54 fl_Mo_9 rfl rfl ?_
    refine rr_aload_n d_Mo_feed_57 rfl rfl ?_
    refine rr_getf d_Mo_feed_58 fl_Mo_32 rfl rfl ?_
    refine rr_iload d_Mo_feed_61 rfl ?_
    refine rr_iadd d_Mo_feed_63 ?_
    rw [show (nI n + 8 : Int32) = nI (n + 8) from nI_add n 8]
    refine rr_aload d_Mo_feed_64 rfl ?_
    refine rr_iload d_Mo_feed_66 rfl ?_
    refine rr_iconst 4 d_Mo_feed_68 rfl ?_
    refine rr_idiv d_Mo_feed_69 (by decide) ?_
    refine rr_iald d_Mo_feed_70 rfl (vp_in_nI (n := 2) (N := 5) (by decide) (by decide)) ?_
    refine rr_bipush 24 d_Mo_feed_71 rfl ?_
    refine rr_bipush 8 d_Mo_feed_73 rfl ?_
    refine rr_iload d_Mo_feed_75 rfl ?_
    refine rr_iconst 4 d_Mo_feed_77 rfl ?_
    refine rr_irem d_Mo_feed_78 (by decide) ?_
    refine rr_imul d_Mo_feed_79 ?_
    refine rr_isub d_Mo_feed_80 ?_
    refine rr_ishr d_Mo_feed_81 ?_
    refine rr_i2b d_Mo_feed_82 ?_
    refine rr_bast d_Mo_feed_83 rfl (vp_in_nI (n := (n + 8)) (by omega) (by decide)) ?_
    refine rr_iinc 1 d_Mo_feed_84 rfl rfl (by decide) ?_
    refine rr_goto 46 d_Mo_feed_87 (by decide) ?_
    rw [nI_clamp (n := (n + 8)) (by omega)]
    refine rr_to 46 _ [] (x0 :: x1 :: x2 :: x3 :: x4 :: x5 :: x6 :: x7 :: x8 :: x9 :: x10 :: x11 :: x12 :: x13 :: x14 :: x15 :: x16 :: x17 :: x18 :: x19 :: x20 :: x21 :: x22 :: x23 :: .inr (6, [.ref 25, .int (nI n), lt, .ref 26, .int ru, .int at0, .int sz, .int kd0, .int fr0, .int to0, .int fa, .int pa, .long nu, .ref 27, .int my, .ref 28, .ref 29, .ref 30, .ref 31, .int pcv]) :: .inl (1, 400, .inl (upd (upd (upd (upd (upd (upd (upd (upd (upd (f) n (ta_b a 24)) (n + 1) (ta_b a 16)) (n + 2) (ta_b a 8)) (n + 3) (ta_b a 0)) (n + 4) (ta_b b 24)) (n + 5) (ta_b b 16)) (n + 6) (ta_b b 8)) (n + 7) (ta_b b 0)) (n + 8) (ta_b c 24))) :: x26 :: x27 :: x28 :: x29 :: x30 :: x31 :: .inl (0, 5, .inl (upd (upd (upd (upd (upd (fun _ => 0) 0 a) 1 b) 2 c) 3 d) 4 e)) :: []) ?_ rfl rfl rfl rfl
    refine rr_lvs [(7, .int 9), (6, .ref 32), (0, .ref 24), (1, .int a), (2, .int b), (3, .int c), (4, .int d), (5, .int e)] rfl ?_
    refine rr_iload d_Mo_feed_46 rfl ?_
    refine rr_bipush 20 d_Mo_feed_48 rfl ?_
    refine rr_icmp_ge 90 d_Mo_feed_50 (by decide) (fun c9 => absurd c9 (by decide)) (fun _ => ?_)
    refine rr_aload_n d_Mo_feed_53 rfl rfl ?_
    refine rr_getf d_Mo_feed_54 fl_Mo_9 rfl rfl ?_
    refine rr_aload_n d_Mo_feed_57 rfl rfl ?_
    refine rr_getf d_Mo_feed_58 fl_Mo_32 rfl rfl ?_
    refine rr_iload d_Mo_feed_61 rfl ?_
    refine rr_iadd d_Mo_feed_63 ?_
    rw [show (nI n + 9 : Int32) = nI (n + 9) from nI_add n 9]
    refine rr_aload d_Mo_feed_64 rfl ?_
    refine rr_iload d_Mo_feed_66 rfl ?_
    refine rr_iconst 4 d_Mo_feed_68 rfl ?_
    refine rr_idiv d_Mo_feed_69 (by decide) ?_
    refine rr_iald d_Mo_feed_70 rfl (vp_in_nI (n := 2) (N := 5) (by decide) (by decide)) ?_
    refine rr_bipush 24 d_Mo_feed_71 rfl ?_
    refine rr_bipush 8 d_Mo_feed_73 rfl ?_
    refine rr_iload d_Mo_feed_75 rfl ?_
    refine rr_iconst 4 d_Mo_feed_77 rfl ?_
    refine rr_irem d_Mo_feed_78 (by decide) ?_
    refine rr_imul d_Mo_feed_79 ?_
    refine rr_isub d_Mo_feed_80 ?_
    refine rr_ishr d_Mo_feed_81 ?_
    refine rr_i2b d_Mo_feed_82 ?_
    refine rr_bast d_Mo_feed_83 rfl (vp_in_nI (n := (n + 9)) (by omega) (by decide)) ?_
    refine rr_iinc 1 d_Mo_feed_84 rfl rfl (by decide) ?_
    refine rr_goto 46 d_Mo_feed_87 (by decide) ?_
    rw [nI_clamp (n := (n + 9)) (by omega)]
    refine rr_to 46 _ [] (x0 :: x1 :: x2 :: x3 :: x4 :: x5 :: x6 :: x7 :: x8 :: x9 :: x10 :: x11 :: x12 :: x13 :: x14 :: x15 :: x16 :: x17 :: x18 :: x19 :: x20 :: x21 :: x22 :: x23 :: .inr (6, [.ref 25, .int (nI n), lt, .ref 26, .int ru, .int at0, .int sz, .int kd0, .int fr0, .int to0, .int fa, .int pa, .long nu, .ref 27, .int my, .ref 28, .ref 29, .ref 30, .ref 31, .int pcv]) :: .inl (1, 400, .inl (upd (upd (upd (upd (upd (upd (upd (upd (upd (upd (f) n (ta_b a 24)) (n + 1) (ta_b a 16)) (n + 2) (ta_b a 8)) (n + 3) (ta_b a 0)) (n + 4) (ta_b b 24)) (n + 5) (ta_b b 16)) (n + 6) (ta_b b 8)) (n + 7) (ta_b b 0)) (n + 8) (ta_b c 24)) (n + 9) (ta_b c 16))) :: x26 :: x27 :: x28 :: x29 :: x30 :: x31 :: .inl (0, 5, .inl (upd (upd (upd (upd (upd (fun _ => 0) 0 a) 1 b) 2 c) 3 d) 4 e)) :: []) ?_ rfl rfl rfl rfl
    refine rr_lvs [(7, .int 10), (6, .ref 32), (0, .ref 24), (1, .int a), (2, .int b), (3, .int c), (4, .int d), (5, .int e)] rfl ?_
    refine rr_iload d_Mo_feed_46 rfl ?_
    refine rr_bipush 20 d_Mo_feed_48 rfl ?_
    refine rr_icmp_ge 90 d_Mo_feed_50 (by decide) (fun c9 => absurd c9 (by decide)) (fun _ => ?_)
    refine rr_aload_n d_Mo_feed_53 rfl rfl ?_
    refine rr_getf d_Mo_feed_54 fl_Mo_9 rfl rfl ?_
    refine rr_aload_n d_Mo_feed_57 rfl rfl ?_
    refine rr_getf d_Mo_feed_58 fl_Mo_32 rfl rfl ?_
    refine rr_iload d_Mo_feed_61 rfl ?_
    refine rr_iadd d_Mo_feed_63 ?_
    rw [show (nI n + 10 : Int32) = nI (n + 10) from nI_add n 10]
    refine rr_aload d_Mo_feed_64 rfl ?_
    refine rr_iload d_Mo_feed_66 rfl ?_
    refine rr_iconst 4 d_Mo_feed_68 rfl ?_
    refine rr_idiv d_Mo_feed_69 (by decide) ?_
    refine rr_iald d_Mo_feed_70 rfl (vp_in_nI (n := 2) (N := 5) (by decide) (by decide)) ?_
    refine rr_bipush 24 d_Mo_feed_71 rfl ?_
    refine rr_bipush 8 d_Mo_feed_73 rfl ?_
    refine rr_iload d_Mo_feed_75 rfl ?_
    refine rr_iconst 4 d_Mo_feed_77 rfl ?_
    refine rr_irem d_Mo_feed_78 (by decide) ?_
    refine rr_imul d_Mo_feed_79 ?_
    refine rr_isub d_Mo_feed_80 ?_
    refine rr_ishr d_Mo_feed_81 ?_
    refine rr_i2b d_Mo_feed_82 ?_
    refine rr_bast d_Mo_feed_83 rfl (vp_in_nI (n := (n + 10)) (by omega) (by decide)) ?_
    refine rr_iinc 1 d_Mo_feed_84 rfl rfl (by decide) ?_
    refine rr_goto 46 d_Mo_feed_87 (by decide) ?_
    rw [nI_clamp (n := (n + 10)) (by omega)]
    refine rr_to 46 _ [] (x0 :: x1 :: x2 :: x3 :: x4 :: x5 :: x6 :: x7 :: x8 :: x9 :: x10 :: x11 :: x12 :: x13 :: x14 :: x15 :: x16 :: x17 :: x18 :: x19 :: x20 :: x21 :: x22 :: x23 :: .inr (6, [.ref 25, .int (nI n), lt, .ref 26, .int ru, .int at0, .int sz, .int kd0, .int fr0, .int to0, .int fa, .int pa, .long nu, .ref 27, .int my, .ref 28, .ref 29, .ref 30, .ref 31, .int pcv]) :: .inl (1, 400, .inl (upd (upd (upd (upd (upd (upd (upd (upd (upd (upd (upd (f) n (ta_b a 24)) (n + 1) (ta_b a 16)) (n + 2) (ta_b a 8)) (n + 3) (ta_b a 0)) (n + 4) (ta_b b 24)) (n + 5) (ta_b b 16)) (n + 6) (ta_b b 8)) (n + 7) (ta_b b 0)) (n + 8) (ta_b c 24)) (n + 9) (ta_b c 16)) (n + 10) (ta_b c 8))) :: x26 :: x27 :: x28 :: x29 :: x30 :: x31 :: .inl (0, 5, .inl (upd (upd (upd (upd (upd (fun _ => 0) 0 a) 1 b) 2 c) 3 d) 4 e)) :: []) ?_ rfl rfl rfl rfl
    refine rr_lvs [(7, .int 11), (6, .ref 32), (0, .ref 24), (1, .int a), (2, .int b), (3, .int c), (4, .int d), (5, .int e)] rfl ?_
    refine rr_iload d_Mo_feed_46 rfl ?_
    refine rr_bipush 20 d_Mo_feed_48 rfl ?_
    refine rr_icmp_ge 90 d_Mo_feed_50 (by decide) (fun c9 => absurd c9 (by decide)) (fun _ => ?_)
    refine rr_aload_n d_Mo_feed_53 rfl rfl ?_
    refine rr_getf d_Mo_feed_54 fl_Mo_9 rfl rfl ?_
    refine rr_aload_n d_Mo_feed_57 rfl rfl ?_
    refine rr_getf d_Mo_feed_58 fl_Mo_32 rfl rfl ?_
    refine rr_iload d_Mo_feed_61 rfl ?_
    refine rr_iadd d_Mo_feed_63 ?_
    rw [show (nI n + 11 : Int32) = nI (n + 11) from nI_add n 11]
    refine rr_aload d_Mo_feed_64 rfl ?_
    refine rr_iload d_Mo_feed_66 rfl ?_
    refine rr_iconst 4 d_Mo_feed_68 rfl ?_
    refine rr_idiv d_Mo_feed_69 (by decide) ?_
    refine rr_iald d_Mo_feed_70 rfl (vp_in_nI (n := 2) (N := 5) (by decide) (by decide)) ?_
    refine rr_bipush 24 d_Mo_feed_71 rfl ?_
    refine rr_bipush 8 d_Mo_feed_73 rfl ?_
    refine rr_iload d_Mo_feed_75 rfl ?_
    refine rr_iconst 4 d_Mo_feed_77 rfl ?_
    refine rr_irem d_Mo_feed_78 (by decide) ?_
    refine rr_imul d_Mo_feed_79 ?_
    refine rr_isub d_Mo_feed_80 ?_
    refine rr_ishr d_Mo_feed_81 ?_
    refine rr_i2b d_Mo_feed_82 ?_
    refine rr_bast d_Mo_feed_83 rfl (vp_in_nI (n := (n + 11)) (by omega) (by decide)) ?_
    refine rr_iinc 1 d_Mo_feed_84 rfl rfl (by decide) ?_
    refine rr_goto 46 d_Mo_feed_87 (by decide) ?_
    rw [nI_clamp (n := (n + 11)) (by omega)]
    refine rr_to 46 _ [] (x0 :: x1 :: x2 :: x3 :: x4 :: x5 :: x6 :: x7 :: x8 :: x9 :: x10 :: x11 :: x12 :: x13 :: x14 :: x15 :: x16 :: x17 :: x18 :: x19 :: x20 :: x21 :: x22 :: x23 :: .inr (6, [.ref 25, .int (nI n), lt, .ref 26, .int ru, .int at0, .int sz, .int kd0, .int fr0, .int to0, .int fa, .int pa, .long nu, .ref 27, .int my, .ref 28, .ref 29, .ref 30, .ref 31, .int pcv]) :: .inl (1, 400, .inl (upd (upd (upd (upd (upd (upd (upd (upd (upd (upd (upd (upd (f) n (ta_b a 24)) (n + 1) (ta_b a 16)) (n + 2) (ta_b a 8)) (n + 3) (ta_b a 0)) (n + 4) (ta_b b 24)) (n + 5) (ta_b b 16)) (n + 6) (ta_b b 8)) (n + 7) (ta_b b 0)) (n + 8) (ta_b c 24)) (n + 9) (ta_b c 16)) (n + 10) (ta_b c 8)) (n + 11) (ta_b c 0))) :: x26 :: x27 :: x28 :: x29 :: x30 :: x31 :: .inl (0, 5, .inl (upd (upd (upd (upd (upd (fun _ => 0) 0 a) 1 b) 2 c) 3 d) 4 e)) :: []) ?_ rfl rfl rfl rfl
    refine rr_lvs [(7, .int 12), (6, .ref 32), (0, .ref 24), (1, .int a), (2, .int b), (3, .int c), (4, .int d), (5, .int e)] rfl ?_
    refine rr_iload d_Mo_feed_46 rfl ?_
    refine rr_bipush 20 d_Mo_feed_48 rfl ?_
    refine rr_icmp_ge 90 d_Mo_feed_50 (by decide) (fun c9 => absurd c9 (by decide)) (fun _ => ?_)
    refine rr_aload_n d_Mo_feed_53 rfl rfl ?_
    refine rr_getf d_Mo_feed_54 fl_Mo_9 rfl rfl ?_
    refine rr_aload_n d_Mo_feed_57 rfl rfl ?_
    refine rr_getf d_Mo_feed_58 fl_Mo_32 rfl rfl ?_
    refine rr_iload d_Mo_feed_61 rfl ?_
    refine rr_iadd d_Mo_feed_63 ?_
    rw [show (nI n + 12 : Int32) = nI (n + 12) from nI_add n 12]
    refine rr_aload d_Mo_feed_64 rfl ?_
    refine rr_iload d_Mo_feed_66 rfl ?_
    refine rr_iconst 4 d_Mo_feed_68 rfl ?_
    refine rr_idiv d_Mo_feed_69 (by decide) ?_
    refine rr_iald d_Mo_feed_70 rfl (vp_in_nI (n := 3) (N := 5) (by decide) (by decide)) ?_
    refine rr_bipush 24 d_Mo_feed_71 rfl ?_
    refine rr_bipush 8 d_Mo_feed_73 rfl ?_
    refine rr_iload d_Mo_feed_75 rfl ?_
    refine rr_iconst 4 d_Mo_feed_77 rfl ?_
    refine rr_irem d_Mo_feed_78 (by decide) ?_
    refine rr_imul d_Mo_feed_79 ?_
    refine rr_isub d_Mo_feed_80 ?_
    refine rr_ishr d_Mo_feed_81 ?_
    refine rr_i2b d_Mo_feed_82 ?_
    refine rr_bast d_Mo_feed_83 rfl (vp_in_nI (n := (n + 12)) (by omega) (by decide)) ?_
    refine rr_iinc 1 d_Mo_feed_84 rfl rfl (by decide) ?_
    refine rr_goto 46 d_Mo_feed_87 (by decide) ?_
    rw [nI_clamp (n := (n + 12)) (by omega)]
    refine rr_to 46 _ [] (x0 :: x1 :: x2 :: x3 :: x4 :: x5 :: x6 :: x7 :: x8 :: x9 :: x10 :: x11 :: x12 :: x13 :: x14 :: x15 :: x16 :: x17 :: x18 :: x19 :: x20 :: x21 :: x22 :: x23 :: .inr (6, [.ref 25, .int (nI n), lt, .ref 26, .int ru, .int at0, .int sz, .int kd0, .int fr0, .int to0, .int fa, .int pa, .long nu, .ref 27, .int my, .ref 28, .ref 29, .ref 30, .ref 31, .int pcv]) :: .inl (1, 400, .inl (upd (upd (upd (upd (upd (upd (upd (upd (upd (upd (upd (upd (upd (f) n (ta_b a 24)) (n + 1) (ta_b a 16)) (n + 2) (ta_b a 8)) (n + 3) (ta_b a 0)) (n + 4) (ta_b b 24)) (n + 5) (ta_b b 16)) (n + 6) (ta_b b 8)) (n + 7) (ta_b b 0)) (n + 8) (ta_b c 24)) (n + 9) (ta_b c 16)) (n + 10) (ta_b c 8)) (n + 11) (ta_b c 0)) (n + 12) (ta_b d 24))) :: x26 :: x27 :: x28 :: x29 :: x30 :: x31 :: .inl (0, 5, .inl (upd (upd (upd (upd (upd (fun _ => 0) 0 a) 1 b) 2 c) 3 d) 4 e)) :: []) ?_ rfl rfl rfl rfl
    refine rr_lvs [(7, .int 13), (6, .ref 32), (0, .ref 24), (1, .int a), (2, .int b), (3, .int c), (4, .int d), (5, .int e)] rfl ?_
    refine rr_iload d_Mo_feed_46 rfl ?_
    refine rr_bipush 20 d_Mo_feed_48 rfl ?_
    refine rr_icmp_ge 90 d_Mo_feed_50 (by decide) (fun c9 => absurd c9 (by decide)) (fun _ => ?_)
    refine rr_aload_n d_Mo_feed_53 rfl rfl ?_
    refine rr_getf d_Mo_feed_54 fl_Mo_9 rfl rfl ?_
    refine rr_aload_n d_Mo_feed_57 rfl rfl ?_
    refine rr_getf d_Mo_feed_58 fl_Mo_32 rfl rfl ?_
    refine rr_iload d_Mo_feed_61 rfl ?_
    refine rr_iadd d_Mo_feed_63 ?_
    rw [show (nI n + 13 : Int32) = nI (n + 13) from nI_add n 13]
    refine rr_aload d_Mo_feed_64 rfl ?_
    refine rr_iload d_Mo_feed_66 rfl ?_
    refine rr_iconst 4 d_Mo_feed_68 rfl ?_
    refine rr_idiv d_Mo_feed_69 (by decide) ?_
    refine rr_iald d_Mo_feed_70 rfl (vp_in_nI (n := 3) (N := 5) (by decide) (by decide)) ?_
    refine rr_bipush 24 d_Mo_feed_71 rfl ?_
    refine rr_bipush 8 d_Mo_feed_73 rfl ?_
    refine rr_iload d_Mo_feed_75 rfl ?_
    refine rr_iconst 4 d_Mo_feed_77 rfl ?_
    refine rr_irem d_Mo_feed_78 (by decide) ?_
    refine rr_imul d_Mo_feed_79 ?_
    refine rr_isub d_Mo_feed_80 ?_
    refine rr_ishr d_Mo_feed_81 ?_
    refine rr_i2b d_Mo_feed_82 ?_
    refine rr_bast d_Mo_feed_83 rfl (vp_in_nI (n := (n + 13)) (by omega) (by decide)) ?_
    refine rr_iinc 1 d_Mo_feed_84 rfl rfl (by decide) ?_
    refine rr_goto 46 d_Mo_feed_87 (by decide) ?_
    rw [nI_clamp (n := (n + 13)) (by omega)]
    refine rr_to 46 _ [] (x0 :: x1 :: x2 :: x3 :: x4 :: x5 :: x6 :: x7 :: x8 :: x9 :: x10 :: x11 :: x12 :: x13 :: x14 :: x15 :: x16 :: x17 :: x18 :: x19 :: x20 :: x21 :: x22 :: x23 :: .inr (6, [.ref 25, .int (nI n), lt, .ref 26, .int ru, .int at0, .int sz, .int kd0, .int fr0, .int to0, .int fa, .int pa, .long nu, .ref 27, .int my, .ref 28, .ref 29, .ref 30, .ref 31, .int pcv]) :: .inl (1, 400, .inl (upd (upd (upd (upd (upd (upd (upd (upd (upd (upd (upd (upd (upd (upd (f) n (ta_b a 24)) (n + 1) (ta_b a 16)) (n + 2) (ta_b a 8)) (n + 3) (ta_b a 0)) (n + 4) (ta_b b 24)) (n + 5) (ta_b b 16)) (n + 6) (ta_b b 8)) (n + 7) (ta_b b 0)) (n + 8) (ta_b c 24)) (n + 9) (ta_b c 16)) (n + 10) (ta_b c 8)) (n + 11) (ta_b c 0)) (n + 12) (ta_b d 24)) (n + 13) (ta_b d 16))) :: x26 :: x27 :: x28 :: x29 :: x30 :: x31 :: .inl (0, 5, .inl (upd (upd (upd (upd (upd (fun _ => 0) 0 a) 1 b) 2 c) 3 d) 4 e)) :: []) ?_ rfl rfl rfl rfl
    refine rr_lvs [(7, .int 14), (6, .ref 32), (0, .ref 24), (1, .int a), (2, .int b), (3, .int c), (4, .int d), (5, .int e)] rfl ?_
    refine rr_iload d_Mo_feed_46 rfl ?_
    refine rr_bipush 20 d_Mo_feed_48 rfl ?_
    refine rr_icmp_ge 90 d_Mo_feed_50 (by decide) (fun c9 => absurd c9 (by decide)) (fun _ => ?_)
    refine rr_aload_n d_Mo_feed_53 rfl rfl ?_
    refine rr_getf d_Mo_feed_54 fl_Mo_9 rfl rfl ?_
    refine rr_aload_n d_Mo_feed_57 rfl rfl ?_
    refine rr_getf d_Mo_feed_58 fl_Mo_32 rfl rfl ?_
    refine rr_iload d_Mo_feed_61 rfl ?_
    refine rr_iadd d_Mo_feed_63 ?_
    rw [show (nI n + 14 : Int32) = nI (n + 14) from nI_add n 14]
    refine rr_aload d_Mo_feed_64 rfl ?_
    refine rr_iload d_Mo_feed_66 rfl ?_
    refine rr_iconst 4 d_Mo_feed_68 rfl ?_
    refine rr_idiv d_Mo_feed_69 (by decide) ?_
    refine rr_iald d_Mo_feed_70 rfl (vp_in_nI (n := 3) (N := 5) (by decide) (by decide)) ?_
    refine rr_bipush 24 d_Mo_feed_71 rfl ?_
    refine rr_bipush 8 d_Mo_feed_73 rfl ?_
    refine rr_iload d_Mo_feed_75 rfl ?_
    refine rr_iconst 4 d_Mo_feed_77 rfl ?_
    refine rr_irem d_Mo_feed_78 (by decide) ?_
    refine rr_imul d_Mo_feed_79 ?_
    refine rr_isub d_Mo_feed_80 ?_
    refine rr_ishr d_Mo_feed_81 ?_
    refine rr_i2b d_Mo_feed_82 ?_
    refine rr_bast d_Mo_feed_83 rfl (vp_in_nI (n := (n + 14)) (by omega) (by decide)) ?_
    refine rr_iinc 1 d_Mo_feed_84 rfl rfl (by decide) ?_
    refine rr_goto 46 d_Mo_feed_87 (by decide) ?_
    rw [nI_clamp (n := (n + 14)) (by omega)]
    refine rr_to 46 _ [] (x0 :: x1 :: x2 :: x3 :: x4 :: x5 :: x6 :: x7 :: x8 :: x9 :: x10 :: x11 :: x12 :: x13 :: x14 :: x15 :: x16 :: x17 :: x18 :: x19 :: x20 :: x21 :: x22 :: x23 :: .inr (6, [.ref 25, .int (nI n), lt, .ref 26, .int ru, .int at0, .int sz, .int kd0, .int fr0, .int to0, .int fa, .int pa, .long nu, .ref 27, .int my, .ref 28, .ref 29, .ref 30, .ref 31, .int pcv]) :: .inl (1, 400, .inl (upd (upd (upd (upd (upd (upd (upd (upd (upd (upd (upd (upd (upd (upd (upd (f) n (ta_b a 24)) (n + 1) (ta_b a 16)) (n + 2) (ta_b a 8)) (n + 3) (ta_b a 0)) (n + 4) (ta_b b 24)) (n + 5) (ta_b b 16)) (n + 6) (ta_b b 8)) (n + 7) (ta_b b 0)) (n + 8) (ta_b c 24)) (n + 9) (ta_b c 16)) (n + 10) (ta_b c 8)) (n + 11) (ta_b c 0)) (n + 12) (ta_b d 24)) (n + 13) (ta_b d 16)) (n + 14) (ta_b d 8))) :: x26 :: x27 :: x28 :: x29 :: x30 :: x31 :: .inl (0, 5, .inl (upd (upd (upd (upd (upd (fun _ => 0) 0 a) 1 b) 2 c) 3 d) 4 e)) :: []) ?_ rfl rfl rfl rfl
    refine rr_lvs [(7, .int 15), (6, .ref 32), (0, .ref 24), (1, .int a), (2, .int b), (3, .int c), (4, .int d), (5, .int e)] rfl ?_
    refine rr_iload d_Mo_feed_46 rfl ?_
    refine rr_bipush 20 d_Mo_feed_48 rfl ?_
    refine rr_icmp_ge 90 d_Mo_feed_50 (by decide) (fun c9 => absurd c9 (by decide)) (fun _ => ?_)
    refine rr_aload_n d_Mo_feed_53 rfl rfl ?_
    refine rr_getf d_Mo_feed_54 fl_Mo_9 rfl rfl ?_
    refine rr_aload_n d_Mo_feed_57 rfl rfl ?_
    refine rr_getf d_Mo_feed_58 fl_Mo_32 rfl rfl ?_
    refine rr_iload d_Mo_feed_61 rfl ?_
    refine rr_iadd d_Mo_feed_63 ?_
    rw [show (nI n + 15 : Int32) = nI (n + 15) from nI_add n 15]
    refine rr_aload d_Mo_feed_64 rfl ?_
    refine rr_iload d_Mo_feed_66 rfl ?_
    refine rr_iconst 4 d_Mo_feed_68 rfl ?_
    refine rr_idiv d_Mo_feed_69 (by decide) ?_
    refine rr_iald d_Mo_feed_70 rfl (vp_in_nI (n := 3) (N := 5) (by decide) (by decide)) ?_
    refine rr_bipush 24 d_Mo_feed_71 rfl ?_
    refine rr_bipush 8 d_Mo_feed_73 rfl ?_
    refine rr_iload d_Mo_feed_75 rfl ?_
    refine rr_iconst 4 d_Mo_feed_77 rfl ?_
    refine rr_irem d_Mo_feed_78 (by decide) ?_
    refine rr_imul d_Mo_feed_79 ?_
    refine rr_isub d_Mo_feed_80 ?_
    refine rr_ishr d_Mo_feed_81 ?_
    refine rr_i2b d_Mo_feed_82 ?_
    refine rr_bast d_Mo_feed_83 rfl (vp_in_nI (n := (n + 15)) (by omega) (by decide)) ?_
    refine rr_iinc 1 d_Mo_feed_84 rfl rfl (by decide) ?_
    refine rr_goto 46 d_Mo_feed_87 (by decide) ?_
    rw [nI_clamp (n := (n + 15)) (by omega)]
    refine rr_to 46 _ [] (x0 :: x1 :: x2 :: x3 :: x4 :: x5 :: x6 :: x7 :: x8 :: x9 :: x10 :: x11 :: x12 :: x13 :: x14 :: x15 :: x16 :: x17 :: x18 :: x19 :: x20 :: x21 :: x22 :: x23 :: .inr (6, [.ref 25, .int (nI n), lt, .ref 26, .int ru, .int at0, .int sz, .int kd0, .int fr0, .int to0, .int fa, .int pa, .long nu, .ref 27, .int my, .ref 28, .ref 29, .ref 30, .ref 31, .int pcv]) :: .inl (1, 400, .inl (upd (upd (upd (upd (upd (upd (upd (upd (upd (upd (upd (upd (upd (upd (upd (upd (f) n (ta_b a 24)) (n + 1) (ta_b a 16)) (n + 2) (ta_b a 8)) (n + 3) (ta_b a 0)) (n + 4) (ta_b b 24)) (n + 5) (ta_b b 16)) (n + 6) (ta_b b 8)) (n + 7) (ta_b b 0)) (n + 8) (ta_b c 24)) (n + 9) (ta_b c 16)) (n + 10) (ta_b c 8)) (n + 11) (ta_b c 0)) (n + 12) (ta_b d 24)) (n + 13) (ta_b d 16)) (n + 14) (ta_b d 8)) (n + 15) (ta_b d 0))) :: x26 :: x27 :: x28 :: x29 :: x30 :: x31 :: .inl (0, 5, .inl (upd (upd (upd (upd (upd (fun _ => 0) 0 a) 1 b) 2 c) 3 d) 4 e)) :: []) ?_ rfl rfl rfl rfl
    refine rr_lvs [(7, .int 16), (6, .ref 32), (0, .ref 24), (1, .int a), (2, .int b), (3, .int c), (4, .int d), (5, .int e)] rfl ?_
    refine rr_iload d_Mo_feed_46 rfl ?_
    refine rr_bipush 20 d_Mo_feed_48 rfl ?_
    refine rr_icmp_ge 90 d_Mo_feed_50 (by decide) (fun c9 => absurd c9 (by decide)) (fun _ => ?_)
    refine rr_aload_n d_Mo_feed_53 rfl rfl ?_
    refine rr_getf d_Mo_feed_54 fl_Mo_9 rfl rfl ?_
    refine rr_aload_n d_Mo_feed_57 rfl rfl ?_
    refine rr_getf d_Mo_feed_58 fl_Mo_32 rfl rfl ?_
    refine rr_iload d_Mo_feed_61 rfl ?_
    refine rr_iadd d_Mo_feed_63 ?_
    rw [show (nI n + 16 : Int32) = nI (n + 16) from nI_add n 16]
    refine rr_aload d_Mo_feed_64 rfl ?_
    refine rr_iload d_Mo_feed_66 rfl ?_
    refine rr_iconst 4 d_Mo_feed_68 rfl ?_
    refine rr_idiv d_Mo_feed_69 (by decide) ?_
    refine rr_iald d_Mo_feed_70 rfl (vp_in_nI (n := 4) (N := 5) (by decide) (by decide)) ?_
    refine rr_bipush 24 d_Mo_feed_71 rfl ?_
    refine rr_bipush 8 d_Mo_feed_73 rfl ?_
    refine rr_iload d_Mo_feed_75 rfl ?_
    refine rr_iconst 4 d_Mo_feed_77 rfl ?_
    refine rr_irem d_Mo_feed_78 (by decide) ?_
    refine rr_imul d_Mo_feed_79 ?_
    refine rr_isub d_Mo_feed_80 ?_
    refine rr_ishr d_Mo_feed_81 ?_
    refine rr_i2b d_Mo_feed_82 ?_
    refine rr_bast d_Mo_feed_83 rfl (vp_in_nI (n := (n + 16)) (by omega) (by decide)) ?_
    refine rr_iinc 1 d_Mo_feed_84 rfl rfl (by decide) ?_
    refine rr_goto 46 d_Mo_feed_87 (by decide) ?_
    rw [nI_clamp (n := (n + 16)) (by omega)]
    refine rr_to 46 _ [] (x0 :: x1 :: x2 :: x3 :: x4 :: x5 :: x6 :: x7 :: x8 :: x9 :: x10 :: x11 :: x12 :: x13 :: x14 :: x15 :: x16 :: x17 :: x18 :: x19 :: x20 :: x21 :: x22 :: x23 :: .inr (6, [.ref 25, .int (nI n), lt, .ref 26, .int ru, .int at0, .int sz, .int kd0, .int fr0, .int to0, .int fa, .int pa, .long nu, .ref 27, .int my, .ref 28, .ref 29, .ref 30, .ref 31, .int pcv]) :: .inl (1, 400, .inl (upd (upd (upd (upd (upd (upd (upd (upd (upd (upd (upd (upd (upd (upd (upd (upd (upd (f) n (ta_b a 24)) (n + 1) (ta_b a 16)) (n + 2) (ta_b a 8)) (n + 3) (ta_b a 0)) (n + 4) (ta_b b 24)) (n + 5) (ta_b b 16)) (n + 6) (ta_b b 8)) (n + 7) (ta_b b 0)) (n + 8) (ta_b c 24)) (n + 9) (ta_b c 16)) (n + 10) (ta_b c 8)) (n + 11) (ta_b c 0)) (n + 12) (ta_b d 24)) (n + 13) (ta_b d 16)) (n + 14) (ta_b d 8)) (n + 15) (ta_b d 0)) (n + 16) (ta_b e 24))) :: x26 :: x27 :: x28 :: x29 :: x30 :: x31 :: .inl (0, 5, .inl (upd (upd (upd (upd (upd (fun _ => 0) 0 a) 1 b) 2 c) 3 d) 4 e)) :: []) ?_ rfl rfl rfl rfl
    refine rr_lvs [(7, .int 17), (6, .ref 32), (0, .ref 24), (1, .int a), (2, .int b), (3, .int c), (4, .int d), (5, .int e)] rfl ?_
    refine rr_iload d_Mo_feed_46 rfl ?_
    refine rr_bipush 20 d_Mo_feed_48 rfl ?_
    refine rr_icmp_ge 90 d_Mo_feed_50 (by decide) (fun c9 => absurd c9 (by decide)) (fun _ => ?_)
    refine rr_aload_n d_Mo_feed_53 rfl rfl ?_
    refine rr_getf d_Mo_feed_54 fl_Mo_9 rfl rfl ?_
    refine rr_aload_n d_Mo_feed_57 rfl rfl ?_
    refine rr_getf d_Mo_feed_58 fl_Mo_32 rfl rfl ?_
    refine rr_iload d_Mo_feed_61 rfl ?_
    refine rr_iadd d_Mo_feed_63 ?_
    rw [show (nI n + 17 : Int32) = nI (n + 17) from nI_add n 17]
    refine rr_aload d_Mo_feed_64 rfl ?_
    refine rr_iload d_Mo_feed_66 rfl ?_
    refine rr_iconst 4 d_Mo_feed_68 rfl ?_
    refine rr_idiv d_Mo_feed_69 (by decide) ?_
    refine rr_iald d_Mo_feed_70 rfl (vp_in_nI (n := 4) (N := 5) (by decide) (by decide)) ?_
    refine rr_bipush 24 d_Mo_feed_71 rfl ?_
    refine rr_bipush 8 d_Mo_feed_73 rfl ?_
    refine rr_iload d_Mo_feed_75 rfl ?_
    refine rr_iconst 4 d_Mo_feed_77 rfl ?_
    refine rr_irem d_Mo_feed_78 (by decide) ?_
    refine rr_imul d_Mo_feed_79 ?_
    refine rr_isub d_Mo_feed_80 ?_
    refine rr_ishr d_Mo_feed_81 ?_
    refine rr_i2b d_Mo_feed_82 ?_
    refine rr_bast d_Mo_feed_83 rfl (vp_in_nI (n := (n + 17)) (by omega) (by decide)) ?_
    refine rr_iinc 1 d_Mo_feed_84 rfl rfl (by decide) ?_
    refine rr_goto 46 d_Mo_feed_87 (by decide) ?_
    rw [nI_clamp (n := (n + 17)) (by omega)]
    refine rr_to 46 _ [] (x0 :: x1 :: x2 :: x3 :: x4 :: x5 :: x6 :: x7 :: x8 :: x9 :: x10 :: x11 :: x12 :: x13 :: x14 :: x15 :: x16 :: x17 :: x18 :: x19 :: x20 :: x21 :: x22 :: x23 :: .inr (6, [.ref 25, .int (nI n), lt, .ref 26, .int ru, .int at0, .int sz, .int kd0, .int fr0, .int to0, .int fa, .int pa, .long nu, .ref 27, .int my, .ref 28, .ref 29, .ref 30, .ref 31, .int pcv]) :: .inl (1, 400, .inl (upd (upd (upd (upd (upd (upd (upd (upd (upd (upd (upd (upd (upd (upd (upd (upd (upd (upd (f) n (ta_b a 24)) (n + 1) (ta_b a 16)) (n + 2) (ta_b a 8)) (n + 3) (ta_b a 0)) (n + 4) (ta_b b 24)) (n + 5) (ta_b b 16)) (n + 6) (ta_b b 8)) (n + 7) (ta_b b 0)) (n + 8) (ta_b c 24)) (n + 9) (ta_b c 16)) (n + 10) (ta_b c 8)) (n + 11) (ta_b c 0)) (n + 12) (ta_b d 24)) (n + 13) (ta_b d 16)) (n + 14) (ta_b d 8)) (n + 15) (ta_b d 0)) (n + 16) (ta_b e 24)) (n + 17) (ta_b e 16))) :: x26 :: x27 :: x28 :: x29 :: x30 :: x31 :: .inl (0, 5, .inl (upd (upd (upd (upd (upd (fun _ => 0) 0 a) 1 b) 2 c) 3 d) 4 e)) :: []) ?_ rfl rfl rfl rfl
    refine rr_lvs [(7, .int 18), (6, .ref 32), (0, .ref 24), (1, .int a), (2, .int b), (3, .int c), (4, .int d), (5, .int e)] rfl ?_
    refine rr_iload d_Mo_feed_46 rfl ?_
    refine rr_bipush 20 d_Mo_feed_48 rfl ?_
    refine rr_icmp_ge 90 d_Mo_feed_50 (by decide) (fun c9 => absurd c9 (by decide)) (fun _ => ?_)
    refine rr_aload_n d_Mo_feed_53 rfl rfl ?_
    refine rr_getf d_Mo_feed_54 fl_Mo_9 rfl rfl ?_
    refine rr_aload_n d_Mo_feed_57 rfl rfl ?_
    refine rr_getf d_Mo_feed_58 fl_Mo_32 rfl rfl ?_
    refine rr_iload d_Mo_feed_61 rfl ?_
    refine rr_iadd d_Mo_feed_63 ?_
    rw [show (nI n + 18 : Int32) = nI (n + 18) from nI_add n 18]
    refine rr_aload d_Mo_feed_64 rfl ?_
    refine rr_iload d_Mo_feed_66 rfl ?_
    refine rr_iconst 4 d_Mo_feed_68 rfl ?_
    refine rr_idiv d_Mo_feed_69 (by decide) ?_
    refine rr_iald d_Mo_feed_70 rfl (vp_in_nI (n := 4) (N := 5) (by decide) (by decide)) ?_
    refine rr_bipush 24 d_Mo_feed_71 rfl ?_
    refine rr_bipush 8 d_Mo_feed_73 rfl ?_
    refine rr_iload d_Mo_feed_75 rfl ?_
    refine rr_iconst 4 d_Mo_feed_77 rfl ?_
    refine rr_irem d_Mo_feed_78 (by decide) ?_
    refine rr_imul d_Mo_feed_79 ?_
    refine rr_isub d_Mo_feed_80 ?_
    refine rr_ishr d_Mo_feed_81 ?_
    refine rr_i2b d_Mo_feed_82 ?_
    refine rr_bast d_Mo_feed_83 rfl (vp_in_nI (n := (n + 18)) (by omega) (by decide)) ?_
    refine rr_iinc 1 d_Mo_feed_84 rfl rfl (by decide) ?_
    refine rr_goto 46 d_Mo_feed_87 (by decide) ?_
    rw [nI_clamp (n := (n + 18)) (by omega)]
    refine rr_to 46 _ [] (x0 :: x1 :: x2 :: x3 :: x4 :: x5 :: x6 :: x7 :: x8 :: x9 :: x10 :: x11 :: x12 :: x13 :: x14 :: x15 :: x16 :: x17 :: x18 :: x19 :: x20 :: x21 :: x22 :: x23 :: .inr (6, [.ref 25, .int (nI n), lt, .ref 26, .int ru, .int at0, .int sz, .int kd0, .int fr0, .int to0, .int fa, .int pa, .long nu, .ref 27, .int my, .ref 28, .ref 29, .ref 30, .ref 31, .int pcv]) :: .inl (1, 400, .inl (upd (upd (upd (upd (upd (upd (upd (upd (upd (upd (upd (upd (upd (upd (upd (upd (upd (upd (upd (f) n (ta_b a 24)) (n + 1) (ta_b a 16)) (n + 2) (ta_b a 8)) (n + 3) (ta_b a 0)) (n + 4) (ta_b b 24)) (n + 5) (ta_b b 16)) (n + 6) (ta_b b 8)) (n + 7) (ta_b b 0)) (n + 8) (ta_b c 24)) (n + 9) (ta_b c 16)) (n + 10) (ta_b c 8)) (n + 11) (ta_b c 0)) (n + 12) (ta_b d 24)) (n + 13) (ta_b d 16)) (n + 14) (ta_b d 8)) (n + 15) (ta_b d 0)) (n + 16) (ta_b e 24)) (n + 17) (ta_b e 16)) (n + 18) (ta_b e 8))) :: x26 :: x27 :: x28 :: x29 :: x30 :: x31 :: .inl (0, 5, .inl (upd (upd (upd (upd (upd (fun _ => 0) 0 a) 1 b) 2 c) 3 d) 4 e)) :: []) ?_ rfl rfl rfl rfl
    refine rr_lvs [(7, .int 19), (6, .ref 32), (0, .ref 24), (1, .int a), (2, .int b), (3, .int c), (4, .int d), (5, .int e)] rfl ?_
    refine rr_iload d_Mo_feed_46 rfl ?_
    refine rr_bipush 20 d_Mo_feed_48 rfl ?_
    refine rr_icmp_ge 90 d_Mo_feed_50 (by decide) (fun c9 => absurd c9 (by decide)) (fun _ => ?_)
    refine rr_aload_n d_Mo_feed_53 rfl rfl ?_
    refine rr_getf d_Mo_feed_54 fl_Mo_9 rfl rfl ?_
    refine rr_aload_n d_Mo_feed_57 rfl rfl ?_
    refine rr_getf d_Mo_feed_58 fl_Mo_32 rfl rfl ?_
    refine rr_iload d_Mo_feed_61 rfl ?_
    refine rr_iadd d_Mo_feed_63 ?_
    rw [show (nI n + 19 : Int32) = nI (n + 19) from nI_add n 19]
    refine rr_aload d_Mo_feed_64 rfl ?_
    refine rr_iload d_Mo_feed_66 rfl ?_
    refine rr_iconst 4 d_Mo_feed_68 rfl ?_
    refine rr_idiv d_Mo_feed_69 (by decide) ?_
    refine rr_iald d_Mo_feed_70 rfl (vp_in_nI (n := 4) (N := 5) (by decide) (by decide)) ?_
    refine rr_bipush 24 d_Mo_feed_71 rfl ?_
    refine rr_bipush 8 d_Mo_feed_73 rfl ?_
    refine rr_iload d_Mo_feed_75 rfl ?_
    refine rr_iconst 4 d_Mo_feed_77 rfl ?_
    refine rr_irem d_Mo_feed_78 (by decide) ?_
    refine rr_imul d_Mo_feed_79 ?_
    refine rr_isub d_Mo_feed_80 ?_
    refine rr_ishr d_Mo_feed_81 ?_
    refine rr_i2b d_Mo_feed_82 ?_
    refine rr_bast d_Mo_feed_83 rfl (vp_in_nI (n := (n + 19)) (by omega) (by decide)) ?_
    refine rr_iinc 1 d_Mo_feed_84 rfl rfl (by decide) ?_
    refine rr_goto 46 d_Mo_feed_87 (by decide) ?_
    rw [nI_clamp (n := (n + 19)) (by omega)]
    refine rr_to 46 _ [] (x0 :: x1 :: x2 :: x3 :: x4 :: x5 :: x6 :: x7 :: x8 :: x9 :: x10 :: x11 :: x12 :: x13 :: x14 :: x15 :: x16 :: x17 :: x18 :: x19 :: x20 :: x21 :: x22 :: x23 :: .inr (6, [.ref 25, .int (nI n), lt, .ref 26, .int ru, .int at0, .int sz, .int kd0, .int fr0, .int to0, .int fa, .int pa, .long nu, .ref 27, .int my, .ref 28, .ref 29, .ref 30, .ref 31, .int pcv]) :: .inl (1, 400, .inl (upd (upd (upd (upd (upd (upd (upd (upd (upd (upd (upd (upd (upd (upd (upd (upd (upd (upd (upd (upd (f) n (ta_b a 24)) (n + 1) (ta_b a 16)) (n + 2) (ta_b a 8)) (n + 3) (ta_b a 0)) (n + 4) (ta_b b 24)) (n + 5) (ta_b b 16)) (n + 6) (ta_b b 8)) (n + 7) (ta_b b 0)) (n + 8) (ta_b c 24)) (n + 9) (ta_b c 16)) (n + 10) (ta_b c 8)) (n + 11) (ta_b c 0)) (n + 12) (ta_b d 24)) (n + 13) (ta_b d 16)) (n + 14) (ta_b d 8)) (n + 15) (ta_b d 0)) (n + 16) (ta_b e 24)) (n + 17) (ta_b e 16)) (n + 18) (ta_b e 8)) (n + 19) (ta_b e 0))) :: x26 :: x27 :: x28 :: x29 :: x30 :: x31 :: .inl (0, 5, .inl (upd (upd (upd (upd (upd (fun _ => 0) 0 a) 1 b) 2 c) 3 d) 4 e)) :: []) ?_ rfl rfl rfl rfl
    refine rr_iload d_Mo_feed_46 rfl ?_
    refine rr_bipush 20 d_Mo_feed_48 rfl ?_
    refine rr_icmp_ge 90 d_Mo_feed_50 (by decide) (fun _ => ?_) (fun c9 => absurd (by decide) c9)
    refine rr_aload_n d_Mo_feed_90 rfl rfl ?_
    refine rr_dup d_Mo_feed_91 rfl ?_
    refine rr_getf d_Mo_feed_92 fl_Mo_32 rfl rfl ?_
    refine rr_bipush 20 d_Mo_feed_95 rfl ?_
    refine rr_iadd d_Mo_feed_97 ?_
    rw [show (nI n + 20 : Int32) = nI (n + 20) from nI_add n 20]
    refine rr_putf d_Mo_feed_98 fl_Mo_32 rfl rfl rfl rfl ?_
    refine rr_aload_n d_Mo_feed_101 rfl rfl ?_
    refine rr_getf d_Mo_feed_102 fl_Mo_32 rfl rfl ?_
    exact rr_ireturn d_Mo_feed_105 rfl rfl (Nat.le_of_ble_eq_true rfl) (Nat.le_of_ble_eq_true rfl) (⟨rfl, rfl⟩)
  · have h20 : ¬ n + 20 ≤ 400 := fun q => hc ((nI_leI (by omega) (by decide)).mpr q)
    simp only [if_neg h20]
    refine rr_bipush (-3) d_Mo_feed_13 rfl ?_
    exact rr_ireturn d_Mo_feed_15 rfl rfl (Nat.le_of_ble_eq_true rfl) (Nat.le_of_ble_eq_true rfl) (⟨rfl, rfl⟩)

set_option maxRecDepth 100000 in
set_option maxHeartbeats 4000000 in
theorem s_Mo_feed_1 {x0 x1 x2 x3 x4 x5 x6 x7 x8 x9 x10 x11 x12 x13 x14 x15 x16 x17 x18 x19 x20 x21 x22 x23 x26 x27 x28 x29 x30 x31 x32 : va_E} {ru at0 sz kd0 fr0 to0 fa pa my pcv : Int32} {nu : Int64} {lt : Value} {n : Nat} {f : Nat → Int32} {a b c d e : Int32} (hn : n ≤ 400) : rr_Spec 1 y_Mo_feed c_Mo_feed 8 (some .int) 1 5 [.ref 24, .int a, .int b, .int c, .int d, .int e] (x0 :: x1 :: x2 :: x3 :: x4 :: x5 :: x6 :: x7 :: x8 :: x9 :: x10 :: x11 :: x12 :: x13 :: x14 :: x15 :: x16 :: x17 :: x18 :: x19 :: x20 :: x21 :: x22 :: x23 :: .inr (6, [.ref 25, .int (nI n), lt, .ref 26, .int ru, .int at0, .int sz, .int kd0, .int fr0, .int to0, .int fa, .int pa, .long nu, .ref 27, .int my, .ref 28, .ref 29, .ref 30, .ref 31, .int pcv]) :: .inl (1, 400, .inl (f)) :: x26 :: x27 :: x28 :: x29 :: x30 :: x31 :: x32 :: []) (fun r h1 => if n + 20 ≤ 400 then r = some (.int (nI (n + 20))) ∧ h1 = x0 :: x1 :: x2 :: x3 :: x4 :: x5 :: x6 :: x7 :: x8 :: x9 :: x10 :: x11 :: x12 :: x13 :: x14 :: x15 :: x16 :: x17 :: x18 :: x19 :: x20 :: x21 :: x22 :: x23 :: .inr (6, [.ref 25, .int (nI (n + 20)), lt, .ref 26, .int ru, .int at0, .int sz, .int kd0, .int fr0, .int to0, .int fa, .int pa, .long nu, .ref 27, .int my, .ref 28, .ref 29, .ref 30, .ref 31, .int pcv]) :: .inl (1, 400, .inl (ta_20 f n a b c d e)) :: x26 :: x27 :: x28 :: x29 :: x30 :: x31 :: x32 :: .inl (0, 5, .inl (upd (upd (upd (upd (upd (fun _ => 0) 0 a) 1 b) 2 c) 3 d) 4 e)) :: [] else r = some (.int (-3)) ∧ h1 = x0 :: x1 :: x2 :: x3 :: x4 :: x5 :: x6 :: x7 :: x8 :: x9 :: x10 :: x11 :: x12 :: x13 :: x14 :: x15 :: x16 :: x17 :: x18 :: x19 :: x20 :: x21 :: x22 :: x23 :: .inr (6, [.ref 25, .int (nI n), lt, .ref 26, .int ru, .int at0, .int sz, .int kd0, .int fr0, .int to0, .int fa, .int pa, .long nu, .ref 27, .int my, .ref 28, .ref 29, .ref 30, .ref 31, .int pcv]) :: .inl (1, 400, .inl (f)) :: x26 :: x27 :: x28 :: x29 :: x30 :: x31 :: x32 :: []) := by
  refine rr_met (own := R_Mo) (kd := (false, none)) (by decide +kernel) rfl (fun h => by cases h) rfl (Nat.le_of_ble_eq_true rfl) ?_
  refine rr_aload_n d_Mo_feed_0 rfl rfl ?_
  refine rr_getf d_Mo_feed_1 fl_Mo_32 rfl rfl ?_
  refine rr_bipush 20 d_Mo_feed_4 rfl ?_
  refine rr_iadd d_Mo_feed_6 ?_
  refine rr_sipush 400 d_Mo_feed_7 rfl ?_
  rw [show (nI n + 20 : Int32) = nI (n + 20) from nI_add n 20]
  refine rr_icmp_le 16 d_Mo_feed_10 (by decide) (fun hc => ?_) (fun hc => ?_)
  · have h20 : n + 20 ≤ 400 := (nI_leI (by omega) (by decide)).mp hc
    simp only [if_pos h20]
    refine rr_iconst 5 d_Mo_feed_16 rfl ?_
    refine rr_newI (5) d_Mo_feed_17 (by decide) (by decide) (Nat.le_of_ble_eq_true rfl) (Nat.le_of_ble_eq_true rfl) (Nat.le_of_ble_eq_true rfl) (Nat.le_of_ble_eq_true rfl) ?_
    refine rr_dup d_Mo_feed_19 rfl ?_
    refine rr_iconst 0 d_Mo_feed_20 rfl ?_
    refine rr_iload_n d_Mo_feed_21 rfl rfl ?_
    refine rr_iast d_Mo_feed_22 rfl (vp_in_nI (n := 0) (N := 5) (by decide) (by decide)) ?_
    refine rr_dup d_Mo_feed_23 rfl ?_
    refine rr_iconst 1 d_Mo_feed_24 rfl ?_
    refine rr_iload_n d_Mo_feed_25 rfl rfl ?_
    refine rr_iast d_Mo_feed_26 rfl (vp_in_nI (n := 1) (N := 5) (by decide) (by decide)) ?_
    refine rr_dup d_Mo_feed_27 rfl ?_
    refine rr_iconst 2 d_Mo_feed_28 rfl ?_
    refine rr_iload_n d_Mo_feed_29 rfl rfl ?_
    refine rr_iast d_Mo_feed_30 rfl (vp_in_nI (n := 2) (N := 5) (by decide) (by decide)) ?_
    refine rr_dup d_Mo_feed_31 rfl ?_
    refine rr_iconst 3 d_Mo_feed_32 rfl ?_
    refine rr_iload d_Mo_feed_33 rfl ?_
    refine rr_iast d_Mo_feed_35 rfl (vp_in_nI (n := 3) (N := 5) (by decide) (by decide)) ?_
    refine rr_dup d_Mo_feed_36 rfl ?_
    refine rr_iconst 4 d_Mo_feed_37 rfl ?_
    refine rr_iload d_Mo_feed_38 rfl ?_
    refine rr_iast d_Mo_feed_40 rfl (vp_in_nI (n := 4) (N := 5) (by decide) (by decide)) ?_
    refine rr_astore d_Mo_feed_41 (by decide) ?_
    refine rr_iconst 0 d_Mo_feed_43 rfl ?_
    refine rr_istore d_Mo_feed_44 (by decide) ?_
    refine rr_to 46 _ [] (x0 :: x1 :: x2 :: x3 :: x4 :: x5 :: x6 :: x7 :: x8 :: x9 :: x10 :: x11 :: x12 :: x13 :: x14 :: x15 :: x16 :: x17 :: x18 :: x19 :: x20 :: x21 :: x22 :: x23 :: .inr (6, [.ref 25, .int (nI n), lt, .ref 26, .int ru, .int at0, .int sz, .int kd0, .int fr0, .int to0, .int fa, .int pa, .long nu, .ref 27, .int my, .ref 28, .ref 29, .ref 30, .ref 31, .int pcv]) :: .inl (1, 400, .inl (f)) :: x26 :: x27 :: x28 :: x29 :: x30 :: x31 :: x32 :: .inl (0, 5, .inl (upd (upd (upd (upd (upd (fun _ => 0) 0 a) 1 b) 2 c) 3 d) 4 e)) :: []) ?_ rfl rfl rfl rfl
    refine rr_lvs [(7, .int 0), (6, .ref 33), (0, .ref 24), (1, .int a), (2, .int b), (3, .int c), (4, .int d), (5, .int e)] rfl ?_
    refine rr_iload d_Mo_feed_46 rfl ?_
    refine rr_bipush 20 d_Mo_feed_48 rfl ?_
    refine rr_icmp_ge 90 d_Mo_feed_50 (by decide) (fun c9 => absurd c9 (by decide)) (fun _ => ?_)
    refine rr_aload_n d_Mo_feed_53 rfl rfl ?_
    refine rr_getf d_Mo_feed_54 fl_Mo_9 rfl rfl ?_
    refine rr_aload_n d_Mo_feed_57 rfl rfl ?_
    refine rr_getf d_Mo_feed_58 fl_Mo_32 rfl rfl ?_
    refine rr_iload d_Mo_feed_61 rfl ?_
    refine rr_iadd d_Mo_feed_63 ?_
    rw [show (nI n + 0 : Int32) = nI n from nI_add n 0]
    refine rr_aload d_Mo_feed_64 rfl ?_
    refine rr_iload d_Mo_feed_66 rfl ?_
    refine rr_iconst 4 d_Mo_feed_68 rfl ?_
    refine rr_idiv d_Mo_feed_69 (by decide) ?_
    refine rr_iald d_Mo_feed_70 rfl (vp_in_nI (n := 0) (N := 5) (by decide) (by decide)) ?_
    refine rr_bipush 24 d_Mo_feed_71 rfl ?_
    refine rr_bipush 8 d_Mo_feed_73 rfl ?_
    refine rr_iload d_Mo_feed_75 rfl ?_
    refine rr_iconst 4 d_Mo_feed_77 rfl ?_
    refine rr_irem d_Mo_feed_78 (by decide) ?_
    refine rr_imul d_Mo_feed_79 ?_
    refine rr_isub d_Mo_feed_80 ?_
    refine rr_ishr d_Mo_feed_81 ?_
    refine rr_i2b d_Mo_feed_82 ?_
    refine rr_bast d_Mo_feed_83 rfl (vp_in_nI (n := n) (by omega) (by decide)) ?_
    refine rr_iinc 1 d_Mo_feed_84 rfl rfl (by decide) ?_
    refine rr_goto 46 d_Mo_feed_87 (by decide) ?_
    rw [nI_clamp (n := n) (by omega)]
    refine rr_to 46 _ [] (x0 :: x1 :: x2 :: x3 :: x4 :: x5 :: x6 :: x7 :: x8 :: x9 :: x10 :: x11 :: x12 :: x13 :: x14 :: x15 :: x16 :: x17 :: x18 :: x19 :: x20 :: x21 :: x22 :: x23 :: .inr (6, [.ref 25, .int (nI n), lt, .ref 26, .int ru, .int at0, .int sz, .int kd0, .int fr0, .int to0, .int fa, .int pa, .long nu, .ref 27, .int my, .ref 28, .ref 29, .ref 30, .ref 31, .int pcv]) :: .inl (1, 400, .inl (upd (f) n (ta_b a 24))) :: x26 :: x27 :: x28 :: x29 :: x30 :: x31 :: x32 :: .inl (0, 5, .inl (upd (upd (upd (upd (upd (fun _ => 0) 0 a) 1 b) 2 c) 3 d) 4 e)) :: []) ?_ rfl rfl rfl rfl
    refine rr_lvs [(7, .int 1), (6, .ref 33), (0, .ref 24), (1, .int a), (2, .int b), (3, .int c), (4, .int d), (5, .int e)] rfl ?_
    refine rr_iload d_Mo_feed_46 rfl ?_
    refine rr_bipush 20 d_Mo_feed_48 rfl ?_
    refine rr_icmp_ge 90 d_Mo_feed_50 (by decide) (fun c9 => absurd c9 (by decide)) (fun _ => ?_)
    refine rr_aload_n d_Mo_feed_53 rfl rfl ?_
    refine rr_getf d_Mo_feed_54 fl_Mo_9 rfl rfl ?_
    refine rr_aload_n d_Mo_feed_57 rfl rfl ?_
    refine rr_getf d_Mo_feed_58 fl_Mo_32 rfl rfl ?_
    refine rr_iload d_Mo_feed_61 rfl ?_
    refine rr_iadd d_Mo_feed_63 ?_
    rw [show (nI n + 1 : Int32) = nI (n + 1) from nI_add n 1]
    refine rr_aload d_Mo_feed_64 rfl ?_
    refine rr_iload d_Mo_feed_66 rfl ?_
    refine rr_iconst 4 d_Mo_feed_68 rfl ?_
    refine rr_idiv d_Mo_feed_69 (by decide) ?_
    refine rr_iald d_Mo_feed_70 rfl (vp_in_nI (n := 0) (N := 5) (by decide) (by decide)) ?_
    refine rr_bipush 24 d_Mo_feed_71 rfl ?_
    refine rr_bipush 8 d_Mo_feed_73 rfl ?_
    refine rr_iload d_Mo_feed_75 rfl ?_
    refine rr_iconst 4 d_Mo_feed_77 rfl ?_
    refine rr_irem d_Mo_feed_78 (by decide) ?_
    refine rr_imul d_Mo_feed_79 ?_
    refine rr_isub d_Mo_feed_80 ?_
    refine rr_ishr d_Mo_feed_81 ?_
    refine rr_i2b d_Mo_feed_82 ?_
    refine rr_bast d_Mo_feed_83 rfl (vp_in_nI (n := (n + 1)) (by omega) (by decide)) ?_
    refine rr_iinc 1 d_Mo_feed_84 rfl rfl (by decide) ?_
    refine rr_goto 46 d_Mo_feed_87 (by decide) ?_
    rw [nI_clamp (n := (n + 1)) (by omega)]
    refine rr_to 46 _ [] (x0 :: x1 :: x2 :: x3 :: x4 :: x5 :: x6 :: x7 :: x8 :: x9 :: x10 :: x11 :: x12 :: x13 :: x14 :: x15 :: x16 :: x17 :: x18 :: x19 :: x20 :: x21 :: x22 :: x23 :: .inr (6, [.ref 25, .int (nI n), lt, .ref 26, .int ru, .int at0, .int sz, .int kd0, .int fr0, .int to0, .int fa, .int pa, .long nu, .ref 27, .int my, .ref 28, .ref 29, .ref 30, .ref 31, .int pcv]) :: .inl (1, 400, .inl (upd (upd (f) n (ta_b a 24)) (n + 1) (ta_b a 16))) :: x26 :: x27 :: x28 :: x29 :: x30 :: x31 :: x32 :: .inl (0, 5, .inl (upd (upd (upd (upd (upd (fun _ => 0) 0 a) 1 b) 2 c) 3 d) 4 e)) :: []) ?_ rfl rfl rfl rfl
    refine rr_lvs [(7, .int 2), (6, .ref 33), (0, .ref 24), (1, .int a), (2, .int b), (3, .int c), (4, .int d), (5, .int e)] rfl ?_
    refine rr_iload d_Mo_feed_46 rfl ?_
    refine rr_bipush 20 d_Mo_feed_48 rfl ?_
    refine rr_icmp_ge 90 d_Mo_feed_50 (by decide) (fun c9 => absurd c9 (by decide)) (fun _ => ?_)
    refine rr_aload_n d_Mo_feed_53 rfl rfl ?_
    refine rr_getf d_Mo_feed_54 fl_Mo_9 rfl rfl ?_
    refine rr_aload_n d_Mo_feed_57 rfl rfl ?_
    refine rr_getf d_Mo_feed_58 fl_Mo_32 rfl rfl ?_
    refine rr_iload d_Mo_feed_61 rfl ?_
    refine rr_iadd d_Mo_feed_63 ?_
    rw [show (nI n + 2 : Int32) = nI (n + 2) from nI_add n 2]
    refine rr_aload d_Mo_feed_64 rfl ?_
    refine rr_iload d_Mo_feed_66 rfl ?_
    refine rr_iconst 4 d_Mo_feed_68 rfl ?_
    refine rr_idiv d_Mo_feed_69 (by decide) ?_
    refine rr_iald d_Mo_feed_70 rfl (vp_in_nI (n := 0) (N := 5) (by decide) (by decide)) ?_
    refine rr_bipush 24 d_Mo_feed_71 rfl ?_
    refine rr_bipush 8 d_Mo_feed_73 rfl ?_
    refine rr_iload d_Mo_feed_75 rfl ?_
    refine rr_iconst 4 d_Mo_feed_77 rfl ?_
    refine rr_irem d_Mo_feed_78 (by decide) ?_
    refine rr_imul d_Mo_feed_79 ?_
    refine rr_isub d_Mo_feed_80 ?_
    refine rr_ishr d_Mo_feed_81 ?_
    refine rr_i2b d_Mo_feed_82 ?_
    refine rr_bast d_Mo_feed_83 rfl (vp_in_nI (n := (n + 2)) (by omega) (by decide)) ?_
    refine rr_iinc 1 d_Mo_feed_84 rfl rfl (by decide) ?_
    refine rr_goto 46 d_Mo_feed_87 (by decide) ?_
    rw [nI_clamp (n := (n + 2)) (by omega)]
    refine rr_to 46 _ [] (x0 :: x1 :: x2 :: x3 :: x4 :: x5 :: x6 :: x7 :: x8 :: x9 :: x10 :: x11 :: x12 :: x13 :: x14 :: x15 :: x16 :: x17 :: x18 :: x19 :: x20 :: x21 :: x22 :: x23 :: .inr (6, [.ref 25, .int (nI n), lt, .ref 26, .int ru, .int at0, .int sz, .int kd0, .int fr0, .int to0, .int fa, .int pa, .long nu, .ref 27, .int my, .ref 28, .ref 29, .ref 30, .ref 31, .int pcv]) :: .inl (1, 400, .inl (upd (upd (upd (f) n (ta_b a 24)) (n + 1) (ta_b a 16)) (n + 2) (ta_b a 8))) :: x26 :: x27 :: x28 :: x29 :: x30 :: x31 :: x32 :: .inl (0, 5, .inl (upd (upd (upd (upd (upd (fun _ => 0) 0 a) 1 b) 2 c) 3 d) 4 e)) :: []) ?_ rfl rfl rfl rfl
    refine rr_lvs [(7, .int 3), (6, .ref 33), (0, .ref 24), (1, .int a), (2, .int b), (3, .int c), (4, .int d), (5, .int e)] rfl ?_
    refine rr_iload d_Mo_feed_46 rfl ?_
    refine rr_bipush 20 d_Mo_feed_48 rfl ?_
    refine rr_icmp_ge 90 d_Mo_feed_50 (by decide) (fun c9 => absurd c9 (by decide)) (fun _ => ?_)
    refine rr_aload_n d_Mo_feed_53 rfl rfl ?_
    refine rr_getf d_Mo_feed_54 fl_Mo_9 rfl rfl ?_
    refine rr_aload_n d_Mo_feed_57 rfl rfl ?_
    refine rr_getf d_Mo_feed_58 fl_Mo_32 rfl rfl ?_
    refine rr_iload d_Mo_feed_61 rfl ?_
    refine rr_iadd d_Mo_feed_63 ?_
    rw [show (nI n + 3 : Int32) = nI (n + 3) from nI_add n 3]
    refine rr_aload d_Mo_feed_64 rfl ?_
    refine rr_iload d_Mo_feed_66 rfl ?_
    refine rr_iconst 4 d_Mo_feed_68 rfl ?_
    refine rr_idiv d_Mo_feed_69 (by decide) ?_
    refine rr_iald d_Mo_feed_70 rfl (vp_in_nI (n := 0) (N := 5) (by decide) (by decide)) ?_
    refine rr_bipush 24 d_Mo_feed_71 rfl ?_
    refine rr_bipush 8 d_Mo_feed_73 rfl ?_
    refine rr_iload d_Mo_feed_75 rfl ?_
    refine rr_iconst 4 d_Mo_feed_77 rfl ?_
    refine rr_irem d_Mo_feed_78 (by decide) ?_
    refine rr_imul d_Mo_feed_79 ?_
    refine rr_isub d_Mo_feed_80 ?_
    refine rr_ishr d_Mo_feed_81 ?_
    refine rr_i2b d_Mo_feed_82 ?_
    refine rr_bast d_Mo_feed_83 rfl (vp_in_nI (n := (n + 3)) (by omega) (by decide)) ?_
    refine rr_iinc 1 d_Mo_feed_84 rfl rfl (by decide) ?_
    refine rr_goto 46 d_Mo_feed_87 (by decide) ?_
    rw [nI_clamp (n := (n + 3)) (by omega)]
    refine rr_to 46 _ [] (x0 :: x1 :: x2 :: x3 :: x4 :: x5 :: x6 :: x7 :: x8 :: x9 :: x10 :: x11 :: x12 :: x13 :: x14 :: x15 :: x16 :: x17 :: x18 :: x19 :: x20 :: x21 :: x22 :: x23 :: .inr (6, [.ref 25, .int (nI n), lt, .ref 26, .int ru, .int at0, .int sz, .int kd0, .int fr0, .int to0, .int fa, .int pa, .long nu, .ref 27, .int my, .ref 28, .ref 29, .ref 30, .ref 31, .int pcv]) :: .inl (1, 400, .inl (upd (upd (upd (upd (f) n (ta_b a 24)) (n + 1) (ta_b a 16)) (n + 2) (ta_b a 8)) (n + 3) (ta_b a 0))) :: x26 :: x27 :: x28 :: x29 :: x30 :: x31 :: x32 :: .inl (0, 5, .inl (upd (upd (upd (upd (upd (fun _ => 0) 0 a) 1 b) 2 c) 3 d) 4 e)) :: []) ?_ rfl rfl rfl rfl
    refine rr_lvs [(7, .int 4), (6, .ref 33), (0, .ref 24), (1, .int a), (2, .int b), (3, .int c), (4, .int d), (5, .int e)] rfl ?_
    refine rr_iload d_Mo_feed_46 rfl ?_
    refine rr_bipush 20 d_Mo_feed_48 rfl ?_
    refine rr_icmp_ge 90 d_Mo_feed_50 (by decide) (fun c9 => absurd c9 (by decide)) (fun _ => ?_)
    refine rr_aload_n d_Mo_feed_53 rfl rfl ?_
    refine rr_getf d_Mo_feed_54 fl_Mo_9 rfl rfl ?_
    refine rr_aload_n d_Mo_feed_57 rfl rfl ?_
    refine rr_getf d_Mo_feed_58 fl_Mo_32 rfl rfl ?_
    refine rr_iload d_Mo_feed_61 rfl ?_
    refine rr_iadd d_Mo_feed_63 ?_
    rw [show (nI n + 4 : Int32) = nI (n + 4) from nI_add n 4]
    refine rr_aload d_Mo_feed_64 rfl ?_
    refine rr_iload d_Mo_feed_66 rfl ?_
    refine rr_iconst 4 d_Mo_feed_68 rfl ?_
    refine rr_idiv d_Mo_feed_69 (by decide) ?_
    refine rr_iald d_Mo_feed_70 rfl (vp_in_nI (n := 1) (N := 5) (by decide) (by decide)) ?_
    refine rr_bipush 24 d_Mo_feed_71 rfl ?_
    refine rr_bipush 8 d_Mo_feed_73 rfl ?_
    refine rr_iload d_Mo_feed_75 rfl ?_
    refine rr_iconst 4 d_Mo_feed_77 rfl ?_
    refine rr_irem d_Mo_feed_78 (by decide) ?_
    refine rr_imul d_Mo_feed_79 ?_
    refine rr_isub d_Mo_feed_80 ?_
    refine rr_ishr d_Mo_feed_81 ?_
    refine rr_i2b d_Mo_feed_82 ?_
    refine rr_bast d_Mo_feed_83 rfl (vp_in_nI (n := (n + 4)) (by omega) (by decide)) ?_
    refine rr_iinc 1 d_Mo_feed_84 rfl rfl (by decide) ?_
    refine rr_goto 46 d_Mo_feed_87 (by decide) ?_
    rw [nI_clamp (n := (n + 4)) (by omega)]
    refine rr_to 46 _ [] (x0 :: x1 :: x2 :: x3 :: x4 :: x5 :: x6 :: x7 :: x8 :: x9 :: x10 :: x11 :: x12 :: x13 :: x14 :: x15 :: x16 :: x17 :: x18 :: x19 :: x20 :: x21 :: x22 :: x23 :: .inr (6, [.ref 25, .int (nI n), lt, .ref 26, .int ru, .int at0, .int sz, .int kd0, .int fr0, .int to0, .int fa, .int pa, .long nu, .ref 27, .int my, .ref 28, .ref 29, .ref 30, .ref 31, .int pcv]) :: .inl (1, 400, .inl (upd (upd (upd (upd (upd (f) n (ta_b a 24)) (n + 1) (ta_b a 16)) (n + 2) (ta_b a 8)) (n + 3) (ta_b a 0)) (n + 4) (ta_b b 24))) :: x26 :: x27 :: x28 :: x29 :: x30 :: x31 :: x32 :: .inl (0, 5, .inl (upd (upd (upd (upd (upd (fun _ => 0) 0 a) 1 b) 2 c) 3 d) 4 e)) :: []) ?_ rfl rfl rfl rfl
    refine rr_lvs [(7, .int 5), (6, .ref 33), (0, .ref 24), (1, .int a), (2, .int b), (3, .int c), (4, .int d), (5, .int e)] rfl ?_
    refine rr_iload d_Mo_feed_46 rfl ?_
    refine rr_bipush 20 d_Mo_feed_48 rfl ?_
    refine rr_icmp_ge 90 d_Mo_feed_50 (by decide) (fun c9 => absurd c9 (by decide)) (fun _ => ?_)
    refine rr_aload_n d_Mo_feed_53 rfl rfl ?_
    refine rr_getf d_Mo_feed_54 fl_Mo_9 rfl rfl ?_
    refine rr_aload_n d_Mo_feed_57 rfl rfl ?_
    refine rr_getf d_Mo_feed_58 fl_Mo_32 rfl rfl ?_
    refine rr_iload d_Mo_feed_61 rfl ?_
    refine rr_iadd d_Mo_feed_63 ?_
    rw [show (nI n + 5 : Int32) = nI (n + 5) from nI_add n 5]
    refine rr_aload d_Mo_feed_64 rfl ?_
    refine rr_iload d_Mo_feed_66 rfl ?_
    refine rr_iconst 4 d_Mo_feed_68 rfl ?_
    refine rr_idiv d_Mo_feed_69 (by decide) ?_
    refine rr_iald d_Mo_feed_70 rfl (vp_in_nI (n := 1) (N := 5) (by decide) (by decide)) ?_
    refine rr_bipush 24 d_Mo_feed_71 rfl ?_
    refine rr_bipush 8 d_Mo_feed_73 rfl ?_
    refine rr_iload d_Mo_feed_75 rfl ?_
    refine rr_iconst 4 d_Mo_feed_77 rfl ?_
    refine rr_irem d_Mo_feed_78 (by decide) ?_
    refine rr_imul d_Mo_feed_79 ?_
    refine rr_isub d_Mo_feed_80 ?_
    refine rr_ishr d_Mo_feed_81 ?_
    refine rr_i2b d_Mo_feed_82 ?_
    refine rr_bast d_Mo_feed_83 rfl (vp_in_nI (n := (n + 5)) (by omega) (by decide)) ?_
    refine rr_iinc 1 d_Mo_feed_84 rfl rfl (by decide) ?_
    refine rr_goto 46 d_Mo_feed_87 (by decide) ?_
    rw [nI_clamp (n := (n + 5)) (by omega)]
    refine rr_to 46 _ [] (x0 :: x1 :: x2 :: x3 :: x4 :: x5 :: x6 :: x7 :: x8 :: x9 :: x10 :: x11 :: x12 :: x13 :: x14 :: x15 :: x16 :: x17 :: x18 :: x19 :: x20 :: x21 :: x22 :: x23 :: .inr (6, [.ref 25, .int (nI n), lt, .ref 26, .int ru, .int at0, .int sz, .int kd0, .int fr0, .int to0, .int fa, .int pa, .long nu, .ref 27, .int my, .ref 28, .ref 29, .ref 30, .ref 31, .int pcv]) :: .inl (1, 400, .inl (upd (upd (upd (upd (upd (upd (f) n (ta_b a 24)) (n + 1) (ta_b a 16)) (n + 2) (ta_b a 8)) (n + 3) (ta_b a 0)) (n + 4) (ta_b b 24)) (n + 5) (ta_b b 16))) :: x26 :: x27 :: x28 :: x29 :: x30 :: x31 :: x32 :: .inl (0, 5, .inl (upd (upd (upd (upd (upd (fun _ => 0) 0 a) 1 b) 2 c) 3 d) 4 e)) :: []) ?_ rfl rfl rfl rfl
    refine rr_lvs [(7, .int 6), (6, .ref 33), (0, .ref 24), (1, .int a), (2, .int b), (3, .int c), (4, .int d), (5, .int e)] rfl ?_
    refine rr_iload d_Mo_feed_46 rfl ?_
    refine rr_bipush 20 d_Mo_feed_48 rfl ?_
    refine rr_icmp_ge 90 d_Mo_feed_50 (by decide) (fun c9 => absurd c9 (by decide)) (fun _ => ?_)
    refine rr_aload_n d_Mo_feed_53 rfl rfl ?_
    refine rr_getf d_Mo_feed_54 fl_Mo_9 rfl rfl ?_
    refine rr_aload_n d_Mo_feed_57 rfl rfl ?_
    refine rr_getf d_Mo_feed_58 fl_Mo_32 rfl rfl ?_
    refine rr_iload d_Mo_feed_61 rfl ?_
    refine rr_iadd d_Mo_feed_63 ?_
    rw [show (nI n + 6 : Int32) = nI (n + 6) from nI_add n 6]
    refine rr_aload d_Mo_feed_64 rfl ?_
    refine rr_iload d_Mo_feed_66 rfl ?_
    refine rr_iconst 4 d_Mo_feed_68 rfl ?_
    refine rr_idiv d_Mo_feed_69 (by decide) ?_
    refine rr_iald d_Mo_feed_70 rfl (vp_in_nI (n := 1) (N := 5) (by decide) (by decide)) ?_
    refine rr_bipush 24 d_Mo_feed_71 rfl ?_
    refine rr_bipush 8 d_Mo_feed_73 rfl ?_
    refine rr_iload d_Mo_feed_75 rfl ?_
    refine rr_iconst 4 d_Mo_feed_77 rfl ?_
    refine rr_irem d_Mo_feed_78 (by decide) ?_
    refine rr_imul d_Mo_feed_79 ?_
    refine rr_isub d_Mo_feed_80 ?_
    refine rr_ishr d_Mo_feed_81 ?_
    refine rr_i2b d_Mo_feed_82 ?_
    refine rr_bast d_Mo_feed_83 rfl (vp_in_nI (n := (n + 6)) (by omega) (by decide)) ?_
    refine rr_iinc 1 d_Mo_feed_84 rfl rfl (by decide) ?_
    refine rr_goto 46 d_Mo_feed_87 (by decide) ?_
    rw [nI_clamp (n := (n + 6)) (by omega)]
    refine rr_to 46 _ [] (x0 :: x1 :: x2 :: x3 :: x4 :: x5 :: x6 :: x7 :: x8 :: x9 :: x10 :: x11 :: x12 :: x13 :: x14 :: x15 :: x16 :: x17 :: x18 :: x19 :: x20 :: x21 :: x22 :: x23 :: .inr (6, [.ref 25, .int (nI n), lt, .ref 26, .int ru, .int at0, .int sz, .int kd0, .int fr0, .int to0, .int fa, .int pa, .long nu, .ref 27, .int my, .ref 28, .ref 29, .ref 30, .ref 31, .int pcv]) :: .inl (1, 400, .inl (upd (upd (upd (upd (upd (upd (upd (f) n (ta_b a 24)) (n + 1) (ta_b a 16)) (n + 2) (ta_b a 8)) (n + 3) (ta_b a 0)) (n + 4) (ta_b b 24)) (n + 5) (ta_b b 16)) (n + 6) (ta_b b 8))) :: x26 :: x27 :: x28 :: x29 :: x30 :: x31 :: x32 :: .inl (0, 5, .inl (upd (upd (upd (upd (upd (fun _ => 0) 0 a) 1 b) 2 c) 3 d) 4 e)) :: []) ?_ rfl rfl rfl rfl
    refine rr_lvs [(7, .int 7), (6, .ref 33), (0, .ref 24), (1, .int a), (2, .int b), (3, .int c), (4, .int d), (5, .int e)] rfl ?_
    refine rr_iload d_Mo_feed_46 rfl ?_
    refine rr_bipush 20 d_Mo_feed_48 rfl ?_
    refine rr_icmp_ge 90 d_Mo_feed_50 (by decide) (fun c9 => absurd c9 (by decide)) (fun _ => ?_)
    refine rr_aload_n d_Mo_feed_53 rfl rfl ?_
    refine rr_getf d_Mo_feed_54 fl_Mo_9 rfl rfl ?_
    refine rr_aload_n d_Mo_feed_57 rfl rfl ?_
    refine rr_getf d_Mo_feed_58 fl_Mo_32 rfl rfl ?_
    refine rr_iload d_Mo_feed_61 rfl ?_
    refine rr_iadd d_Mo_feed_63 ?_
    rw [show (nI n + 7 : Int32) = nI (n + 7) from nI_add n 7]
    refine rr_aload d_Mo_feed_64 rfl ?_
    refine rr_iload d_Mo_feed_66 rfl ?_
    refine rr_iconst 4 d_Mo_feed_68 rfl ?_
    refine rr_idiv d_Mo_feed_69 (by decide) ?_
    refine rr_iald d_Mo_feed_70 rfl (vp_in_nI (n := 1) (N := 5) (by decide) (by decide)) ?_
    refine rr_bipush 24 d_Mo_feed_71 rfl ?_
    refine rr_bipush 8 d_Mo_feed_73 rfl ?_
    refine rr_iload d_Mo_feed_75 rfl ?_
    refine rr_iconst 4 d_Mo_feed_77 rfl ?_
    refine rr_irem d_Mo_feed_78 (by decide) ?_
    refine rr_imul d_Mo_feed_79 ?_
    refine rr_isub d_Mo_feed_80 ?_
    refine rr_ishr d_Mo_feed_81 ?_
    refine rr_i2b d_Mo_feed_82 ?_
    refine rr_bast d_Mo_feed_83 rfl (vp_in_nI (n := (n + 7)) (by omega) (by decide)) ?_
    refine rr_iinc 1 d_Mo_feed_84 rfl rfl (by decide) ?_
    refine rr_goto 46 d_Mo_feed_87 (by decide) ?_
    rw [nI_clamp (n := (n + 7)) (by omega)]
    refine rr_to 46 _ [] (x0 :: x1 :: x2 :: x3 :: x4 :: x5 :: x6 :: x7 :: x8 :: x9 :: x10 :: x11 :: x12 :: x13 :: x14 :: x15 :: x16 :: x17 :: x18 :: x19 :: x20 :: x21 :: x22 :: x23 :: .inr (6, [.ref 25, .int (nI n), lt, .ref 26, .int ru, .int at0, .int sz, .int kd0, .int fr0, .int to0, .int fa, .int pa, .long nu, .ref 27, .int my, .ref 28, .ref 29, .ref 30, .ref 31, .int pcv]) :: .inl (1, 400, .inl (upd (upd (upd (upd (upd (upd (upd (upd (f) n (ta_b a 24)) (n + 1) (ta_b a 16)) (n + 2) (ta_b a 8)) (n + 3) (ta_b a 0)) (n + 4) (ta_b b 24)) (n + 5) (ta_b b 16)) (n + 6) (ta_b b 8)) (n + 7) (ta_b b 0))) :: x26 :: x27 :: x28 :: x29 :: x30 :: x31 :: x32 :: .inl (0, 5, .inl (upd (upd (upd (upd (upd (fun _ => 0) 0 a) 1 b) 2 c) 3 d) 4 e)) :: []) ?_ rfl rfl rfl rfl
    refine rr_lvs [(7, .int 8), (6, .ref 33), (0, .ref 24), (1, .int a), (2, .int b), (3, .int c), (4, .int d), (5, .int e)] rfl ?_
    refine rr_iload d_Mo_feed_46 rfl ?_
    refine rr_bipush 20 d_Mo_feed_48 rfl ?_
    refine rr_icmp_ge 90 d_Mo_feed_50 (by decide) (fun c9 => absurd c9 (by decide)) (fun _ => ?_)
    refine rr_aload_n d_Mo_feed_53 rfl rfl ?_
    refine rr_getf d_Mo_feed_54 fl_Mo_9 rfl rfl ?_
    refine rr_aload_n d_Mo_feed_57 rfl rfl ?_
    refine rr_getf d_Mo_feed_58 fl_Mo_32 rfl rfl ?_
    refine rr_iload d_Mo_feed_61 rfl ?_
    refine rr_iadd d_Mo_feed_63 ?_
    rw [show (nI n + 8 : Int32) = nI (n + 8) from nI_add n 8]
    refine rr_aload d_Mo_feed_64 rfl ?_
    refine rr_iload d_Mo_feed_66 rfl ?_
    refine rr_iconst 4 d_Mo_feed_68 rfl ?_
    refine rr_idiv d_Mo_feed_69 (by decide) ?_
    refine rr_iald d_Mo_feed_70 rfl (vp_in_nI (n := 2) (N := 5) (by decide) (by decide)) ?_
    refine rr_bipush 24 d_Mo_feed_71 rfl ?_
    refine rr_bipush 8 d_Mo_feed_73 rfl ?_
    refine rr_iload d_Mo_feed_75 rfl ?_
    refine rr_iconst 4 d_Mo_feed_77 rfl ?_
    refine rr_irem d_Mo_feed_78 (by decide) ?_
    refine rr_imul d_Mo_feed_79 ?_
    refine rr_isub d_Mo_feed_80 ?_
    refine rr_ishr d_Mo_feed_81 ?_
    refine rr_i2b d_Mo_feed_82 ?_
    refine rr_bast d_Mo_feed_83 rfl (vp_in_nI (n := (n + 8)) (by omega) (by decide)) ?_
    refine rr_iinc 1 d_Mo_feed_84 rfl rfl (by decide) ?_
    refine rr_goto 46 d_Mo_feed_87 (by decide) ?_
    rw [nI_clamp (n := (n + 8)) (by omega)]
    refine rr_to 46 _ [] (x0 :: x1 :: x2 :: x3 :: x4 :: x5 :: x6 :: x7 :: x8 :: x9 :: x10 :: x11 :: x12 :: x13 :: x14 :: x15 :: x16 :: x17 :: x18 :: x19 :: x20 :: x21 :: x22 :: x23 :: .inr (6, [.ref 25, .int (nI n), lt, .ref 26, .int ru, .int at0, .int sz, .int kd0, .int fr0, .int to0, .int fa, .int pa, .long nu, .ref 27, .int my, .ref 28, .ref 29, .ref 30, .ref 31, .int pcv]) :: .inl (1, 400, .inl (upd (upd (upd (upd (upd (upd (upd (upd (upd (f) n (ta_b a 24)) (n + 1) (ta_b a 16)) (n + 2) (ta_b a 8)) (n + 3) (ta_b a 0)) (n + 4) (ta_b b 24)) (n + 5) (ta_b b 16)) (n + 6) (ta_b b 8)) (n + 7) (ta_b b 0)) (n + 8) (ta_b c 24))) :: x26 :: x27 :: x28 :: x29 :: x30 :: x31 :: x32 :: .inl (0, 5, .inl (upd (upd (upd (upd (upd (fun _ => 0) 0 a) 1 b) 2 c) 3 d) 4 e)) :: []) ?_ rfl rfl rfl rfl
    refine rr_lvs [(7, .int 9), (6, .ref 33), (0, .ref 24), (1, .int a), (2, .int b), (3, .int c), (4, .int d), (5, .int e)] rfl ?_
    refine rr_iload d_Mo_feed_46 rfl ?_
    refine rr_bipush 20 d_Mo_feed_48 rfl ?_
    refine rr_icmp_ge 90 d_Mo_feed_50 (by decide) (fun c9 => absurd c9 (by decide)) (fun _ => ?_)
    refine rr_aload_n d_Mo_feed_53 rfl rfl ?_
    refine rr_getf d_Mo_feed_54 fl_Mo_9 rfl rfl ?_
    refine rr_aload_n d_Mo_feed_57 rfl rfl ?_
    refine rr_getf d_Mo_feed_58 fl_Mo_32 rfl rfl ?_
    refine rr_iload d_Mo_feed_61 rfl ?_
    refine rr_iadd d_Mo_feed_63 ?_
    rw [show (nI n + 9 : Int32) = nI (n + 9) from nI_add n 9]
    refine rr_aload d_Mo_feed_64 rfl ?_
    refine rr_iload d_Mo_feed_66 rfl ?_
    refine rr_iconst 4 d_Mo_feed_68 rfl ?_
    refine rr_idiv d_Mo_feed_69 (by decide) ?_
    refine rr_iald d_Mo_feed_70 rfl (vp_in_nI (n := 2) (N := 5) (by decide) (by decide)) ?_
    refine rr_bipush 24 d_Mo_feed_71 rfl ?_
    refine rr_bipush 8 d_Mo_feed_73 rfl ?_
    refine rr_iload d_Mo_feed_75 rfl ?_
    refine rr_iconst 4 d_Mo_feed_77 rfl ?_
    refine rr_irem d_Mo_feed_78 (by decide) ?_
    refine rr_imul d_Mo_feed_79 ?_
    refine rr_isub d_Mo_feed_80 ?_
    refine rr_ishr d_Mo_feed_81 ?_
    refine rr_i2b d_Mo_feed_82 ?_
    refine rr_bast d_Mo_feed_83 rfl (vp_in_nI (n := (n + 9)) (by omega) (by decide)) ?_
    refine rr_iinc 1 d_Mo_feed_84 rfl rfl (by decide) ?_
    refine rr_goto 46 d_Mo_feed_87 (by decide) ?_
    rw [nI_clamp (n := (n + 9)) (by omega)]
    refine rr_to 46 _ [] (x0 :: x1 :: x2 :: x3 :: x4 :: x5 :: x6 :: x7 :: x8 :: x9 :: x10 :: x11 :: x12 :: x13 :: x14 :: x15 :: x16 :: x17 :: x18 :: x19 :: x20 :: x21 :: x22 :: x23 :: .inr (6, [.ref 25, .int (nI n), lt, .ref 26, .int ru, .int at0, .int sz, .int kd0, .int fr0, .int to0, .int fa, .int pa, .long nu, .ref 27, .int my, .ref 28, .ref 29, .ref 30, .ref 31, .int pcv]) :: .inl (1, 400, .inl (upd (upd (upd (upd (upd (upd (upd (upd (upd (upd (f) n (ta_b a 24)) (n + 1) (ta_b a 16)) (n + 2) (ta_b a 8)) (n + 3) (ta_b a 0)) (n + 4) (ta_b b 24)) (n + 5) (ta_b b 16)) (n + 6) (ta_b b 8)) (n + 7) (ta_b b 0)) (n + 8) (ta_b c 24)) (n + 9) (ta_b c 16))) :: x26 :: x27 :: x28 :: x29 :: x30 :: x31 :: x32 :: .inl (0, 5, .inl (upd (upd (upd (upd (upd (fun _ => 0) 0 a) 1 b) 2 c) 3 d) 4 e)) :: []) ?_ rfl rfl rfl rfl
    refine rr_lvs [(7, .int 10), (6, .ref 33), (0, .ref 24), (1, .int a), (2, .int b), (3, .int c), (4, .int d), (5, .int e)] rfl ?_
    refine rr_iload d_Mo_feed_46 rfl ?_
    refine rr_bipush 20 d_Mo_feed_48 rfl ?_
    refine rr_icmp_ge 90 d_Mo_feed_50 (by decide) (fun c9 => absurd c9 (by decide)) (fun _ => ?_)
    refine rr_aload_n d_Mo_feed_53 rfl rfl ?_
    refine rr_getf d_Mo_feed_54 fl_Mo_9 rfl rfl ?_
    refine rr_aload_n d_Mo_feed_57 rfl rfl ?_
    refine rr_getf d_Mo_feed_58 fl_Mo_32 rfl rfl ?_
    refine rr_iload d_Mo_feed_61 rfl ?_
    refine rr_iadd d_Mo_feed_63 ?_
    rw [show (nI n + 10 : Int32) = nI (n + 10) from nI_add n 10]
    refine rr_aload d_Mo_feed_64 rfl ?_
    refine rr_iload d_Mo_feed_66 rfl ?_
    refine rr_iconst 4 d_Mo_feed_68 rfl ?_
    refine rr_idiv d_Mo_feed_69 (by decide) ?_
    refine rr_iald d_Mo_feed_70 rfl (vp_in_nI (n := 2) (N := 5) (by decide) (by decide)) ?_
    refine rr_bipush 24 d_Mo_feed_71 rfl ?_
    refine rr_bipush 8 d_Mo_feed_73 rfl ?_
    refine rr_iload d_Mo_feed_75 rfl ?_
    refine rr_iconst 4 d_Mo_feed_77 rfl ?_
    refine rr_irem d_Mo_feed_78 (by decide) ?_
    refine rr_imul d_Mo_feed_79 ?_
    refine rr_isub d_Mo_feed_80 ?_
    refine rr_ishr d_Mo_feed_81 ?_
    refine rr_i2b d_Mo_feed_82 ?_
    refine rr_bast d_Mo_feed_83 rfl (vp_in_nI (n := (n + 10)) (by omega) (by decide)) ?_
    refine rr_iinc 1 d_Mo_feed_84 rfl rfl (by decide) ?_
    refine rr_goto 46 d_Mo_feed_87 (by decide) ?_
    rw [nI_clamp (n := (n + 10)) (by omega)]
    refine rr_to 46 _ [] (x0 :: x1 :: x2 :: x3 :: x4 :: x5 :: x6 :: x7 :: x8 :: x9 :: x10 :: x11 :: x12 :: x13 :: x14 :: x15 :: x16 :: x17 :: x18 :: x19 :: x20 :: x21 :: x22 :: x23 :: .inr (6, [.ref 25, .int (nI n), lt, .ref 26, .int ru, .int at0, .int sz, .int kd0, .int fr0, .int to0, .int fa, .int pa, .long nu, .ref 27, .int my, .ref 28, .ref 29, .ref 30, .ref 31, .int pcv]) :: .inl (1, 400, .inl (upd (upd (upd (upd (upd (upd (upd (upd (upd (upd (upd (f) n (ta_b a 24)) (n + 1) (ta_b a 16)) (n + 2) (ta_b a 8)) (n + 3) (ta_b a 0)) (n + 4) (ta_b b 24)) (n + 5) (ta_b b 16)) (n + 6) (ta_b b 8)) (n + 7) (ta_b b 0)) (n + 8) (ta_b c 24)) (n + 9) (ta_b c 16)) (n + 10) (ta_b c 8))) :: x26 :: x27 :: x28 :: x29 :: x30 :: x31 :: x32 :: .inl (0, 5, .inl (upd (upd (upd (upd (upd (fun _ => 0) 0 a) 1 b) 2 c) 3 d) 4 e)) :: []) ?_ rfl rfl rfl rfl
    refine rr_lvs [(7, .int 11), (6, .ref 33), (0, .ref 24), (1, .int a), (2, .int b), (3, .int c), (4, .int d), (5, .int e)] rfl ?_
    refine rr_iload d_Mo_feed_46 rfl ?_
    refine rr_bipush 20 d_Mo_feed_48 rfl ?_
    refine rr_icmp_ge 90 d_Mo_feed_50 (by decide) (fun c9 => absurd c9 (by decide)) (fun _ => ?_)
    refine rr_aload_n d_Mo_feed_53 rfl rfl ?_
    refine rr_getf d_Mo_feed_54 fl_Mo_9 rfl rfl ?_
    refine rr_aload_n d_Mo_feed_57 rfl rfl ?_
    refine rr_getf d_Mo_feed_58 fl_Mo_32 rfl rfl ?_
    refine rr_iload d_Mo_feed_61 rfl ?_
    refine rr_iadd d_Mo_feed_63 ?_
    rw [show (nI n + 11 : Int32) = nI (n + 11) from nI_add n 11]
    refine rr_aload d_Mo_feed_64 rfl ?_
    refine rr_iload d_Mo_feed_66 rfl ?_
    refine rr_iconst 4 d_Mo_feed_68 rfl ?_
    refine rr_idiv d_Mo_feed_69 (by decide) ?_
    refine rr_iald d_Mo_feed_70 rfl (vp_in_nI (n := 2) (N := 5) (by decide) (by decide)) ?_
    refine rr_bipush 24 d_Mo_feed_71 rfl ?_
    refine rr_bipush 8 d_Mo_feed_73 rfl ?_
    refine rr_iload d_Mo_feed_75 rfl ?_
    refine rr_iconst 4 d_Mo_feed_77 rfl ?_
    refine rr_irem d_Mo_feed_78 (by decide) ?_
    refine rr_imul d_Mo_feed_79 ?_
    refine rr_isub d_Mo_feed_80 ?_
    refine rr_ishr d_Mo_feed_81 ?_
    refine rr_i2b d_Mo_feed_82 ?_
    refine rr_bast d_Mo_feed_83 rfl (vp_in_nI (n := (n + 11)) (by omega) (by decide)) ?_
    refine rr_iinc 1 d_Mo_feed_84 rfl rfl (by decide) ?_
    refine rr_goto 46 d_Mo_feed_87 (by decide) ?_
    rw [nI_clamp (n := (n + 11)) (by omega)]
    refine rr_to 46 _ [] (x0 :: x1 :: x2 :: x3 :: x4 :: x5 :: x6 :: x7 :: x8 :: x9 :: x10 :: x11 :: x12 :: x13 :: x14 :: x15 :: x16 :: x17 :: x18 :: x19 :: x20 :: x21 :: x22 :: x23 :: .inr (6, [.ref 25, .int (nI n), lt, .ref 26, .int ru, .int at0, .int sz, .int kd0, .int fr0, .int to0, .int fa, .int pa, .long nu, .ref 27, .int my, .ref 28, .ref 29, .ref 30, .ref 31, .int pcv]) :: .inl (1, 400, .inl (upd (upd (upd (upd (upd (upd (upd (upd (upd (upd (upd (upd (f) n (ta_b a 24)) (n + 1) (ta_b a 16)) (n + 2) (ta_b a 8)) (n + 3) (ta_b a 0)) (n + 4) (ta_b b 24)) (n + 5) (ta_b b 16)) (n + 6) (ta_b b 8)) (n + 7) (ta_b b 0)) (n + 8) (ta_b c 24)) (n + 9) (ta_b c 16)) (n + 10) (ta_b c 8)) (n + 11) (ta_b c 0))) :: x26 :: x27 :: x28 :: x29 :: x30 :: x31 :: x32 :: .inl (0, 5, .inl (upd (upd (upd (upd (upd (fun _ => 0) 0 a) 1 b) 2 c) 3 d) 4 e)) :: []) ?_ rfl rfl rfl rfl
    refine rr_lvs [(7, .int 12), (6, .ref 33), (0, .ref 24), (1, .int a), (2, .int b), (3, .int c), (4, .int d), (5, .int e)] rfl ?_
    refine rr_iload d_Mo_feed_46 rfl ?_
    refine rr_bipush 20 d_Mo_feed_48 rfl ?_
    refine rr_icmp_ge 90 d_Mo_feed_50 (by decide) (fun c9 => absurd c9 (by decide)) (fun _ => ?_)
    refine rr_aload_n d_Mo_feed_53 rfl rfl ?_
    refine rr_getf d_Mo_feed_54 fl_Mo_9 rfl rfl ?_
    refine rr_aload_n d_Mo_feed_57 rfl rfl ?_
    refine rr_getf d_Mo_feed_58 fl_Mo_32 rfl rfl ?_
    refine rr_iload d_Mo_feed_61 rfl ?_
    refine rr_iadd d_Mo_feed_63 ?_
    rw [show (nI n + 12 : Int32) = nI (n + 12) from nI_add n 12]
    refine rr_aload d_Mo_feed_64 rfl ?_
    refine rr_iload d_Mo_feed_66 rfl ?_
    refine rr_iconst 4 d_Mo_feed_68 rfl ?_
    refine rr_idiv d_Mo_feed_69 (by decide) ?_
    refine rr_iald d_Mo_feed_70 rfl (vp_in_nI (n := 3) (N := 5) (by decide) (by decide)) ?_
    refine rr_bipush 24 d_Mo_feed_71 rfl ?_
    refine rr_bipush 8 d_Mo_feed_73 rfl ?_
    refine rr_iload d_Mo_feed_75 rfl ?_
    refine rr_iconst 4 d_Mo_feed_77 rfl ?_
    refine rr_irem d_Mo_feed_78 (by decide) ?_
    refine rr_imul d_Mo_feed_79 ?_
    refine rr_isub d_Mo_feed_80 ?_
    refine rr_ishr d_Mo_feed_81 ?_
    refine rr_i2b d_Mo_feed_82 ?_
    refine rr_bast d_Mo_feed_83 rfl (vp_in_nI (n := (n + 12)) (by omega) (by decide)) ?_
    refine rr_iinc 1 d_Mo_feed_84 rfl rfl (by decide) ?_
    refine rr_goto 46 d_Mo_feed_87 (by decide) ?_
    rw [nI_clamp (n := (n + 12)) (by omega)]
    refine rr_to 46 _ [] (x0 :: x1 :: x2 :: x3 :: x4 :: x5 :: x6 :: x7 :: x8 :: x9 :: x10 :: x11 :: x12 :: x13 :: x14 :: x15 :: x16 :: x17 :: x18 :: x19 :: x20 :: x21 :: x22 :: x23 :: .inr (6, [.ref 25, .int (nI n), lt, .ref 26, .int ru, .int at0, .int sz, .int kd0, .int fr0, .int to0, .int fa, .int pa, .long nu, .ref 27, .int my, .ref 28, .ref 29, .ref 30, .ref 31, .int pcv]) :: .inl (1, 400, .inl (upd (upd (upd (upd (upd (upd (upd (upd (upd (upd (upd (upd (upd (f) n (ta_b a 24)) (n + 1) (ta_b a 16)) (n + 2) (ta_b a 8)) (n + 3) (ta_b a 0)) (n + 4) (ta_b b 24)) (n + 5) (ta_b b 16)) (n + 6) (ta_b b 8)) (n + 7) (ta_b b 0)) (n + 8) (ta_b c 24)) (n + 9) (ta_b c 16)) (n + 10) (ta_b c 8)) (n + 11) (ta_b c 0)) (n + 12) (ta_b d 24))) :: x26 :: x27 :: x28 :: x29 :: x30 :: x31 :: x32 :: .inl (0, 5, .inl (upd (upd (upd (upd (upd (fun _ => 0) 0 a) 1 b) 2 c) 3 d) 4 e)) :: []) ?_ rfl rfl rfl rfl
    refine rr_lvs [(7, .int 13), (6, .ref 33), (0, .ref 24), (1, .int a), (2, .int b), (3, .int c), (4, .int d), (5, .int e)] rfl ?_
    refine rr_iload d_Mo_feed_46 rfl ?_
    refine rr_bipush 20 d_Mo_feed_48 rfl ?_
    refine rr_icmp_ge 90 d_Mo_feed_50 (by decide) (fun c9 => absurd c9 (by decide)) (fun _ => ?_)
    refine rr_aload_n d_Mo_feed_53 rfl rfl ?_
    refine rr_getf d_Mo_feed_54 fl_Mo_9 rfl rfl ?_
    refine rr_aload_n d_Mo_feed_57 rfl rfl ?_
    refine rr_getf d_Mo_feed_58 fl_Mo_32 rfl rfl ?_
    refine rr_iload d_Mo_feed_61 rfl ?_
    refine rr_iadd d_Mo_feed_63 ?_
    rw [show (nI n + 13 : Int32) = nI (n + 13) from nI_add n 13]
    refine rr_aload d_Mo_feed_64 rfl ?_
    refine rr_iload d_Mo_feed_66 rfl ?_
    refine rr_iconst 4 d_Mo_feed_68 rfl ?_
    refine rr_idiv d_Mo_feed_69 (by decide) ?_
    refine rr_iald d_Mo_feed_70 rfl (vp_in_nI (n := 3) (N := 5) (by decide) (by decide)) ?_
    refine rr_bipush 24 d_Mo_feed_71 rfl ?_
    refine rr_bipush 8 d_Mo_feed_73 rfl ?_
    refine rr_iload d_Mo_feed_75 rfl ?_
    refine rr_iconst 4 d_Mo_feed_77 rfl ?_
    refine rr_irem d_Mo_feed_78 (by decide) ?_
    refine rr_imul d_Mo_feed_79 ?_
    refine rr_isub d_Mo_feed_80 ?_
    refine rr_ishr d_Mo_feed_81 ?_
    refine rr_i2b d_Mo_feed_82 ?_
    refine rr_bast d_Mo_feed_83 rfl (vp_in_nI (n := (n + 13)) (by omega) (by decide)) ?_
    refine rr_iinc 1 d_Mo_feed_84 rfl rfl (by decide) ?_
    refine rr_goto 46 d_Mo_feed_87 (by decide) ?_
    rw [nI_clamp (n := (n + 13)) (by omega)]
    refine rr_to 46 _ [] (x0 :: x1 :: x2 :: x3 :: x4 :: x5 :: x6 :: x7 :: x8 :: x9 :: x10 :: x11 :: x12 :: x13 :: x14 :: x15 :: x16 :: x17 :: x18 :: x19 :: x20 :: x21 :: x22 :: x23 :: .inr (6, [.ref 25, .int (nI n), lt, .ref 26, .int ru, .int at0, .int sz, .int kd0, .int fr0, .int to0, .int fa, .int pa, .long nu, .ref 27, .int my, .ref 28, .ref 29, .ref 30, .ref 31, .int pcv]) :: .inl (1, 400, .inl (upd (upd (upd (upd (upd (upd (upd (upd (upd (upd (upd (upd (upd (upd (f) n (ta_b a 24)) (n + 1) (ta_b a 16)) (n + 2) (ta_b a 8)) (n + 3) (ta_b a 0)) (n + 4) (ta_b b 24)) (n + 5) (ta_b b 16)) (n + 6) (ta_b b 8)) (n + 7) (ta_b b 0)) (n + 8) (ta_b c 24)) (n + 9) (ta_b c 16)) (n + 10) (ta_b c 8)) (n + 11) (ta_b c 0)) (n + 12) (ta_b d 24)) (n + 13) (ta_b d 16))) :: x26 :: x27 :: x28 :: x29 :: x30 :: x31 :: x32 :: .inl (0, 5, .inl (upd (upd (upd (upd (upd (fun _ => 0) 0 a) 1 b) 2 c) 3 d) 4 e)) :: []) ?_ rfl rfl rfl rfl
    refine rr_lvs [(7, .int 14), (6, .ref 33), (0, .ref 24), (1, .int a), (2, .int b), (3, .int c), (4, .int d), (5, .int e)] rfl ?_
    refine rr_iload d_Mo_feed_46 rfl ?_
    refine rr_bipush 20 d_Mo_feed_48 rfl ?_
    refine rr_icmp_ge 90 d_Mo_feed_50 (by decide) (fun c9 => absurd c9 (by decide)) (fun _ => ?_)
    refine rr_aload_n d_Mo_feed_53 rfl rfl ?_
    refine rr_getf d_Mo_feed_54 fl_Mo_9 rfl rfl ?_
    refine rr_aload_n d_Mo_feed_57 rfl rfl ?_
    refine rr_getf d_Mo_feed_58 fl_Mo_32 rfl rfl ?_
    refine rr_iload d_Mo_feed_61 rfl ?_
    refine rr_iadd d_Mo_feed_63 ?_
    rw [show (nI n + 14 : Int32) = nI (n + 14) from nI_add n 14]
    refine rr_aload d_Mo_feed_64 rfl ?_
    refine rr_iload d_Mo_feed_66 rfl ?_
    refine rr_iconst 4 d_Mo_feed_68 rfl ?_
    refine rr_idiv d_Mo_feed_69 (by decide) ?_
    refine rr_iald d_Mo_feed_70 rfl (vp_in_nI (n := 3) (N := 5) (by decide) (by decide)) ?_
    refine rr_bipush 24 d_Mo_feed_71 rfl ?_
    refine rr_bipush 8 d_Mo_feed_73 rfl ?_
    refine rr_iload d_Mo_feed_75 rfl ?_
    refine rr_iconst 4 d_Mo_feed_77 rfl ?_
    refine rr_irem d_Mo_feed_78 (by decide) ?_
    refine rr_imul d_Mo_feed_79 ?_
    refine rr_isub d_Mo_feed_80 ?_
    refine rr_ishr d_Mo_feed_81 ?_
    refine rr_i2b d_Mo_feed_82 ?_
    refine rr_bast d_Mo_feed_83 rfl (vp_in_nI (n := (n + 14)) (by omega) (by decide)) ?_
    refine rr_iinc 1 d_Mo_feed_84 rfl rfl (by decide) ?_
    refine rr_goto 46 d_Mo_feed_87 (by decide) ?_
    rw [nI_clamp (n := (n + 14)) (by omega)]
    refine rr_to 46 _ [] (x0 :: x1 :: x2 :: x3 :: x4 :: x5 :: x6 :: x7 :: x8 :: x9 :: x10 :: x11 :: x12 :: x13 :: x14 :: x15 :: x16 :: x17 :: x18 :: x19 :: x20 :: x21 :: x22 :: x23 :: .inr (6, [.ref 25, .int (nI n), lt, .ref 26, .int ru, .int at0, .int sz, .int kd0, .int fr0, .int to0, .int fa, .int pa, .long nu, .ref 27, .int my, .ref 28, .ref 29, .ref 30, .ref 31, .int pcv]) :: .inl (1, 400, .inl (upd (upd (upd (upd (upd (upd (upd (upd (upd (upd (upd (upd (upd (upd (upd (f) n (ta_b a 24)) (n + 1) (ta_b a 16)) (n + 2) (ta_b a 8)) (n + 3) (ta_b a 0)) (n + 4) (ta_b b 24)) (n + 5) (ta_b b 16)) (n + 6) (ta_b b 8)) (n + 7) (ta_b b 0)) (n + 8) (ta_b c 24)) (n + 9) (ta_b c 16)) (n + 10) (ta_b c 8)) (n + 11) (ta_b c 0)) (n + 12) (ta_b d 24)) (n + 13) (ta_b d 16)) (n + 14) (ta_b d 8))) :: x26 :: x27 :: x28 :: x29 :: x30 :: x31 :: x32 :: .inl (0, 5, .inl (upd (upd (upd (upd (upd (fun _ => 0) 0 a) 1 b) 2 c) 3 d) 4 e)) :: []) ?_ rfl rfl rfl rfl
    refine rr_lvs [(7, .int 15), (6, .ref 33), (0, .ref 24), (1, .int a), (2, .int b), (3, .int c), (4, .int d), (5, .int e)] rfl ?_
    refine rr_iload d_Mo_feed_46 rfl ?_
    refine rr_bipush 20 d_Mo_feed_48 rfl ?_
    refine rr_icmp_ge 90 d_Mo_feed_50 (by decide) (fun c9 => absurd c9 (by decide)) (fun _ => ?_)
    refine rr_aload_n d_Mo_feed_53 rfl rfl ?_
    refine rr_getf d_Mo_feed_54 fl_Mo_9 rfl rfl ?_
    refine rr_aload_n d_Mo_feed_57 rfl rfl ?_
    refine rr_getf d_Mo_feed_58 fl_Mo_32 rfl rfl ?_
    refine rr_iload d_Mo_feed_61 rfl ?_
    refine rr_iadd d_Mo_feed_63 ?_
    rw [show (nI n + 15 : Int32) = nI (n + 15) from nI_add n 15]
    refine rr_aload d_Mo_feed_64 rfl ?_
    refine rr_iload d_Mo_feed_66 rfl ?_
    refine rr_iconst 4 d_Mo_feed_68 rfl ?_
    refine rr_idiv d_Mo_feed_69 (by decide) ?_
    refine rr_iald d_Mo_feed_70 rfl (vp_in_nI (n := 3) (N := 5) (by decide) (by decide)) ?_
    refine rr_bipush 24 d_Mo_feed_71 rfl ?_
    refine rr_bipush 8 d_Mo_feed_73 rfl ?_
    refine rr_iload d_Mo_feed_75 rfl ?_
    refine rr_iconst 4 d_Mo_feed_77 rfl ?_
    refine rr_irem d_Mo_feed_78 (by decide) ?_
    refine rr_imul d_Mo_feed_79 ?_
    refine rr_isub d_Mo_feed_80 ?_
    refine rr_ishr d_Mo_feed_81 ?_
    refine rr_i2b d_Mo_feed_82 ?_
    refine rr_bast d_Mo_feed_83 rfl (vp_in_nI (n := (n + 15)) (by omega) (by decide)) ?_
    refine rr_iinc 1 d_Mo_feed_84 rfl rfl (by decide) ?_
    refine rr_goto 46 d_Mo_feed_87 (by decide) ?_
    rw [nI_clamp (n := (n + 15)) (by omega)]
    refine rr_to 46 _ [] (x0 :: x1 :: x2 :: x3 :: x4 :: x5 :: x6 :: x7 :: x8 :: x9 :: x10 :: x11 :: x12 :: x13 :: x14 :: x15 :: x16 :: x17 :: x18 :: x19 :: x20 :: x21 :: x22 :: x23 :: .inr (6, [.ref 25, .int (nI n), lt, .ref 26, .int ru, .int at0, .int sz, .int kd0, .int fr0, .int to0, .int fa, .int pa, .long nu, .ref 27, .int my, .ref 28, .ref 29, .ref 30, .ref 31, .int pcv]) :: .inl (1, 400, .inl (upd (upd (upd (upd (upd (upd (upd (upd (upd (upd (upd (upd (upd (upd (upd (upd (f) n (ta_b a 24)) (n + 1) (ta_b a 16)) (n + 2) (ta_b a 8)) (n + 3) (ta_b a 0)) (n + 4) (ta_b b 24)) (n + 5) (ta_b b 16)) (n + 6) (ta_b b 8)) (n + 7) (ta_b b 0)) (n + 8) (ta_b c 24)) (n + 9) (ta_b c 16)) (n + 10) (ta_b c 8)) (n + 11) (ta_b c 0)) (n + 12) (ta_b d 24)) (n + 13) (ta_b d 16)) (n + 14) (ta_b d 8)) (n + 15) (ta_b d 0))) :: x26 :: x27 :: x28 :: x29 :: x30 :: x31 :: x32 :: .inl (0, 5, .inl (upd (upd (upd (upd (upd (fun _ => 0) 0 a) 1 b) 2 c) 3 d) 4 e)) :: []) ?_ rfl rfl rfl rfl
    refine rr_lvs [(7, .int 16), (6, .ref 33), (0, .ref 24), (1, .int a), (2, .int b), (3, .int c), (4, .int d), (5, .int e)] rfl ?_
    refine rr_iload d_Mo_feed_46 rfl ?_
    refine rr_bipush 20 d_Mo_feed_48 rfl ?_
    refine rr_icmp_ge 90 d_Mo_feed_50 (by decide) (fun c9 => absurd c9 (by decide)) (fun _ => ?_)
    refine rr_aload_n d_Mo_feed_53 rfl rfl ?_
    refine rr_getf d_Mo_feed_54 fl_Mo_9 rfl rfl ?_
    refine rr_aload_n d_Mo_feed_57 rfl rfl ?_
    refine rr_getf d_Mo_feed_58 fl_Mo_32 rfl rfl ?_
    refine rr_iload d_Mo_feed_61 rfl ?_
    refine rr_iadd d_Mo_feed_63 ?_
    rw [show (nI n + 16 : Int32) = nI (n + 16) from nI_add n 16]
    refine rr_aload d_Mo_feed_64 rfl ?_
    refine rr_iload d_Mo_feed_66 rfl ?_
    refine rr_iconst 4 d_Mo_feed_68 rfl ?_
    refine rr_idiv d_Mo_feed_69 (by decide) ?_
    refine rr_iald d_Mo_feed_70 rfl (vp_in_nI (n := 4) (N := 5) (by decide) (by decide)) ?_
    refine rr_bipush 24 d_Mo_feed_71 rfl ?_
    refine rr_bipush 8 d_Mo_feed_73 rfl ?_
    refine rr_iload d_Mo_feed_75 rfl ?_
    refine rr_iconst 4 d_Mo_feed_77 rfl ?_
    refine rr_irem d_Mo_feed_78 (by decide) ?_
    refine rr_imul d_Mo_feed_79 ?_
    refine rr_isub d_Mo_feed_80 ?_
    refine rr_ishr d_Mo_feed_81 ?_
    refine rr_i2b d_Mo_feed_82 ?_
    refine rr_bast d_Mo_feed_83 rfl (vp_in_nI (n := (n + 16)) (by omega) (by decide)) ?_
    refine rr_iinc 1 d_Mo_feed_84 rfl rfl (by decide) ?_
    refine rr_goto 46 d_Mo_feed_87 (by decide) ?_
    rw [nI_clamp (n := (n + 16)) (by omega)]
    refine rr_to 46 _ [] (x0 :: x1 :: x2 :: x3 :: x4 :: x5 :: x6 :: x7 :: x8 :: x9 :: x10 :: x11 :: x12 :: x13 :: x14 :: x15 :: x16 :: x17 :: x18 :: x19 :: x20 :: x21 :: x22 :: x23 :: .inr (6, [.ref 25, .int (nI n), lt, .ref 26, .int ru, .int at0, .int sz, .int kd0, .int fr0, .int to0, .int fa, .int pa, .long nu, .ref 27, .int my, .ref 28, .ref 29, .ref 30, .ref 31, .int pcv]) :: .inl (1, 400, .inl (upd (upd (upd (upd (upd (upd (upd (upd (upd (upd (upd (upd (upd (upd (upd (upd (upd (f) n (ta_b a 24)) (n + 1) (ta_b a 16)) (n + 2) (ta_b a 8)) (n + 3) (ta_b a 0)) (n + 4) (ta_b b 24)) (n + 5) (ta_b b 16)) (n + 6) (ta_b b 8)) (n + 7) (ta_b b 0)) (n + 8) (ta_b c 24)) (n + 9) (ta_b c 16)) (n + 10) (ta_b c 8)) (n + 11) (ta_b c 0)) (n + 12) (ta_b d 24)) (n + 13) (ta_b d 16)) (n + 14) (ta_b d 8)) (n + 15) (ta_b d 0)) (n + 16) (ta_b e 24))) :: x26 :: x27 :: x28 :: x29 :: x30 :: x31 :: x32 :: .inl (0, 5, .inl (upd (upd (upd (upd (upd (fun _ => 0) 0 a) 1 b) 2 c) 3 d) 4 e)) :: []) ?_ rfl rfl rfl rfl
    refine rr_lvs [(7, .int 17), (6, .ref 33), (0, .ref 24), (1, .int a), (2, .int b), (3, .int c), (4, .int d), (5, .int e)] rfl ?_
    refine rr_iload d_Mo_feed_46 rfl ?_
    refine rr_bipush 20 d_Mo_feed_48 rfl ?_
    refine rr_icmp_ge 90 d_Mo_feed_50 (by decide) (fun c9 => absurd c9 (by decide)) (fun _ => ?_)
    refine rr_aload_n d_Mo_feed_53 rfl rfl ?_
    refine rr_getf d_Mo_feed_54 fl_Mo_9 rfl rfl ?_
    refine rr_aload_n d_Mo_feed_57 rfl rfl ?_
    refine rr_getf d_Mo_feed_58 fl_Mo_32 rfl rfl ?_
    refine rr_iload d_Mo_feed_61 rfl ?_
    refine rr_iadd d_Mo_feed_63 ?_
    rw [show (nI n + 17 : Int32) = nI (n + 17) from nI_add n 17]
    refine rr_aload d_Mo_feed_64 rfl ?_
    refine rr_iload d_Mo_feed_66 rfl ?_
    refine rr_iconst 4 d_Mo_feed_68 rfl ?_
    refine rr_idiv d_Mo_feed_69 (by decide) ?_
    refine rr_iald d_Mo_feed_70 rfl (vp_in_nI (n := 4) (N := 5) (by decide) (by decide)) ?_
    refine rr_bipush 24 d_Mo_feed_71 rfl ?_
    refine rr_bipush 8 d_Mo_feed_73 rfl ?_
    refine rr_iload d_Mo_feed_75 rfl ?_
    refine rr_iconst 4 d_Mo_feed_77 rfl ?_
    refine rr_irem d_Mo_feed_78 (by decide) ?_
    refine rr_imul d_Mo_feed_79 ?_
    refine rr_isub d_Mo_feed_80 ?_
    refine rr_ishr d_Mo_feed_81 ?_
    refine rr_i2b d_Mo_feed_82 ?_
    refine rr_bast d_Mo_feed_83 rfl (vp_in_nI (n := (n + 17)) (by omega) (by decide)) ?_
    refine rr_iinc 1 d_Mo_feed_84 rfl rfl (by decide) ?_
    refine rr_goto 46 d_Mo_feed_87 (by decide) ?_
    rw [nI_clamp (n := (n + 17)) (by omega)]
    refine rr_to 46 _ [] (x0 :: x1 :: x2 :: x3 :: x4 :: x5 :: x6 :: x7 :: x8 :: x9 :: x10 :: x11 :: x12 :: x13 :: x14 :: x15 :: x16 :: x17 :: x18 :: x19 :: x20 :: x21 :: x22 :: x23 :: .inr (6, [.ref 25, .int (nI n), lt, .ref 26, .int ru, .int at0, .int sz, .int kd0, .int fr0, .int to0, .int fa, .int pa, .long nu, .ref 27, .int my, .ref 28, .ref 29, .ref 30, .ref 31, .int pcv]) :: .inl (1, 400, .inl (upd (upd (upd (upd (upd (upd (upd (upd (upd (upd (upd (upd (upd (upd (upd (upd (upd (upd (f) n (ta_b a 24)) (n + 1) (ta_b a 16)) (n + 2) (ta_b a 8)) (n + 3) (ta_b a 0)) (n + 4) (ta_b b 24)) (n + 5) (ta_b b 16)) (n + 6) (ta_b b 8)) (n + 7) (ta_b b 0)) (n + 8) (ta_b c 24)) (n + 9) (ta_b c 16)) (n + 10) (ta_b c 8)) (n + 11) (ta_b c 0)) (n + 12) (ta_b d 24)) (n + 13) (ta_b d 16)) (n + 14) (ta_b d 8)) (n + 15) (ta_b d 0)) (n + 16) (ta_b e 24)) (n + 17) (ta_b e 16))) :: x26 :: x27 :: x28 :: x29 :: x30 :: x31 :: x32 :: .inl (0, 5, .inl (upd (upd (upd (upd (upd (fun _ => 0) 0 a) 1 b) 2 c) 3 d) 4 e)) :: []) ?_ rfl rfl rfl rfl
    refine rr_lvs [(7, .int 18), (6, .ref 33), (0, .ref 24), (1, .int a), (2, .int b), (3, .int c), (4, .int d), (5, .int e)] rfl ?_
    refine rr_iload d_Mo_feed_46 rfl ?_
    refine rr_bipush 20 d_Mo_feed_48 rfl ?_
    refine rr_icmp_ge 90 d_Mo_feed_50 (by decide) (fun c9 => absurd c9 (by decide)) (fun _ => ?_)
    refine rr_aload_n d_Mo_feed_53 rfl rfl ?_
    refine rr_getf d_Mo_feed_54 fl_Mo_9 rfl rfl ?_
    refine rr_aload_n d_Mo_feed_57 rfl rfl ?_
    refine rr_getf d_Mo_feed_58 fl_Mo_32 rfl rfl ?_
    refine rr_iload d_Mo_feed_61 rfl ?_
    refine rr_iadd d_Mo_feed_63 ?_
    rw [show (nI n + 18 : Int32) = nI (n + 18) from nI_add n 18]
    refine rr_aload d_Mo_feed_64 rfl ?_
    refine rr_iload d_Mo_feed_66 rfl ?_
    refine rr_iconst 4 d_Mo_feed_68 rfl ?_
    refine rr_idiv d_Mo_feed_69 (by decide) ?_
    refine rr_iald d_Mo_feed_70 rfl (vp_in_nI (n := 4) (N := 5) (by decide) (by decide)) ?_
    refine rr_bipush 24 d_Mo_feed_71 rfl ?_
    refine rr_bipush 8 d_Mo_feed_73 rfl ?_
    refine rr_iload d_Mo_feed_75 rfl ?_
    refine rr_iconst 4 d_Mo_feed_77 rfl ?_
    refine rr_irem d_Mo_feed_78 (by decide) ?_
    refine rr_imul d_Mo_feed_79 ?_
    refine rr_isub d_Mo_feed_80 ?_
    refine rr_ishr d_Mo_feed_81 ?_
    refine rr_i2b d_Mo_feed_82 ?_
    refine rr_bast d_Mo_feed_83 rfl (vp_in_nI (n := (n + 18)) (by omega) (by decide)) ?_
    refine rr_iinc 1 d_Mo_feed_84 rfl rfl (by decide) ?_
    refine rr_goto 46 d_Mo_feed_87 (by decide) ?_
    rw [nI_clamp (n := (n + 18)) (by omega)]
    refine rr_to 46 _ [] (x0 :: x1 :: x2 :: x3 :: x4 :: x5 :: x6 :: x7 :: x8 :: x9 :: x10 :: x11 :: x12 :: x13 :: x14 :: x15 :: x16 :: x17 :: x18 :: x19 :: x20 :: x21 :: x22 :: x23 :: .inr (6, [.ref 25, .int (nI n), lt, .ref 26, .int ru, .int at0, .int sz, .int kd0, .int fr0, .int to0, .int fa, .int pa, .long nu, .ref 27, .int my, .ref 28, .ref 29, .ref 30, .ref 31, .int pcv]) :: .inl (1, 400, .inl (upd (upd (upd (upd (upd (upd (upd (upd (upd (upd (upd (upd (upd (upd (upd (upd (upd (upd (upd (f) n (ta_b a 24)) (n + 1) (ta_b a 16)) (n + 2) (ta_b a 8)) (n + 3) (ta_b a 0)) (n + 4) (ta_b b 24)) (n + 5) (ta_b b 16)) (n + 6) (ta_b b 8)) (n + 7) (ta_b b 0)) (n + 8) (ta_b c 24)) (n + 9) (ta_b c 16)) (n + 10) (ta_b c 8)) (n + 11) (ta_b c 0)) (n + 12) (ta_b d 24)) (n + 13) (ta_b d 16)) (n + 14) (ta_b d 8)) (n + 15) (ta_b d 0)) (n + 16) (ta_b e 24)) (n + 17) (ta_b e 16)) (n + 18) (ta_b e 8))) :: x26 :: x27 :: x28 :: x29 :: x30 :: x31 :: x32 :: .inl (0, 5, .inl (upd (upd (upd (upd (upd (fun _ => 0) 0 a) 1 b) 2 c) 3 d) 4 e)) :: []) ?_ rfl rfl rfl rfl
    refine rr_lvs [(7, .int 19), (6, .ref 33), (0, .ref 24), (1, .int a), (2, .int b), (3, .int c), (4, .int d), (5, .int e)] rfl ?_
    refine rr_iload d_Mo_feed_46 rfl ?_
    refine rr_bipush 20 d_Mo_feed_48 rfl ?_
    refine rr_icmp_ge 90 d_Mo_feed_50 (by decide) (fun c9 => absurd c9 (by decide)) (fun _ => ?_)
    refine rr_aload_n d_Mo_feed_53 rfl rfl ?_
    refine rr_getf d_Mo_feed_54 fl_Mo_9 rfl rfl ?_
    refine rr_aload_n d_Mo_feed_57 rfl rfl ?_
    refine rr_getf d_Mo_feed_58 fl_Mo_32 rfl rfl ?_
    refine rr_iload d_Mo_feed_61 rfl ?_
    refine rr_iadd d_Mo_feed_63 ?_
    rw [show (nI n + 19 : Int32) = nI (n + 19) from nI_add n 19]
    refine rr_aload d_Mo_feed_64 rfl ?_
    refine rr_iload d_Mo_feed_66 rfl ?_
    refine rr_iconst 4 d_Mo_feed_68 rfl ?_
    refine rr_idiv d_Mo_feed_69 (by decide) ?_
    refine rr_iald d_Mo_feed_70 rfl (vp_in_nI (n := 4) (N := 5) (by decide) (by decide)) ?_
    refine rr_bipush 24 d_Mo_feed_71 rfl ?_
    refine rr_bipush 8 d_Mo_feed_73 rfl ?_
    refine rr_iload d_Mo_feed_75 rfl ?_
    refine rr_iconst 4 d_Mo_feed_77 rfl ?_
    refine rr_irem d_Mo_feed_78 (by decide) ?_
    refine rr_imul d_Mo_feed_79 ?_
    refine rr_isub d_Mo_feed_80 ?_
    refine rr_ishr d_Mo_feed_81 ?_
    refine rr_i2b d_Mo_feed_82 ?_
    refine rr_bast d_Mo_feed_83 rfl (vp_in_nI (n := (n + 19)) (by omega) (by decide)) ?_
    refine rr_iinc 1 d_Mo_feed_84 rfl rfl (by decide) ?_
    refine rr_goto 46 d_Mo_feed_87 (by decide) ?_
    rw [nI_clamp (n := (n + 19)) (by omega)]
    refine rr_to 46 _ [] (x0 :: x1 :: x2 :: x3 :: x4 :: x5 :: x6 :: x7 :: x8 :: x9 :: x10 :: x11 :: x12 :: x13 :: x14 :: x15 :: x16 :: x17 :: x18 :: x19 :: x20 :: x21 :: x22 :: x23 :: .inr (6, [.ref 25, .int (nI n), lt, .ref 26, .int ru, .int at0, .int sz, .int kd0, .int fr0, .int to0, .int fa, .int pa, .long nu, .ref 27, .int my, .ref 28, .ref 29, .ref 30, .ref 31, .int pcv]) :: .inl (1, 400, .inl (upd (upd (upd (upd (upd (upd (upd (upd (upd (upd (upd (upd (upd (upd (upd (upd (upd (upd (upd (upd (f) n (ta_b a 24)) (n + 1) (ta_b a 16)) (n + 2) (ta_b a 8)) (n + 3) (ta_b a 0)) (n + 4) (ta_b b 24)) (n + 5) (ta_b b 16)) (n + 6) (ta_b b 8)) (n + 7) (ta_b b 0)) (n + 8) (ta_b c 24)) (n + 9) (ta_b c 16)) (n + 10) (ta_b c 8)) (n + 11) (ta_b c 0)) (n + 12) (ta_b d 24)) (n + 13) (ta_b d 16)) (n + 14) (ta_b d 8)) (n + 15) (ta_b d 0)) (n + 16) (ta_b e 24)) (n + 17) (ta_b e 16)) (n + 18) (ta_b e 8)) (n + 19) (ta_b e 0))) :: x26 :: x27 :: x28 :: x29 :: x30 :: x31 :: x32 :: .inl (0, 5, .inl (upd (upd (upd (upd (upd (fun _ => 0) 0 a) 1 b) 2 c) 3 d) 4 e)) :: []) ?_ rfl rfl rfl rfl
    refine rr_iload d_Mo_feed_46 rfl ?_
    refine rr_bipush 20 d_Mo_feed_48 rfl ?_
    refine rr_icmp_ge 90 d_Mo_feed_50 (by decide) (fun _ => ?_) (fun c9 => absurd (by decide) c9)
    refine rr_aload_n d_Mo_feed_90 rfl rfl ?_
    refine rr_dup d_Mo_feed_91 rfl ?_
    refine rr_getf d_Mo_feed_92 fl_Mo_32 rfl rfl ?_
    refine rr_bipush 20 d_Mo_feed_95 rfl ?_
    refine rr_iadd d_Mo_feed_97 ?_
    rw [show (nI n + 20 : Int32) = nI (n + 20) from nI_add n 20]
    refine rr_putf d_Mo_feed_98 fl_Mo_32 rfl rfl rfl rfl ?_
    refine rr_aload_n d_Mo_feed_101 rfl rfl ?_
    refine rr_getf d_Mo_feed_102 fl_Mo_32 rfl rfl ?_
    exact rr_ireturn d_Mo_feed_105 rfl rfl (Nat.le_of_ble_eq_true rfl) (Nat.le_of_ble_eq_true rfl) (⟨rfl, rfl⟩)
  · have h20 : ¬ n + 20 ≤ 400 := fun q => hc ((nI_leI (by omega) (by decide)).mpr q)
    simp only [if_neg h20]
    refine rr_bipush (-3) d_Mo_feed_13 rfl ?_
    exact rr_ireturn d_Mo_feed_15 rfl rfl (Nat.le_of_ble_eq_true rfl) (Nat.le_of_ble_eq_true rfl) (⟨rfl, rfl⟩)

set_option maxRecDepth 100000 in
set_option maxHeartbeats 4000000 in
theorem s_Mo_end {x0 x1 x2 x3 x4 x5 x6 x7 x8 x9 x10 x11 x12 x13 x14 x15 x16 x17 x18 x19 x20 x21 x22 x23 : va_E} {g : rr_H} {tm ru at0 sz kd0 fr0 to0 fa pa my pcv : Int32} {nu : Int64} {lt : Value} {x : Int32} : rr_Spec 1 y_Mo_end c_Mo_end 2 (some .int) 0 0 [.ref 24, .int x] (x0 :: x1 :: x2 :: x3 :: x4 :: x5 :: x6 :: x7 :: x8 :: x9 :: x10 :: x11 :: x12 :: x13 :: x14 :: x15 :: x16 :: x17 :: x18 :: x19 :: x20 :: x21 :: x22 :: x23 :: .inr (6, [.ref 25, .int tm, lt, .ref 26, .int ru, .int at0, .int sz, .int kd0, .int fr0, .int to0, .int fa, .int pa, .long nu, .ref 27, .int my, .ref 28, .ref 29, .ref 30, .ref 31, .int pcv]) :: g) (fun r h1 => if 0 ≤ x ∧ x ≤ tm then r = some (.int x) ∧ h1 = x0 :: x1 :: x2 :: x3 :: x4 :: x5 :: x6 :: x7 :: x8 :: x9 :: x10 :: x11 :: x12 :: x13 :: x14 :: x15 :: x16 :: x17 :: x18 :: x19 :: x20 :: x21 :: x22 :: x23 :: .inr (6, [.ref 25, .int x, lt, .ref 26, .int ru, .int at0, .int sz, .int kd0, .int fr0, .int to0, .int fa, .int pa, .long nu, .ref 27, .int my, .ref 28, .ref 29, .ref 30, .ref 31, .int pcv]) :: g else r = some (.int (-1)) ∧ h1 = x0 :: x1 :: x2 :: x3 :: x4 :: x5 :: x6 :: x7 :: x8 :: x9 :: x10 :: x11 :: x12 :: x13 :: x14 :: x15 :: x16 :: x17 :: x18 :: x19 :: x20 :: x21 :: x22 :: x23 :: .inr (6, [.ref 25, .int tm, lt, .ref 26, .int ru, .int at0, .int sz, .int kd0, .int fr0, .int to0, .int fa, .int pa, .long nu, .ref 27, .int my, .ref 28, .ref 29, .ref 30, .ref 31, .int pcv]) :: g) := by
  refine rr_met (own := R_Mo) (kd := (false, none)) (by decide +kernel) rfl (fun h => by cases h) rfl (Nat.le_of_ble_eq_true rfl) ?_
  refine rr_iload_n d_Mo_end_0 rfl rfl ?_
  refine rr_iconst 0 d_Mo_end_1 rfl ?_
  refine rr_aload_n d_Mo_end_2 rfl rfl ?_
  refine rr_getf d_Mo_end_3 fl_Mo_32 rfl rfl ?_
  refine rr_callS d_Mo_end_6 il_Mo_36 m_Mo_in (s_Mo_in) rfl rfl (Nat.le_of_ble_eq_true rfl) (Nat.le_of_ble_eq_true rfl) (Nat.le_of_ble_eq_true rfl) (Nat.le_of_ble_eq_true rfl) (Nat.le_of_ble_eq_true rfl) (fun rv9 hp9 hq => ?_)
  obtain ⟨rfl, rfl⟩ := hq
  by_cases hx : 0 ≤ x ∧ x ≤ tm
  · simp only [if_pos hx]
    rw [show decide (0 ≤ x ∧ x ≤ tm) = true from decide_eq_true hx]
    refine rr_if_ne 14 d_Mo_end_9 (by decide) (fun _ => ?_) (fun c9 => absurd c9 (by decide))
    refine rr_aload_n d_Mo_end_14 rfl rfl ?_
    refine rr_iload_n d_Mo_end_15 rfl rfl ?_
    refine rr_putf d_Mo_end_16 fl_Mo_32 rfl rfl rfl rfl ?_
    refine rr_iload_n d_Mo_end_19 rfl rfl ?_
    exact rr_ireturn d_Mo_end_20 rfl rfl (Nat.le_of_ble_eq_true rfl) (Nat.le_of_ble_eq_true rfl) (⟨rfl, rfl⟩)
  · simp only [if_neg hx]
    rw [show decide (0 ≤ x ∧ x ≤ tm) = false from decide_eq_false hx]
    refine rr_if_ne 14 d_Mo_end_9 (by decide) (fun c9 => absurd (rfl) c9) (fun _ => ?_)
    refine rr_iconst (-1) d_Mo_end_12 rfl ?_
    exact rr_ireturn d_Mo_end_13 rfl rfl (Nat.le_of_ble_eq_true rfl) (Nat.le_of_ble_eq_true rfl) (⟨rfl, rfl⟩)

theorem le31 (x : Int32) : x ≤ 31 ↔ x < 32 := by
  rw [Int32.le_iff_toInt_le, Int32.lt_iff_toInt_lt, show (31 : Int32).toInt = 31 by decide, show (32 : Int32).toInt = 32 by decide]
  omega

set_option maxRecDepth 100000 in
set_option maxHeartbeats 4000000 in
theorem s_Mo_cell {x0 x1 x2 x3 x4 x5 x6 x7 x8 x9 x10 x11 x12 x13 x14 x15 x16 x17 x18 x19 x20 x21 x22 x23 x25 x26 x27 : va_E} {g : rr_H} {tm ru at0 sz kd0 fr0 to0 fa pa my pcv : Int32} {nu : Int64} {lt : Value} {fm : Nat → Int32} {x : Int32} : rr_Spec 1 y_Mo_cell c_Mo_cell 2 (some .long) 0 0 [.ref 24, .int x] (x0 :: x1 :: x2 :: x3 :: x4 :: x5 :: x6 :: x7 :: x8 :: x9 :: x10 :: x11 :: x12 :: x13 :: x14 :: x15 :: x16 :: x17 :: x18 :: x19 :: x20 :: x21 :: x22 :: x23 :: .inr (6, [.ref 25, .int tm, lt, .ref 26, .int ru, .int at0, .int sz, .int kd0, .int fr0, .int to0, .int fa, .int pa, .long nu, .ref 27, .int my, .ref 28, .ref 29, .ref 30, .ref 31, .int pcv]) :: x25 :: x26 :: x27 :: .inl (0, 32, .inl (fm)) :: g) (fun r h1 => r = some (.long (if 0 ≤ x ∧ x < 32 then (fm x.toNatClampNeg).toInt64 else 1099511627776)) ∧ h1 = x0 :: x1 :: x2 :: x3 :: x4 :: x5 :: x6 :: x7 :: x8 :: x9 :: x10 :: x11 :: x12 :: x13 :: x14 :: x15 :: x16 :: x17 :: x18 :: x19 :: x20 :: x21 :: x22 :: x23 :: .inr (6, [.ref 25, .int tm, lt, .ref 26, .int ru, .int at0, .int sz, .int kd0, .int fr0, .int to0, .int fa, .int pa, .long nu, .ref 27, .int my, .ref 28, .ref 29, .ref 30, .ref 31, .int pcv]) :: x25 :: x26 :: x27 :: .inl (0, 32, .inl (fm)) :: g) := by
  refine rr_met (own := R_Mo) (kd := (false, none)) (by decide +kernel) rfl (fun h => by cases h) rfl (Nat.le_of_ble_eq_true rfl) ?_
  refine rr_iload_n d_Mo_cell_0 rfl rfl ?_
  refine rr_iconst 0 d_Mo_cell_1 rfl ?_
  refine rr_bipush 31 d_Mo_cell_2 rfl ?_
  refine rr_callS d_Mo_cell_4 il_Mo_36 m_Mo_in (s_Mo_in) rfl rfl (Nat.le_of_ble_eq_true rfl) (Nat.le_of_ble_eq_true rfl) (Nat.le_of_ble_eq_true rfl) (Nat.le_of_ble_eq_true rfl) (Nat.le_of_ble_eq_true rfl) (fun rv9 hp9 hq => ?_)
  obtain ⟨rfl, rfl⟩ := hq
  by_cases hx : 0 ≤ x ∧ x < 32
  · rw [if_pos hx, show decide (0 ≤ x ∧ x ≤ 31) = true from decide_eq_true ⟨hx.1, (le31 x).mpr hx.2⟩]
    obtain ⟨k, hk, rfl⟩ := ce_in hx
    refine rr_if_eq 20 d_Mo_cell_7 (by decide) (fun c9 => absurd c9 (by decide)) (fun _ => ?_)
    refine rr_aload_n d_Mo_cell_10 rfl rfl ?_
    refine rr_getf d_Mo_cell_11 fl_Mo_20 rfl rfl ?_
    refine rr_iload_n d_Mo_cell_14 rfl rfl ?_
    refine rr_iald d_Mo_cell_15 rfl (vp_in_nI hk (by decide)) ?_
    refine rr_i2l d_Mo_cell_16 ?_
    refine rr_goto 23 d_Mo_cell_17 (by decide) ?_
    exact rr_lreturn d_Mo_cell_23 rfl (Nat.le_of_ble_eq_true rfl) (Nat.le_of_ble_eq_true rfl) (⟨rfl, rfl⟩)
  · rw [if_neg hx, show decide (0 ≤ x ∧ x ≤ 31) = false from decide_eq_false (fun q => hx ⟨q.1, (le31 x).mp q.2⟩)]
    refine rr_if_eq 20 d_Mo_cell_7 (by decide) (fun _ => ?_) (fun c9 => absurd (rfl) c9)
    refine rr_ldc2 d_Mo_cell_20 kl_Mo_84 ?_
    exact rr_lreturn d_Mo_cell_23 rfl (Nat.le_of_ble_eq_true rfl) (Nat.le_of_ble_eq_true rfl) (⟨rfl, rfl⟩)

set_option maxRecDepth 100000 in
set_option maxHeartbeats 4000000 in
theorem s_Mo_set {x0 x1 x2 x3 x4 x5 x6 x7 x8 x9 x10 x11 x12 x13 x14 x15 x16 x17 x18 x19 x20 x21 x22 x23 x25 x26 x27 : va_E} {g : rr_H} {tm at0 sz kd0 fr0 to0 fa pa my pcv : Int32} {nu : Int64} {lt : Value} {fm : Nat → Int32} {ru : Nat} {x v : Int32} (hru : ru ≤ 200) : rr_Spec 1 y_Mo_set c_Mo_set 3 (some .int) 0 0 [.ref 24, .int x, .int v] (x0 :: x1 :: x2 :: x3 :: x4 :: x5 :: x6 :: x7 :: x8 :: x9 :: x10 :: x11 :: x12 :: x13 :: x14 :: x15 :: x16 :: x17 :: x18 :: x19 :: x20 :: x21 :: x22 :: x23 :: .inr (6, [.ref 25, .int tm, lt, .ref 26, .int (nI ru), .int at0, .int sz, .int kd0, .int fr0, .int to0, .int fa, .int pa, .long nu, .ref 27, .int my, .ref 28, .ref 29, .ref 30, .ref 31, .int pcv]) :: x25 :: x26 :: x27 :: .inl (0, 32, .inl (fm)) :: g) (fun r h1 => if 0 ≤ x ∧ x < 32 then (if 0 < ru then r = some (.int (-3)) ∧ h1 = x0 :: x1 :: x2 :: x3 :: x4 :: x5 :: x6 :: x7 :: x8 :: x9 :: x10 :: x11 :: x12 :: x13 :: x14 :: x15 :: x16 :: x17 :: x18 :: x19 :: x20 :: x21 :: x22 :: x23 :: .inr (6, [.ref 25, .int tm, lt, .ref 26, .int (nI ru), .int at0, .int sz, .int kd0, .int fr0, .int to0, .int fa, .int pa, .long nu, .ref 27, .int my, .ref 28, .ref 29, .ref 30, .ref 31, .int pcv]) :: x25 :: x26 :: x27 :: .inl (0, 32, .inl (fm)) :: g else r = some (.int 0) ∧ h1 = x0 :: x1 :: x2 :: x3 :: x4 :: x5 :: x6 :: x7 :: x8 :: x9 :: x10 :: x11 :: x12 :: x13 :: x14 :: x15 :: x16 :: x17 :: x18 :: x19 :: x20 :: x21 :: x22 :: x23 :: .inr (6, [.ref 25, .int tm, lt, .ref 26, .int (nI ru), .int at0, .int sz, .int kd0, .int fr0, .int to0, .int fa, .int pa, .long nu, .ref 27, .int my, .ref 28, .ref 29, .ref 30, .ref 31, .int pcv]) :: x25 :: x26 :: x27 :: .inl (0, 32, .inl (upd fm x.toNatClampNeg v)) :: g) else r = some (.int (-1)) ∧ h1 = x0 :: x1 :: x2 :: x3 :: x4 :: x5 :: x6 :: x7 :: x8 :: x9 :: x10 :: x11 :: x12 :: x13 :: x14 :: x15 :: x16 :: x17 :: x18 :: x19 :: x20 :: x21 :: x22 :: x23 :: .inr (6, [.ref 25, .int tm, lt, .ref 26, .int (nI ru), .int at0, .int sz, .int kd0, .int fr0, .int to0, .int fa, .int pa, .long nu, .ref 27, .int my, .ref 28, .ref 29, .ref 30, .ref 31, .int pcv]) :: x25 :: x26 :: x27 :: .inl (0, 32, .inl (fm)) :: g) := by
  refine rr_met (own := R_Mo) (kd := (false, none)) (by decide +kernel) rfl (fun h => by cases h) rfl (Nat.le_of_ble_eq_true rfl) ?_
  refine rr_iload_n d_Mo_set_0 rfl rfl ?_
  refine rr_iconst 0 d_Mo_set_1 rfl ?_
  refine rr_bipush 31 d_Mo_set_2 rfl ?_
  refine rr_callS d_Mo_set_4 il_Mo_36 m_Mo_in (s_Mo_in) rfl rfl (Nat.le_of_ble_eq_true rfl) (Nat.le_of_ble_eq_true rfl) (Nat.le_of_ble_eq_true rfl) (Nat.le_of_ble_eq_true rfl) (Nat.le_of_ble_eq_true rfl) (fun rv9 hp9 hq => ?_)
  obtain ⟨rfl, rfl⟩ := hq
  by_cases hx : 0 ≤ x ∧ x < 32
  · simp only [if_pos hx]
    rw [show decide (0 ≤ x ∧ x ≤ 31) = true from decide_eq_true ⟨hx.1, (le31 x).mpr hx.2⟩]
    obtain ⟨k, hk, rfl⟩ := ce_in hx
    refine rr_if_ne 12 d_Mo_set_7 (by decide) (fun _ => ?_) (fun c9 => absurd c9 (by decide))
    refine rr_aload_n d_Mo_set_12 rfl rfl ?_
    refine rr_getf d_Mo_set_13 fl_Mo_198 rfl rfl ?_
    refine rr_if_le 22 d_Mo_set_16 (by decide) (fun hc => ?_) (fun hc => ?_)
    · have h0 : ¬ 0 < ru := fun q => nI_nle q (by omega) hc
      simp only [if_neg h0]
      refine rr_aload_n d_Mo_set_22 rfl rfl ?_
      refine rr_getf d_Mo_set_23 fl_Mo_20 rfl rfl ?_
      refine rr_iload_n d_Mo_set_26 rfl rfl ?_
      refine rr_iload_n d_Mo_set_27 rfl rfl ?_
      refine rr_iast d_Mo_set_28 rfl (vp_in_nI hk (by decide)) ?_
      refine rr_iconst 0 d_Mo_set_29 rfl ?_
      exact rr_ireturn d_Mo_set_30 rfl rfl (Nat.le_of_ble_eq_true rfl) (Nat.le_of_ble_eq_true rfl) (⟨rfl, rfl⟩)
    · have h0 : 0 < ru := by
        rcases Nat.eq_zero_or_pos ru with rfl | q
        · exact absurd (by decide) hc
        · exact q
      simp only [if_pos h0]
      refine rr_bipush (-3) d_Mo_set_19 rfl ?_
      exact rr_ireturn d_Mo_set_21 rfl rfl (Nat.le_of_ble_eq_true rfl) (Nat.le_of_ble_eq_true rfl) (⟨rfl, rfl⟩)
  · simp only [if_neg hx]
    rw [show decide (0 ≤ x ∧ x ≤ 31) = false from decide_eq_false (fun q => hx ⟨q.1, (le31 x).mp q.2⟩)]
    refine rr_if_ne 12 d_Mo_set_7 (by decide) (fun c9 => absurd (rfl) c9) (fun _ => ?_)
    refine rr_iconst (-1) d_Mo_set_10 rfl ?_
    exact rr_ireturn d_Mo_set_11 rfl rfl (Nat.le_of_ble_eq_true rfl) (Nat.le_of_ble_eq_true rfl) (⟨rfl, rfl⟩)

set_option maxRecDepth 100000 in
set_option maxHeartbeats 4000000 in
theorem s_Mo_count {x0 x1 x2 x3 x4 x5 x6 x7 x8 x9 x10 x11 x12 x13 x14 x15 x16 x17 x18 x19 x20 x21 x22 x23 : va_E} {g : rr_H} {tm ru at0 sz kd0 fr0 to0 fa pa my pcv : Int32} {nu : Int64} {lt : Value} {x : Int32} : rr_Spec 0 y_Mo_count c_Mo_count 2 (some .int) 0 0 [.ref 24, .int x] (x0 :: x1 :: x2 :: x3 :: x4 :: x5 :: x6 :: x7 :: x8 :: x9 :: x10 :: x11 :: x12 :: x13 :: x14 :: x15 :: x16 :: x17 :: x18 :: x19 :: x20 :: x21 :: x22 :: x23 :: .inr (6, [.ref 25, .int tm, lt, .ref 26, .int ru, .int at0, .int sz, .int kd0, .int fr0, .int to0, .int fa, .int pa, .long nu, .ref 27, .int my, .ref 28, .ref 29, .ref 30, .ref 31, .int pcv]) :: g) (fun r h1 => r = some (.int (if x = 0 then ru else if x = 1 then tm else -1)) ∧ h1 = x0 :: x1 :: x2 :: x3 :: x4 :: x5 :: x6 :: x7 :: x8 :: x9 :: x10 :: x11 :: x12 :: x13 :: x14 :: x15 :: x16 :: x17 :: x18 :: x19 :: x20 :: x21 :: x22 :: x23 :: .inr (6, [.ref 25, .int tm, lt, .ref 26, .int ru, .int at0, .int sz, .int kd0, .int fr0, .int to0, .int fa, .int pa, .long nu, .ref 27, .int my, .ref 28, .ref 29, .ref 30, .ref 31, .int pcv]) :: g) := by
  refine rr_met (own := R_Mo) (kd := (false, none)) (by decide +kernel) rfl (fun h => by cases h) rfl (Nat.le_of_ble_eq_true rfl) ?_
  refine rr_iload_n d_Mo_count_0 rfl rfl ?_
  by_cases h0 : x = 0
  · rw [if_pos h0]
    refine rr_if_ne 11 d_Mo_count_1 (by decide) (fun c9 => absurd (h0) c9) (fun _ => ?_)
    refine rr_aload_n d_Mo_count_4 rfl rfl ?_
    refine rr_getf d_Mo_count_5 fl_Mo_198 rfl rfl ?_
    refine rr_goto 24 d_Mo_count_8 (by decide) ?_
    exact rr_ireturn d_Mo_count_24 rfl rfl (Nat.le_of_ble_eq_true rfl) (Nat.le_of_ble_eq_true rfl) (⟨rfl, rfl⟩)
  · rw [if_neg h0]
    refine rr_if_ne 11 d_Mo_count_1 (by decide) (fun _ => ?_) (fun c9 => absurd c9 (h0))
    refine rr_iload_n d_Mo_count_11 rfl rfl ?_
    refine rr_iconst 1 d_Mo_count_12 rfl ?_
    by_cases h1 : x = 1
    · rw [if_pos h1]
      refine rr_icmp_ne 23 d_Mo_count_13 (by decide) (fun c9 => absurd (h1) c9) (fun _ => ?_)
      refine rr_aload_n d_Mo_count_16 rfl rfl ?_
      refine rr_getf d_Mo_count_17 fl_Mo_32 rfl rfl ?_
      refine rr_goto 24 d_Mo_count_20 (by decide) ?_
      exact rr_ireturn d_Mo_count_24 rfl rfl (Nat.le_of_ble_eq_true rfl) (Nat.le_of_ble_eq_true rfl) (⟨rfl, rfl⟩)
    · rw [if_neg h1]
      refine rr_icmp_ne 23 d_Mo_count_13 (by decide) (fun _ => ?_) (fun c9 => absurd c9 (h1))
      refine rr_iconst (-1) d_Mo_count_23 rfl ?_
      exact rr_ireturn d_Mo_count_24 rfl rfl (Nat.le_of_ble_eq_true rfl) (Nat.le_of_ble_eq_true rfl) (⟨rfl, rfl⟩)

set_option maxRecDepth 100000 in
set_option maxHeartbeats 4000000 in
theorem s_Mo_init {x0 x1 x2 x3 x4 x5 x6 x7 x8 x9 x10 x11 x12 x13 x14 x15 x16 x17 x18 x19 x20 x21 x22 x23 : va_E} : rr_Spec 1 y_Mo_init c_Mo_init 1 none 7 8608 [.ref 24] (x0 :: x1 :: x2 :: x3 :: x4 :: x5 :: x6 :: x7 :: x8 :: x9 :: x10 :: x11 :: x12 :: x13 :: x14 :: x15 :: x16 :: x17 :: x18 :: x19 :: x20 :: x21 :: x22 :: x23 :: .inr (6, [.null, .int 0, .null, .null, .int 0, .int 0, .int 0, .int 0, .int 0, .int 0, .int 0, .int 0, .long 0, .null, .int 0, .null, .null, .null, .null, .int 0]) :: []) (fun r h1 => r = none ∧ h1 = x0 :: x1 :: x2 :: x3 :: x4 :: x5 :: x6 :: x7 :: x8 :: x9 :: x10 :: x11 :: x12 :: x13 :: x14 :: x15 :: x16 :: x17 :: x18 :: x19 :: x20 :: x21 :: x22 :: x23 :: .inr (6, [.ref 25, .int 0, .null, .ref 26, .int 0, .int 0, .int 0, .int 0, .int 0, .int 0, .int 0, .int 0, .long 0, .ref 27, .int 0, .ref 28, .ref 29, .ref 30, .ref 31, .int 0]) :: .inl (1, 400, .inl (fun _ => 0)) :: .inl (0, 6400, .inl (fun _ => 0)) :: .inl (0, 1600, .inl (fun _ => 0)) :: .inl (0, 32, .inl (fun _ => 0)) :: .inl (0, 160, .inl (fun _ => 0)) :: .inl (0, 8, .inl (fun _ => 0)) :: .inl (0, 8, .inl (fun _ => 0)) :: []) := by
  refine rr_met (own := R_Mo) (kd := (true, none)) (by decide +kernel) rfl (fun _ => rfl) rfl (Nat.le_of_ble_eq_true rfl) ?_
  refine rr_aload_n d_Mo_init_0 rfl rfl ?_
  refine rr_objInit d_Mo_init_1 ol_Mo_1 (Nat.le_of_ble_eq_true rfl) (Nat.le_of_ble_eq_true rfl) ?_
  refine rr_aload_n d_Mo_init_4 rfl rfl ?_
  refine rr_sipush 400 d_Mo_init_5 rfl ?_
  refine rr_newB (400) d_Mo_init_8 (by decide) (by decide) (Nat.le_of_ble_eq_true rfl) (Nat.le_of_ble_eq_true rfl) (Nat.le_of_ble_eq_true rfl) (Nat.le_of_ble_eq_true rfl) ?_
  refine rr_putF d_Mo_init_10 rfl fF_Mo_9 rfl rfl rfl ?_
  refine rr_aload_n d_Mo_init_13 rfl rfl ?_
  refine rr_sipush 6400 d_Mo_init_14 rfl ?_
  refine rr_newI (6400) d_Mo_init_17 (by decide) (by decide) (Nat.le_of_ble_eq_true rfl) (Nat.le_of_ble_eq_true rfl) (Nat.le_of_ble_eq_true rfl) (Nat.le_of_ble_eq_true rfl) ?_
  refine rr_putF d_Mo_init_19 rfl fF_Mo_13 rfl rfl rfl ?_
  refine rr_aload_n d_Mo_init_22 rfl rfl ?_
  refine rr_sipush 1600 d_Mo_init_23 rfl ?_
  refine rr_newI (1600) d_Mo_init_26 (by decide) (by decide) (Nat.le_of_ble_eq_true rfl) (Nat.le_of_ble_eq_true rfl) (Nat.le_of_ble_eq_true rfl) (Nat.le_of_ble_eq_true rfl) ?_
  refine rr_putF d_Mo_init_28 rfl fF_Mo_17 rfl rfl rfl ?_
  refine rr_aload_n d_Mo_init_31 rfl rfl ?_
  refine rr_bipush 32 d_Mo_init_32 rfl ?_
  refine rr_newI (32) d_Mo_init_34 (by decide) (by decide) (Nat.le_of_ble_eq_true rfl) (Nat.le_of_ble_eq_true rfl) (Nat.le_of_ble_eq_true rfl) (Nat.le_of_ble_eq_true rfl) ?_
  refine rr_putF d_Mo_init_36 rfl fF_Mo_20 rfl rfl rfl ?_
  refine rr_aload_n d_Mo_init_39 rfl rfl ?_
  refine rr_sipush 160 d_Mo_init_40 rfl ?_
  refine rr_newI (160) d_Mo_init_43 (by decide) (by decide) (Nat.le_of_ble_eq_true rfl) (Nat.le_of_ble_eq_true rfl) (Nat.le_of_ble_eq_true rfl) (Nat.le_of_ble_eq_true rfl) ?_
  refine rr_putF d_Mo_init_45 rfl fF_Mo_23 rfl rfl rfl ?_
  refine rr_aload_n d_Mo_init_48 rfl rfl ?_
  refine rr_bipush 8 d_Mo_init_49 rfl ?_
  refine rr_newI (8) d_Mo_init_51 (by decide) (by decide) (Nat.le_of_ble_eq_true rfl) (Nat.le_of_ble_eq_true rfl) (Nat.le_of_ble_eq_true rfl) (Nat.le_of_ble_eq_true rfl) ?_
  refine rr_putF d_Mo_init_53 rfl fF_Mo_26 rfl rfl rfl ?_
  refine rr_aload_n d_Mo_init_56 rfl rfl ?_
  refine rr_bipush 8 d_Mo_init_57 rfl ?_
  refine rr_newI (8) d_Mo_init_59 (by decide) (by decide) (Nat.le_of_ble_eq_true rfl) (Nat.le_of_ble_eq_true rfl) (Nat.le_of_ble_eq_true rfl) (Nat.le_of_ble_eq_true rfl) ?_
  refine rr_putF d_Mo_init_61 rfl fF_Mo_29 rfl rfl rfl ?_
  exact rr_return d_Mo_init_64 rfl (Nat.le_of_ble_eq_true rfl) (Nat.le_of_ble_eq_true rfl) (⟨rfl, rfl⟩)
