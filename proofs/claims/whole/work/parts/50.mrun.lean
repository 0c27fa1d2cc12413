/-! The reference: holds, perform, run, undo. -/
theorem enC_cnt : ∀ (ts : List sp_C), ts.length ≤ (ts.flatMap enC).length
  | [] => Nat.zero_le _
  | q :: ts => by
    have := enC_cnt ts
    have h1 : 1 ≤ (enC q).length := by unfold enC; simp only [List.length_append, List.length_cons]; omega
    rw [List.flatMap_cons, List.length_append, List.length_cons]
    omega

set_option maxRecDepth 100000 in
set_option maxHeartbeats 4000000 in
theorem u_holds {x0 x1 x2 x3 x4 x5 x6 x7 x8 x9 x10 x11 x12 x13 x14 x15 x16 x17 x18 x19 x20 x21 x22 x23 x25 x26 x27 : va_E} {g : rr_H} {tm ru at0 sz kd0 fr0 to0 fa pa my sv sp : Int32} {nu : Int64} {c fm fo go : Nat → Int32} {N : Nat} {fs : Nat → Int32} {i : Nat} (hN : N ≤ 1600) (ts : List sp_C) (hh : hd_ c i ([if ts.length = 0 then -1 else nI ts.length] ++ ts.flatMap enC)) (hi : i + 1 + (ts.flatMap enC).length < N) (hg : ∀ q ∈ ts, gc q) : rr_Spec 1 y_Mo_holds c_Mo_holds 10 (some .boolean) 0 0 [.ref 24, .int sv, .int sp] (x0 :: x1 :: x2 :: x3 :: x4 :: x5 :: x6 :: x7 :: x8 :: x9 :: x10 :: x11 :: x12 :: x13 :: x14 :: x15 :: x16 :: x17 :: x18 :: x19 :: x20 :: x21 :: x22 :: x23 :: .inr (6, [.ref 25, .int tm, (.ref 32), .ref 26, .int ru, .int at0, .int sz, .int kd0, .int fr0, .int to0, .int fa, .int pa, .long nu, .ref 27, .int my, .ref 28, .ref 29, .ref 30, .ref 31, .int (nI i)]) :: x25 :: x26 :: x27 :: .inl (0, 32, .inl (fm)) :: .inl (0, 160, .inl (fs)) :: .inl (0, 8, .inl (fo)) :: .inl (0, 8, .inl (go)) :: .inl (0, N, .inl c) :: g) (fun r h1 => ∃ (fs2 : Nat → Int32) (pc2 : Int32), r = some (.int (sp_b (sp_ts fm sv sp ts))) ∧ h1 = x0 :: x1 :: x2 :: x3 :: x4 :: x5 :: x6 :: x7 :: x8 :: x9 :: x10 :: x11 :: x12 :: x13 :: x14 :: x15 :: x16 :: x17 :: x18 :: x19 :: x20 :: x21 :: x22 :: x23 :: .inr (6, [.ref 25, .int tm, (.ref 32), .ref 26, .int ru, .int at0, .int sz, .int kd0, .int fr0, .int to0, .int fa, .int pa, .long nu, .ref 27, .int my, .ref 28, .ref 29, .ref 30, .ref 31, .int pc2]) :: x25 :: x26 :: x27 :: .inl (0, 32, .inl (fm)) :: .inl (0, 160, .inl (fs2)) :: .inl (0, 8, .inl (fo)) :: .inl (0, 8, .inl (go)) :: .inl (0, N, .inl c) :: g ∧ (sp_ts fm sv sp ts = true → pc2 = nI (i + 1 + (ts.flatMap enC).length))) := by
  obtain ⟨b1, b2⟩ := hd_app.mp hh
  have c0 := hd_1.mp b1
  have hcnt := enC_cnt ts
  refine rr_met (own := R_Mo) (kd := (false, none)) (by decide +kernel) rfl (fun h => by cases h) rfl (Nat.le_of_ble_eq_true rfl) ?_
  refine rr_aload_n d_Mo_holds_0 rfl rfl ?_
  refine rr_getf d_Mo_holds_1 fl_Mo_135 rfl rfl ?_
  refine rr_astore_n d_Mo_holds_4 rfl (by decide) ?_
  refine rr_aload_n d_Mo_holds_5 rfl rfl ?_
  refine rr_aload_n d_Mo_holds_6 rfl rfl ?_
  refine rr_getf d_Mo_holds_7 fl_Mo_187 rfl rfl ?_
  refine rr_iald d_Mo_holds_10 rfl (vp_in_nI (n := i) (by omega) (by omega)) ?_
  refine rr_istore d_Mo_holds_11 (by decide) ?_
  refine rr_aload_n d_Mo_holds_13 rfl rfl ?_
  refine rr_dup d_Mo_holds_14 rfl ?_
  refine rr_getf d_Mo_holds_15 fl_Mo_187 rfl rfl ?_
  refine rr_iconst 1 d_Mo_holds_18 rfl ?_
  refine rr_iadd d_Mo_holds_19 ?_
  refine rr_putf d_Mo_holds_20 fl_Mo_187 rfl rfl rfl rfl ?_
  refine rr_iconst 0 d_Mo_holds_23 rfl ?_
  refine rr_istore d_Mo_holds_24 (by decide) ?_
  rw [nI_clamp (by omega), c0, nI_1]
  by_cases h0 : ts.length = 0
  · rw [if_pos h0]
    obtain rfl : ts = [] := List.length_eq_zero_iff.mp h0
    refine rr_iload d_Mo_holds_26 rfl ?_
    refine rr_iload d_Mo_holds_28 rfl ?_
    refine rr_icmp_ge 160 d_Mo_holds_30 (by decide) (fun _ => ?_) (fun c9 => absurd (by decide) c9)
    refine rr_iconst 1 d_Mo_holds_160 rfl ?_
    exact rr_ireturn d_Mo_holds_161 rfl rfl (Nat.le_of_ble_eq_true rfl) (Nat.le_of_ble_eq_true rfl) (⟨_, _, rfl, rfl, fun _ => rfl⟩)
  · rw [if_neg h0]
    exact rr_lvs [(5, .int (nI 0)), (4, .int (nI ts.length)), (3, .ref 32), (0, .ref 24), (1, .int sv), (2, .int sp)] rfl (l_holds2 hN (by omega) ts 0 (i + 1) fs (Nat.zero_add _) b2 hi hg)

set_option maxRecDepth 100000 in
set_option maxHeartbeats 4000000 in
theorem l_mreffs {x0 x1 x2 x3 x4 x5 x6 x7 x8 x9 x10 x11 x12 x13 x14 x15 x16 x17 x18 x19 x20 x21 x22 x23 x25 x26 x27 : va_E} {g : rr_H} {tm ru at0 sz kd0 fr0 to0 fa pa my sv sp rn : Int32} {nu : Int64} {c fm : Nat → Int32} {N n : Nat} {Q : Option Value → rr_H → Prop} (hN : N ≤ 1600) (hn : n ≤ 8) : ∀ (es : List sp_F) (k i : Nat) (fs fo go : Nat → Int32), k + es.length = n → hd_ c i (es.flatMap enF) → i + (es.flatMap enF).length ≤ N → (∀ e ∈ es, gf e) → (∀ (fs2 : Nat → Int32), rr_A R_Mo c_Mo_perform 7 (some .int) (false, none) { frames := 2, cells := 0, slots := 0, locals := 2 * 64 } (Q) 0 0 57 [(6, .int (nI n)), (5, .int (nI n)), (4, .int rn), (3, .ref 32), (0, .ref 24), (1, .int sv), (2, .int sp)] [] (x0 :: x1 :: x2 :: x3 :: x4 :: x5 :: x6 :: x7 :: x8 :: x9 :: x10 :: x11 :: x12 :: x13 :: x14 :: x15 :: x16 :: x17 :: x18 :: x19 :: x20 :: x21 :: x22 :: x23 :: .inr (6, [.ref 25, .int tm, (.ref 32), .ref 26, .int ru, .int at0, .int sz, .int kd0, .int fr0, .int to0, .int fa, .int pa, .long nu, .ref 27, .int my, .ref 28, .ref 29, .ref 30, .ref 31, .int (nI (i + (es.flatMap enF).length))]) :: x25 :: x26 :: x27 :: .inl (0, 32, .inl (fm)) :: .inl (0, 160, .inl (fs2)) :: .inl (0, 8, .inl (sp_wr fo k (es.map fun q => sp_val fm sv sp q.2))) :: .inl (0, 8, .inl (sp_wr go k (es.map fun q => q.1))) :: .inl (0, N, .inl c) :: g)) → rr_A R_Mo c_Mo_perform 7 (some .int) (false, none) { frames := 2, cells := 0, slots := 0, locals := 2 * 64 } (Q) 0 0 57 [(6, .int (nI k)), (5, .int (nI n)), (4, .int rn), (3, .ref 32), (0, .ref 24), (1, .int sv), (2, .int sp)] [] (x0 :: x1 :: x2 :: x3 :: x4 :: x5 :: x6 :: x7 :: x8 :: x9 :: x10 :: x11 :: x12 :: x13 :: x14 :: x15 :: x16 :: x17 :: x18 :: x19 :: x20 :: x21 :: x22 :: x23 :: .inr (6, [.ref 25, .int tm, (.ref 32), .ref 26, .int ru, .int at0, .int sz, .int kd0, .int fr0, .int to0, .int fa, .int pa, .long nu, .ref 27, .int my, .ref 28, .ref 29, .ref 30, .ref 31, .int (nI i)]) :: x25 :: x26 :: x27 :: .inl (0, 32, .inl (fm)) :: .inl (0, 160, .inl (fs)) :: .inl (0, 8, .inl (fo)) :: .inl (0, 8, .inl (go)) :: .inl (0, N, .inl c) :: g) := by
  intro es
  induction es with
  | nil =>
    intro k i fs fo go hk ha hi hg kk
    obtain rfl : k = n := hk
    exact kk fs
  | cons q es ih =>
    intro k i fs fo go hk ha hi hg kk
    have hk2 : k + (es.length + 1) = n := hk
    obtain ⟨g1, g2, g3⟩ := hg q List.mem_cons_self
    have hfl : (q :: es).flatMap enF = [q.1] ++ ((en q.2 ++ [7]) ++ es.flatMap enF) := by
      rw [List.flatMap_cons]
      simp [enF]
    rw [hfl] at ha hi
    obtain ⟨b1, b2⟩ := hd_app.mp ha
    obtain ⟨b3, b4⟩ := hd_app.mp b2
    have c0 : c i = q.1 := hd_1.mp b1
    have hl1 : ([q.1] : List Int32).length = 1 := rfl
    have hx1 : (en q.2 ++ [7]).length = (en q.2).length + 1 := by rw [List.length_append]; rfl
    rw [hl1] at b3 b4
    simp only [List.length_append, hl1] at hi
    simp only [List.length_cons, List.length_nil] at hi
    have hkv : vp_in (nI k) 8 := vp_in_nI (by omega) (by decide)
    refine rr_iload d_Mo_perform_57 rfl ?_
    refine rr_iload d_Mo_perform_59 rfl ?_
    refine rr_icmp_ge 106 d_Mo_perform_61 (by decide) (fun c9 => absurd c9 (nI_ge (by omega) (by omega))) (fun _ => ?_)
    refine rr_aload_n d_Mo_perform_64 rfl rfl ?_
    refine rr_getf d_Mo_perform_65 fl_Mo_29 rfl rfl ?_
    refine rr_iload d_Mo_perform_68 rfl ?_
    refine rr_aload_n d_Mo_perform_70 rfl rfl ?_
    refine rr_aload_n d_Mo_perform_71 rfl rfl ?_
    refine rr_getf d_Mo_perform_72 fl_Mo_187 rfl rfl ?_
    refine rr_iald d_Mo_perform_75 rfl (vp_in_nI (n := i) (by omega) (by omega)) ?_
    refine rr_iast d_Mo_perform_76 rfl (hkv) ?_
    refine rr_aload_n d_Mo_perform_77 rfl rfl ?_
    refine rr_dup d_Mo_perform_78 rfl ?_
    refine rr_getf d_Mo_perform_79 fl_Mo_187 rfl rfl ?_
    refine rr_iconst 1 d_Mo_perform_82 rfl ?_
    refine rr_iadd d_Mo_perform_83 ?_
    refine rr_putf d_Mo_perform_84 fl_Mo_187 rfl rfl rfl rfl ?_
    refine rr_aload_n d_Mo_perform_87 rfl rfl ?_
    refine rr_getf d_Mo_perform_88 fl_Mo_26 rfl rfl ?_
    refine rr_iload d_Mo_perform_91 rfl ?_
    refine rr_aload_n d_Mo_perform_93 rfl rfl ?_
    refine rr_iload_n d_Mo_perform_94 rfl rfl ?_
    refine rr_iload_n d_Mo_perform_95 rfl rfl ?_
    rw [nI_clamp (n := i) (by omega), nI_clamp (n := k) (by omega), c0, nI_1]
    refine rr_callV d_Mo_perform_96 il_Mo_190 m_Mo_value (u_value q.2 hN g1 g2 b3 (by omega)) rfl rfl rfl rfl (Nat.le_of_ble_eq_true rfl) (Nat.le_of_ble_eq_true rfl) (Nat.le_of_ble_eq_true rfl) (Nat.le_of_ble_eq_true rfl) (Nat.le_of_ble_eq_true rfl) (fun rv9 hp9 hq => ?_)
    obtain ⟨fs2, rfl, rfl⟩ := hq
    refine rr_iast d_Mo_perform_99 rfl (hkv) ?_
    refine rr_iinc 1 d_Mo_perform_100 rfl rfl (by decide) ?_
    refine rr_goto 57 d_Mo_perform_103 (by decide) ?_
    rw [nI_clamp (n := k) (by omega), nI_1]
    refine rr_lvs _ rfl (ih (k + 1) _ fs2 _ _ (by omega) b4 (by omega) (fun r hr => hg r (List.mem_cons_of_mem _ hr)) (fun fs3 => ?_))
    have := kk fs3
    have e : i + ((q :: es).flatMap enF).length = i + 1 + (en q.2 ++ [7]).length + (es.flatMap enF).length := by
      rw [hfl]
      simp only [List.length_append, hl1]
      omega
    rw [e] at this
    exact this

set_option maxRecDepth 100000 in
set_option maxHeartbeats 4000000 in
theorem l_mrdone {x0 x1 x2 x3 x4 x5 x6 x7 x8 x9 x10 x11 x12 x13 x14 x15 x16 x17 x18 x19 x20 x21 x22 x23 x25 x26 x27 : va_E} {g : rr_H} {tm ru at0 sz kd0 fr0 to0 fa pa my sv sp rn : Int32} {nu : Int64} {c : Nat → Int32} {N n : Nat} {pcv : Int32} {fs fo go : Nat → Int32} (hn : n ≤ 8) : ∀ (L : List (Nat × Int32)) (k : Nat) (fm : Nat → Int32), k + L.length = n → (∀ (j : Nat) (q : Nat × Int32), L[j]? = some q → go (k + j) = nI q.1 ∧ fo (k + j) = q.2 ∧ q.1 < 32) → rr_A R_Mo c_Mo_perform 7 (some .int) (false, none) { frames := 2, cells := 0, slots := 0, locals := 2 * 64 } (fun r h1 => r = some (.int rn) ∧ h1 = x0 :: x1 :: x2 :: x3 :: x4 :: x5 :: x6 :: x7 :: x8 :: x9 :: x10 :: x11 :: x12 :: x13 :: x14 :: x15 :: x16 :: x17 :: x18 :: x19 :: x20 :: x21 :: x22 :: x23 :: .inr (6, [.ref 25, .int tm, (.ref 32), .ref 26, .int ru, .int at0, .int sz, .int kd0, .int fr0, .int to0, .int fa, .int pa, .long nu, .ref 27, .int my, .ref 28, .ref 29, .ref 30, .ref 31, .int pcv]) :: x25 :: x26 :: x27 :: .inl (0, 32, .inl (ch_c L fm)) :: .inl (0, 160, .inl (fs)) :: .inl (0, 8, .inl (fo)) :: .inl (0, 8, .inl (go)) :: .inl (0, N, .inl c) :: g) 0 0 109 [(6, .int (nI k)), (5, .int (nI n)), (4, .int rn), (3, .ref 32), (0, .ref 24), (1, .int sv), (2, .int sp)] [] (x0 :: x1 :: x2 :: x3 :: x4 :: x5 :: x6 :: x7 :: x8 :: x9 :: x10 :: x11 :: x12 :: x13 :: x14 :: x15 :: x16 :: x17 :: x18 :: x19 :: x20 :: x21 :: x22 :: x23 :: .inr (6, [.ref 25, .int tm, (.ref 32), .ref 26, .int ru, .int at0, .int sz, .int kd0, .int fr0, .int to0, .int fa, .int pa, .long nu, .ref 27, .int my, .ref 28, .ref 29, .ref 30, .ref 31, .int pcv]) :: x25 :: x26 :: x27 :: .inl (0, 32, .inl (fm)) :: .inl (0, 160, .inl (fs)) :: .inl (0, 8, .inl (fo)) :: .inl (0, 8, .inl (go)) :: .inl (0, N, .inl c) :: g) := by
  intro L
  induction L with
  | nil =>
    intro k fm hk hL
    obtain rfl : k = n := hk
    refine rr_iload d_Mo_perform_109 rfl ?_
    refine rr_iload d_Mo_perform_111 rfl ?_
    refine rr_icmp_ge 141 d_Mo_perform_113 (by decide) (fun _ => ?_) (fun c9 => absurd (nI_le (Nat.le_refl _) (by omega)) c9)
    refine rr_iload d_Mo_perform_141 rfl ?_
    exact rr_ireturn d_Mo_perform_143 rfl rfl (Nat.le_of_ble_eq_true rfl) (Nat.le_of_ble_eq_true rfl) (⟨rfl, rfl⟩)
  | cons q L ih =>
    intro k fm hk hL
    have hk2 : k + (L.length + 1) = n := hk
    obtain ⟨h1, h2, h3⟩ := hL 0 q rfl
    rw [Nat.add_zero] at h1 h2
    have hkv : vp_in (nI k) 8 := vp_in_nI (by omega) (by decide)
    refine rr_iload d_Mo_perform_109 rfl ?_
    refine rr_iload d_Mo_perform_111 rfl ?_
    refine rr_icmp_ge 141 d_Mo_perform_113 (by decide) (fun c9 => absurd c9 (nI_ge (by omega) (by omega))) (fun _ => ?_)
    refine rr_aload_n d_Mo_perform_116 rfl rfl ?_
    refine rr_getf d_Mo_perform_117 fl_Mo_20 rfl rfl ?_
    refine rr_aload_n d_Mo_perform_120 rfl rfl ?_
    refine rr_getf d_Mo_perform_121 fl_Mo_29 rfl rfl ?_
    refine rr_iload d_Mo_perform_124 rfl ?_
    refine rr_iald d_Mo_perform_126 rfl (hkv) ?_
    refine rr_aload_n d_Mo_perform_127 rfl rfl ?_
    refine rr_getf d_Mo_perform_128 fl_Mo_26 rfl rfl ?_
    refine rr_iload d_Mo_perform_131 rfl ?_
    refine rr_iald d_Mo_perform_133 rfl (hkv) ?_
    refine rr_iast d_Mo_perform_134 rfl (show vp_in (go (nI k).toNatClampNeg) 32 by rw [nI_clamp (by omega), h1]; exact vp_in_nI h3 (by decide)) ?_
    refine rr_iinc 1 d_Mo_perform_135 rfl rfl (by decide) ?_
    refine rr_goto 109 d_Mo_perform_138 (by decide) ?_
    rw [nI_clamp (n := k) (by omega), h1, h2, nI_1, nI_clamp (n := q.1) (by omega)]
    exact rr_lvs _ rfl (ih (k + 1) _ (by omega) (fun j r hr => by
      have := hL (j + 1) r (by rw [List.getElem?_cons_succ]; exact hr)
      rwa [show k + (j + 1) = k + 1 + j by omega] at this))

set_option maxRecDepth 100000 in
set_option maxHeartbeats 4000000 in
theorem l_mperf {x0 x1 x2 x3 x4 x5 x6 x7 x8 x9 x10 x11 x12 x13 x14 x15 x16 x17 x18 x19 x20 x21 x22 x23 x25 x26 x27 : va_E} {g : rr_H} {tm ru at0 sz kd0 fr0 to0 fa pa my sv sp : Int32} {nu : Int64} {c fm : Nat → Int32} {us : List sp_U} (hmd : md_is us c) (hgu : ∀ u ∈ us, gu u) (h6 : us.length ≤ 6) (hN : mdp us ≤ 1600) : ∀ (rs dn : List sp_U) (pcv : Int32) (fs fo go : Nat → Int32), us = dn ++ rs → rr_A R_Mo c_Mo_perform 7 (some .int) (false, none) { frames := 2, cells := 0, slots := 0, locals := 2 * 64 } (fun rv h1 => ∃ (pc2 : Int32) (fs2 fo2 go2 : Nat → Int32), (sp_pick fm sv sp rs dn.length = none ∧ rv = some (.int 0) ∧ h1 = x0 :: x1 :: x2 :: x3 :: x4 :: x5 :: x6 :: x7 :: x8 :: x9 :: x10 :: x11 :: x12 :: x13 :: x14 :: x15 :: x16 :: x17 :: x18 :: x19 :: x20 :: x21 :: x22 :: x23 :: .inr (6, [.ref 25, .int tm, (.ref 32), .ref 26, .int ru, .int at0, .int sz, .int kd0, .int fr0, .int to0, .int fa, .int pa, .long nu, .ref 27, .int my, .ref 28, .ref 29, .ref 30, .ref 31, .int pc2]) :: x25 :: x26 :: x27 :: .inl (0, 32, .inl (fm)) :: .inl (0, 160, .inl (fs2)) :: .inl (0, 8, .inl (fo2)) :: .inl (0, 8, .inl (go2)) :: .inl (0, mdp us, .inl c) :: g) ∨ ∃ (k2 : Nat) (L2 : List (Nat × Int32)), sp_pick fm sv sp rs dn.length = some (k2, L2) ∧ rv = some (.int (nI k2)) ∧ h1 = x0 :: x1 :: x2 :: x3 :: x4 :: x5 :: x6 :: x7 :: x8 :: x9 :: x10 :: x11 :: x12 :: x13 :: x14 :: x15 :: x16 :: x17 :: x18 :: x19 :: x20 :: x21 :: x22 :: x23 :: .inr (6, [.ref 25, .int tm, (.ref 32), .ref 26, .int ru, .int at0, .int sz, .int kd0, .int fr0, .int to0, .int fa, .int pa, .long nu, .ref 27, .int my, .ref 28, .ref 29, .ref 30, .ref 31, .int pc2]) :: x25 :: x26 :: x27 :: .inl (0, 32, .inl (ch_c L2 fm)) :: .inl (0, 160, .inl (fs2)) :: .inl (0, 8, .inl (fo2)) :: .inl (0, 8, .inl (go2)) :: .inl (0, mdp us, .inl c) :: g) 0 0 8 [(4, .int (nI (dn.length + 1))), (3, .ref 32), (0, .ref 24), (1, .int sv), (2, .int sp)] [] (x0 :: x1 :: x2 :: x3 :: x4 :: x5 :: x6 :: x7 :: x8 :: x9 :: x10 :: x11 :: x12 :: x13 :: x14 :: x15 :: x16 :: x17 :: x18 :: x19 :: x20 :: x21 :: x22 :: x23 :: .inr (6, [.ref 25, .int tm, (.ref 32), .ref 26, .int ru, .int at0, .int sz, .int kd0, .int fr0, .int to0, .int fa, .int pa, .long nu, .ref 27, .int my, .ref 28, .ref 29, .ref 30, .ref 31, .int pcv]) :: x25 :: x26 :: x27 :: .inl (0, 32, .inl (fm)) :: .inl (0, 160, .inl (fs)) :: .inl (0, 8, .inl (fo)) :: .inl (0, 8, .inl (go)) :: .inl (0, mdp us, .inl c) :: g) := by
  obtain ⟨m1, m2, m3⟩ := hmd
  have h7 := mdp_ge us
  intro rs
  induction rs with
  | nil =>
    intro dn pcv fs fo go hus
    rw [List.append_nil] at hus
    subst hus
    refine rr_iload d_Mo_perform_8 rfl ?_
    refine rr_aload_n d_Mo_perform_10 rfl rfl ?_
    refine rr_iconst 0 d_Mo_perform_11 rfl ?_
    refine rr_iald d_Mo_perform_12 rfl (vp_in_nI (n := 0) (by omega) (by omega)) ?_
    rw [sb_cl0, m1]
    refine rr_icmp_gt 150 d_Mo_perform_13 (by decide) (fun _ => ?_) (fun c9 => absurd (nI_lt (Nat.lt_succ_self _) (by omega)) c9)
    refine rr_iconst 0 d_Mo_perform_150 rfl ?_
    exact rr_ireturn d_Mo_perform_151 rfl rfl (Nat.le_of_ble_eq_true rfl) (Nat.le_of_ble_eq_true rfl) (⟨_, _, _, _, Or.inl ⟨rfl, rfl, rfl⟩⟩)
  | cons u rs ih =>
    intro dn pcv fs fo go hus
    have hul : us.length = dn.length + (rs.length + 1) := by rw [hus, List.length_append]; rfl
    have hfl : us.flatMap enU = dn.flatMap enU ++ (([if u.1.length = 0 then -1 else nI u.1.length] ++ u.1.flatMap enC) ++ (([nI u.2.length] ++ u.2.flatMap enF) ++ rs.flatMap enU)) := by
      rw [hus, List.flatMap_append, List.flatMap_cons]
      unfold enU
      simp only [List.append_assoc]
    have hre1 : c (dn.length + 1) = nI (mdp dn) := by
      rw [m2 dn.length (by omega), hus, List.take_append, List.take_of_length_le (Nat.le_refl _), Nat.sub_self, List.take_zero, List.append_nil]
    have hm3 := m3
    rw [hfl] at hm3
    obtain ⟨-, a2⟩ := hd_app.mp hm3
    obtain ⟨a3, a4⟩ := hd_app.mp a2
    obtain ⟨a5, -⟩ := hd_app.mp a4
    obtain ⟨a6, a7⟩ := hd_app.mp a5
    have e7 : 7 + (dn.flatMap enU).length = mdp dn := rfl
    rw [e7] at a3 a6 a7
    have hN2 : mdp us = mdp dn + (1 + (u.1.flatMap enC).length + (1 + (u.2.flatMap enF).length + (rs.flatMap enU).length)) := by
      unfold mdp
      rw [hfl]
      simp only [List.length_append, List.length_cons, List.length_nil]
      omega
    have c6 := hd_1.mp a6
    have hl3 : ([if u.1.length = 0 then (-1 : Int32) else nI u.1.length] ++ u.1.flatMap enC).length = 1 + (u.1.flatMap enC).length := by
      rw [List.length_append]
      rfl
    have hl4 : ([nI u.2.length] : List Int32).length = 1 := rfl
    rw [hl3] at c6 a7
    rw [hl4] at a7
    have hguu := hgu u (by rw [hus]; simp)
    refine rr_iload d_Mo_perform_8 rfl ?_
    refine rr_aload_n d_Mo_perform_10 rfl rfl ?_
    refine rr_iconst 0 d_Mo_perform_11 rfl ?_
    refine rr_iald d_Mo_perform_12 rfl (vp_in_nI (n := 0) (by omega) (by omega)) ?_
    rw [sb_cl0, m1]
    refine rr_icmp_gt 150 d_Mo_perform_13 (by decide) (fun c9 => absurd c9 (nI_nlt (by omega) (by omega))) (fun _ => ?_)
    refine rr_aload_n d_Mo_perform_16 rfl rfl ?_
    refine rr_aload_n d_Mo_perform_17 rfl rfl ?_
    refine rr_iload d_Mo_perform_18 rfl ?_
    refine rr_iald d_Mo_perform_20 rfl (vp_in_nI (n := dn.length + 1) (by omega) (by omega)) ?_
    refine rr_putf d_Mo_perform_21 fl_Mo_187 rfl rfl rfl rfl ?_
    refine rr_aload_n d_Mo_perform_24 rfl rfl ?_
    refine rr_iload_n d_Mo_perform_25 rfl rfl ?_
    refine rr_iload_n d_Mo_perform_26 rfl rfl ?_
    rw [nI_clamp (by omega), hre1]
    refine rr_callV d_Mo_perform_27 il_Mo_194 m_Mo_holds (u_holds (i := mdp dn) hN u.1 a3 (by omega) hguu.1) rfl rfl rfl rfl (Nat.le_of_ble_eq_true rfl) (Nat.le_of_ble_eq_true rfl) (Nat.le_of_ble_eq_true rfl) (Nat.le_of_ble_eq_true rfl) (Nat.le_of_ble_eq_true rfl) (fun rv9 hp9 hq => ?_)
    obtain ⟨fs2, pc2, rfl, rfl, hpc⟩ := hq
    unfold sp_pick
    by_cases hc : sp_ts fm sv sp u.1 = true
    · simp only [if_pos hc]
      obtain rfl := hpc hc
      rw [hc]
      refine rr_if_ne 36 d_Mo_perform_30 (by decide) (fun _ => ?_) (fun c9 => absurd c9 (by decide))
      rw [show mdp dn + 1 + (u.1.flatMap enC).length = mdp dn + (1 + (u.1.flatMap enC).length) by omega]
      refine rr_aload_n d_Mo_perform_36 rfl rfl ?_
      refine rr_aload_n d_Mo_perform_37 rfl rfl ?_
      refine rr_getf d_Mo_perform_38 fl_Mo_187 rfl rfl ?_
      refine rr_iald d_Mo_perform_41 rfl (vp_in_nI (n := mdp dn + (1 + (u.1.flatMap enC).length)) (by omega) (by omega)) ?_
      refine rr_istore d_Mo_perform_42 (by decide) ?_
      refine rr_aload_n d_Mo_perform_44 rfl rfl ?_
      refine rr_dup d_Mo_perform_45 rfl ?_
      refine rr_getf d_Mo_perform_46 fl_Mo_187 rfl rfl ?_
      refine rr_iconst 1 d_Mo_perform_49 rfl ?_
      refine rr_iadd d_Mo_perform_50 ?_
      refine rr_putf d_Mo_perform_51 fl_Mo_187 rfl rfl rfl rfl ?_
      refine rr_iconst 0 d_Mo_perform_54 rfl ?_
      refine rr_istore d_Mo_perform_55 (by decide) ?_
      rw [nI_clamp (n := mdp dn + (1 + (u.1.flatMap enC).length)) (by omega), c6, nI_1]
      refine rr_lvs [(6, .int (nI 0)), (5, .int (nI u.2.length)), (4, .int (nI (dn.length + 1))), (3, .ref 32), (0, .ref 24), (1, .int sv), (2, .int sp)] rfl (l_mreffs hN hguu.2.2 u.2 0 _ fs2 fo go (Nat.zero_add _) a7 (by omega) hguu.2.1 (fun fs3 => ?_))
      refine rr_iload d_Mo_perform_57 rfl ?_
      refine rr_iload d_Mo_perform_59 rfl ?_
      refine rr_icmp_ge 106 d_Mo_perform_61 (by decide) (fun _ => ?_) (fun c9 => absurd (nI_le (Nat.le_refl _) (by have := hguu.2.2; omega)) c9)
      refine rr_iconst 0 d_Mo_perform_106 rfl ?_
      refine rr_istore d_Mo_perform_107 (by decide) ?_
      have hl8 : (sp_eL fm sv sp u.2).length = u.2.length := by unfold sp_eL; rw [List.length_map]
      refine rr_lvs [(6, .int (nI 0)), (5, .int (nI u.2.length)), (4, .int (nI (dn.length + 1))), (3, .ref 32), (0, .ref 24), (1, .int sv), (2, .int sp)] rfl (rr_weak ?_ (l_mrdone hguu.2.2 (sp_eL fm sv sp u.2) 0 fm (by omega) (fun j q hq => by rw [Nat.zero_add]; exact sp_eL_get hguu.2.1 j q hq)))
      rintro r h1 ⟨rfl, rfl⟩
      exact ⟨_, _, _, _, Or.inr ⟨_, _, rfl, rfl, rfl⟩⟩
    · simp only [if_neg hc]
      rw [(Bool.not_eq_true _).mp hc]
      refine rr_if_ne 36 d_Mo_perform_30 (by decide) (fun c9 => absurd (rfl) c9) (fun _ => ?_)
      refine rr_goto 144 d_Mo_perform_33 (by decide) ?_
      refine rr_iinc 1 d_Mo_perform_144 rfl rfl (by decide) ?_
      refine rr_goto 8 d_Mo_perform_147 (by decide) ?_
      rw [nI_1]
      have nx := ih (dn ++ [u]) pc2 fs2 fo go (by rw [hus]; simp)
      rw [show (dn ++ [u]).length = dn.length + 1 by simp] at nx
      exact rr_lvs _ rfl nx

set_option maxRecDepth 100000 in
set_option maxHeartbeats 4000000 in
theorem u_perform {x0 x1 x2 x3 x4 x5 x6 x7 x8 x9 x10 x11 x12 x13 x14 x15 x16 x17 x18 x19 x20 x21 x22 x23 x25 x26 x27 : va_E} {g : rr_H} {tm ru at0 sz kd0 fr0 to0 fa pa my sv sp : Int32} {nu : Int64} {c fm : Nat → Int32} {us : List sp_U} {pcv : Int32} {fs fo go : Nat → Int32} (hmd : md_is us c) (hgu : ∀ u ∈ us, gu u) (h6 : us.length ≤ 6) (hN : mdp us ≤ 1600) : rr_Spec 2 y_Mo_perform c_Mo_perform 7 (some .int) 0 0 [.ref 24, .int sv, .int sp] (x0 :: x1 :: x2 :: x3 :: x4 :: x5 :: x6 :: x7 :: x8 :: x9 :: x10 :: x11 :: x12 :: x13 :: x14 :: x15 :: x16 :: x17 :: x18 :: x19 :: x20 :: x21 :: x22 :: x23 :: .inr (6, [.ref 25, .int tm, (.ref 32), .ref 26, .int ru, .int at0, .int sz, .int kd0, .int fr0, .int to0, .int fa, .int pa, .long nu, .ref 27, .int my, .ref 28, .ref 29, .ref 30, .ref 31, .int pcv]) :: x25 :: x26 :: x27 :: .inl (0, 32, .inl (fm)) :: .inl (0, 160, .inl (fs)) :: .inl (0, 8, .inl (fo)) :: .inl (0, 8, .inl (go)) :: .inl (0, mdp us, .inl c) :: g) (fun rv h1 => ∃ (pc2 : Int32) (fs2 fo2 go2 : Nat → Int32), (sp_pick fm sv sp us 0 = none ∧ rv = some (.int 0) ∧ h1 = x0 :: x1 :: x2 :: x3 :: x4 :: x5 :: x6 :: x7 :: x8 :: x9 :: x10 :: x11 :: x12 :: x13 :: x14 :: x15 :: x16 :: x17 :: x18 :: x19 :: x20 :: x21 :: x22 :: x23 :: .inr (6, [.ref 25, .int tm, (.ref 32), .ref 26, .int ru, .int at0, .int sz, .int kd0, .int fr0, .int to0, .int fa, .int pa, .long nu, .ref 27, .int my, .ref 28, .ref 29, .ref 30, .ref 31, .int pc2]) :: x25 :: x26 :: x27 :: .inl (0, 32, .inl (fm)) :: .inl (0, 160, .inl (fs2)) :: .inl (0, 8, .inl (fo2)) :: .inl (0, 8, .inl (go2)) :: .inl (0, mdp us, .inl c) :: g) ∨ ∃ (k2 : Nat) (L2 : List (Nat × Int32)), sp_pick fm sv sp us 0 = some (k2, L2) ∧ rv = some (.int (nI k2)) ∧ h1 = x0 :: x1 :: x2 :: x3 :: x4 :: x5 :: x6 :: x7 :: x8 :: x9 :: x10 :: x11 :: x12 :: x13 :: x14 :: x15 :: x16 :: x17 :: x18 :: x19 :: x20 :: x21 :: x22 :: x23 :: .inr (6, [.ref 25, .int tm, (.ref 32), .ref 26, .int ru, .int at0, .int sz, .int kd0, .int fr0, .int to0, .int fa, .int pa, .long nu, .ref 27, .int my, .ref 28, .ref 29, .ref 30, .ref 31, .int pc2]) :: x25 :: x26 :: x27 :: .inl (0, 32, .inl (ch_c L2 fm)) :: .inl (0, 160, .inl (fs2)) :: .inl (0, 8, .inl (fo2)) :: .inl (0, 8, .inl (go2)) :: .inl (0, mdp us, .inl c) :: g) := by
  refine rr_met (own := R_Mo) (kd := (false, none)) (by decide +kernel) rfl (fun h => by cases h) rfl (Nat.le_of_ble_eq_true rfl) ?_
  refine rr_aload_n d_Mo_perform_0 rfl rfl ?_
  refine rr_getf d_Mo_perform_1 fl_Mo_135 rfl rfl ?_
  refine rr_astore_n d_Mo_perform_4 rfl (by decide) ?_
  refine rr_iconst 1 d_Mo_perform_5 rfl ?_
  refine rr_istore d_Mo_perform_6 (by decide) ?_
  exact rr_lvs _ rfl (l_mperf hmd hgu h6 hN us [] pcv fs fo go rfl)

set_option maxRecDepth 100000 in
set_option maxHeartbeats 4000000 in
theorem s_Mo_run_1 {x0 x1 x2 x3 x4 x5 x6 x7 x8 x9 x10 x11 x12 x13 x14 x15 x16 x17 x18 x19 x20 x21 x22 x23 x25 x27 : va_E} {g : rr_H} {tm at0 sz kd0 fr0 to0 fa pa my sv sp : Int32} {nu : Int64} {c fm : Nat → Int32} {us : List sp_U} {be : Nat → Int32} {r : Nat} {pcv : Int32} {fs fo go : Nat → Int32} (hmd : md_is us c) (hgu : ∀ u ∈ us, gu u) (h6 : us.length ≤ 6) (hN : mdp us ≤ 1600) (hr : r ≤ 200) : rr_Spec 3 y_Mo_run c_Mo_run 3 (some .int) 0 0 [.ref 24, .int sv, .int sp] (x0 :: x1 :: x2 :: x3 :: x4 :: x5 :: x6 :: x7 :: x8 :: x9 :: x10 :: x11 :: x12 :: x13 :: x14 :: x15 :: x16 :: x17 :: x18 :: x19 :: x20 :: x21 :: x22 :: x23 :: .inr (6, [.ref 25, .int tm, (.ref 32), .ref 26, .int (nI r), .int at0, .int sz, .int kd0, .int fr0, .int to0, .int fa, .int pa, .long nu, .ref 27, .int my, .ref 28, .ref 29, .ref 30, .ref 31, .int pcv]) :: x25 :: .inl (0, 6400, .inl (be)) :: x27 :: .inl (0, 32, .inl (fm)) :: .inl (0, 160, .inl (fs)) :: .inl (0, 8, .inl (fo)) :: .inl (0, 8, .inl (go)) :: .inl (0, mdp us, .inl c) :: g) (fun rv h1 => if r < 200 then (fun rv h1 => ∃ (pc2 : Int32) (fs2 fo2 go2 : Nat → Int32), (sp_pick fm sv sp us 0 = none ∧ rv = some (.int 0) ∧ h1 = x0 :: x1 :: x2 :: x3 :: x4 :: x5 :: x6 :: x7 :: x8 :: x9 :: x10 :: x11 :: x12 :: x13 :: x14 :: x15 :: x16 :: x17 :: x18 :: x19 :: x20 :: x21 :: x22 :: x23 :: .inr (6, [.ref 25, .int tm, (.ref 32), .ref 26, .int (nI (r + 1)), .int at0, .int sz, .int kd0, .int fr0, .int to0, .int fa, .int pa, .long nu, .ref 27, .int my, .ref 28, .ref 29, .ref 30, .ref 31, .int pc2]) :: x25 :: .inl (0, 6400, .inl (va_cpy fm be 0 (32 * r) 32)) :: x27 :: .inl (0, 32, .inl (fm)) :: .inl (0, 160, .inl (fs2)) :: .inl (0, 8, .inl (fo2)) :: .inl (0, 8, .inl (go2)) :: .inl (0, mdp us, .inl c) :: g) ∨ ∃ (k2 : Nat) (L2 : List (Nat × Int32)), sp_pick fm sv sp us 0 = some (k2, L2) ∧ rv = some (.int (nI k2)) ∧ h1 = x0 :: x1 :: x2 :: x3 :: x4 :: x5 :: x6 :: x7 :: x8 :: x9 :: x10 :: x11 :: x12 :: x13 :: x14 :: x15 :: x16 :: x17 :: x18 :: x19 :: x20 :: x21 :: x22 :: x23 :: .inr (6, [.ref 25, .int tm, (.ref 32), .ref 26, .int (nI (r + 1)), .int at0, .int sz, .int kd0, .int fr0, .int to0, .int fa, .int pa, .long nu, .ref 27, .int my, .ref 28, .ref 29, .ref 30, .ref 31, .int pc2]) :: x25 :: .inl (0, 6400, .inl (va_cpy fm be 0 (32 * r) 32)) :: x27 :: .inl (0, 32, .inl (ch_c L2 fm)) :: .inl (0, 160, .inl (fs2)) :: .inl (0, 8, .inl (fo2)) :: .inl (0, 8, .inl (go2)) :: .inl (0, mdp us, .inl c) :: g) rv h1 else rv = some (.int (-3)) ∧ h1 = x0 :: x1 :: x2 :: x3 :: x4 :: x5 :: x6 :: x7 :: x8 :: x9 :: x10 :: x11 :: x12 :: x13 :: x14 :: x15 :: x16 :: x17 :: x18 :: x19 :: x20 :: x21 :: x22 :: x23 :: .inr (6, [.ref 25, .int tm, (.ref 32), .ref 26, .int (nI r), .int at0, .int sz, .int kd0, .int fr0, .int to0, .int fa, .int pa, .long nu, .ref 27, .int my, .ref 28, .ref 29, .ref 30, .ref 31, .int pcv]) :: x25 :: .inl (0, 6400, .inl (be)) :: x27 :: .inl (0, 32, .inl (fm)) :: .inl (0, 160, .inl (fs)) :: .inl (0, 8, .inl (fo)) :: .inl (0, 8, .inl (go)) :: .inl (0, mdp us, .inl c) :: g) := by
  refine rr_met (own := R_Mo) (kd := (false, none)) (by decide +kernel) rfl (fun h => by cases h) rfl (Nat.le_of_ble_eq_true rfl) ?_
  refine rr_aload_n d_Mo_run_0 rfl rfl ?_
  refine rr_getf d_Mo_run_1 fl_Mo_135 rfl rfl ?_
  refine rr_nonnull 10 d_Mo_run_4 (by decide) ?_
  refine rr_aload_n d_Mo_run_10 rfl rfl ?_
  refine rr_getf d_Mo_run_11 fl_Mo_198 rfl rfl ?_
  refine rr_sipush 200 d_Mo_run_14 rfl ?_
  by_cases hr2 : r < 200
  · simp only [if_pos hr2]
    refine rr_icmp_ne 23 d_Mo_run_17 (by decide) (fun _ => ?_) (fun c9 => absurd c9 (fun z => absurd ((nI_eq (b := 200) (by omega) (by decide)).mp z) (by omega)))
    refine rr_aload_n d_Mo_run_23 rfl rfl ?_
    refine rr_getf d_Mo_run_24 fl_Mo_20 rfl rfl ?_
    refine rr_iconst 0 d_Mo_run_27 rfl ?_
    refine rr_aload_n d_Mo_run_28 rfl rfl ?_
    refine rr_getf d_Mo_run_29 fl_Mo_13 rfl rfl ?_
    refine rr_bipush 32 d_Mo_run_32 rfl ?_
    refine rr_aload_n d_Mo_run_34 rfl rfl ?_
    refine rr_getf d_Mo_run_35 fl_Mo_198 rfl rfl ?_
    refine rr_imul d_Mo_run_38 ?_
    refine rr_bipush 32 d_Mo_run_39 rfl ?_
    rw [show (32 : Int32) * nI r = nI (32 * r) from pk_mul 32 r]
    refine rr_copyI d_Mo_run_41 sy_Mo_201 rfl rfl (by decide) (nI_pos (by omega)) (by decide) (by decide) (by rw [nI_clamp (by omega)]; show 32 * r + 32 ≤ 6400; omega) (Nat.le_of_ble_eq_true rfl) (Nat.le_of_ble_eq_true rfl) ?_
    rw [nI_clamp (n := 32 * r) (by omega)]
    refine rr_aload_n d_Mo_run_44 rfl rfl ?_
    refine rr_dup d_Mo_run_45 rfl ?_
    refine rr_getf d_Mo_run_46 fl_Mo_198 rfl rfl ?_
    refine rr_iconst 1 d_Mo_run_49 rfl ?_
    refine rr_iadd d_Mo_run_50 ?_
    refine rr_putf d_Mo_run_51 fl_Mo_198 rfl rfl rfl rfl ?_
    refine rr_aload_n d_Mo_run_54 rfl rfl ?_
    refine rr_iload_n d_Mo_run_55 rfl rfl ?_
    refine rr_iload_n d_Mo_run_56 rfl rfl ?_
    rw [nI_1]
    refine rr_callV d_Mo_run_57 il_Mo_207 m_Mo_perform (u_perform hmd hgu h6 hN) rfl rfl rfl rfl (Nat.le_of_ble_eq_true rfl) (Nat.le_of_ble_eq_true rfl) (Nat.le_of_ble_eq_true rfl) (Nat.le_of_ble_eq_true rfl) (Nat.le_of_ble_eq_true rfl) (fun rv9 hp9 hq => ?_)
    obtain ⟨pc2, fs2, fo2, go2, ⟨e1, rfl, rfl⟩ | ⟨k2, L2, e1, rfl, rfl⟩⟩ := hq
    · skip
      exact rr_ireturn d_Mo_run_60 rfl rfl (Nat.le_of_ble_eq_true rfl) (Nat.le_of_ble_eq_true rfl) (⟨_, _, _, _, Or.inl ⟨e1, rfl, rfl⟩⟩)
    · skip
      exact rr_ireturn d_Mo_run_60 rfl rfl (Nat.le_of_ble_eq_true rfl) (Nat.le_of_ble_eq_true rfl) (⟨_, _, _, _, Or.inr ⟨_, _, e1, rfl, rfl⟩⟩)
  · simp only [if_neg hr2]
    obtain rfl : r = 200 := by omega
    refine rr_icmp_ne 23 d_Mo_run_17 (by decide) (fun c9 => absurd (rfl) c9) (fun _ => ?_)
    refine rr_bipush (-3) d_Mo_run_20 rfl ?_
    exact rr_ireturn d_Mo_run_22 rfl rfl (Nat.le_of_ble_eq_true rfl) (Nat.le_of_ble_eq_true rfl) (⟨rfl, rfl⟩)

set_option maxRecDepth 100000 in
set_option maxHeartbeats 4000000 in
theorem s_Mo_run_0 {x0 x1 x2 x3 x4 x5 x6 x7 x8 x9 x10 x11 x12 x13 x14 x15 x16 x17 x18 x19 x20 x21 x22 x23 : va_E} {g : rr_H} {tm ru at0 sz kd0 fr0 to0 fa pa my sv sp pcv : Int32} {nu : Int64} : rr_Spec 3 y_Mo_run c_Mo_run 3 (some .int) 0 0 [.ref 24, .int sv, .int sp] (x0 :: x1 :: x2 :: x3 :: x4 :: x5 :: x6 :: x7 :: x8 :: x9 :: x10 :: x11 :: x12 :: x13 :: x14 :: x15 :: x16 :: x17 :: x18 :: x19 :: x20 :: x21 :: x22 :: x23 :: .inr (6, [.ref 25, .int tm, .null, .ref 26, .int ru, .int at0, .int sz, .int kd0, .int fr0, .int to0, .int fa, .int pa, .long nu, .ref 27, .int my, .ref 28, .ref 29, .ref 30, .ref 31, .int pcv]) :: g) (fun rv h1 => rv = some (.int (-2)) ∧ h1 = x0 :: x1 :: x2 :: x3 :: x4 :: x5 :: x6 :: x7 :: x8 :: x9 :: x10 :: x11 :: x12 :: x13 :: x14 :: x15 :: x16 :: x17 :: x18 :: x19 :: x20 :: x21 :: x22 :: x23 :: .inr (6, [.ref 25, .int tm, .null, .ref 26, .int ru, .int at0, .int sz, .int kd0, .int fr0, .int to0, .int fa, .int pa, .long nu, .ref 27, .int my, .ref 28, .ref 29, .ref 30, .ref 31, .int pcv]) :: g) := by
  refine rr_met (own := R_Mo) (kd := (false, none)) (by decide +kernel) rfl (fun h => by cases h) rfl (Nat.le_of_ble_eq_true rfl) ?_
  refine rr_aload_n d_Mo_run_0 rfl rfl ?_
  refine rr_getf d_Mo_run_1 fl_Mo_135 rfl rfl ?_
  refine rr_nonnullN d_Mo_run_4 ?_
  refine rr_bipush (-2) d_Mo_run_7 rfl ?_
  exact rr_ireturn d_Mo_run_9 rfl rfl (Nat.le_of_ble_eq_true rfl) (Nat.le_of_ble_eq_true rfl) (⟨rfl, rfl⟩)

set_option maxRecDepth 100000 in
set_option maxHeartbeats 4000000 in
theorem s_Mo_undo {x0 x1 x2 x3 x4 x5 x6 x7 x8 x9 x10 x11 x12 x13 x14 x15 x16 x17 x18 x19 x20 x21 x22 x23 x25 x27 : va_E} {g : rr_H} {tm at0 sz kd0 fr0 to0 fa pa my pcv : Int32} {nu : Int64} {lt : Value} {be fm : Nat → Int32} {r : Nat} (hr : r ≤ 200) : rr_Spec 1 y_Mo_undo c_Mo_undo 1 (some .int) 0 0 [.ref 24] (x0 :: x1 :: x2 :: x3 :: x4 :: x5 :: x6 :: x7 :: x8 :: x9 :: x10 :: x11 :: x12 :: x13 :: x14 :: x15 :: x16 :: x17 :: x18 :: x19 :: x20 :: x21 :: x22 :: x23 :: .inr (6, [.ref 25, .int tm, lt, .ref 26, .int (nI r), .int at0, .int sz, .int kd0, .int fr0, .int to0, .int fa, .int pa, .long nu, .ref 27, .int my, .ref 28, .ref 29, .ref 30, .ref 31, .int pcv]) :: x25 :: .inl (0, 6400, .inl be) :: x27 :: .inl (0, 32, .inl (fm)) :: g) (fun rv h1 => if r = 0 then rv = some (.int (-2)) ∧ h1 = x0 :: x1 :: x2 :: x3 :: x4 :: x5 :: x6 :: x7 :: x8 :: x9 :: x10 :: x11 :: x12 :: x13 :: x14 :: x15 :: x16 :: x17 :: x18 :: x19 :: x20 :: x21 :: x22 :: x23 :: .inr (6, [.ref 25, .int tm, lt, .ref 26, .int (nI r), .int at0, .int sz, .int kd0, .int fr0, .int to0, .int fa, .int pa, .long nu, .ref 27, .int my, .ref 28, .ref 29, .ref 30, .ref 31, .int pcv]) :: x25 :: .inl (0, 6400, .inl be) :: x27 :: .inl (0, 32, .inl (fm)) :: g else rv = some (.int (nI (r - 1))) ∧ h1 = x0 :: x1 :: x2 :: x3 :: x4 :: x5 :: x6 :: x7 :: x8 :: x9 :: x10 :: x11 :: x12 :: x13 :: x14 :: x15 :: x16 :: x17 :: x18 :: x19 :: x20 :: x21 :: x22 :: x23 :: .inr (6, [.ref 25, .int tm, lt, .ref 26, .int (nI (r - 1)), .int at0, .int sz, .int kd0, .int fr0, .int to0, .int fa, .int pa, .long nu, .ref 27, .int my, .ref 28, .ref 29, .ref 30, .ref 31, .int pcv]) :: x25 :: .inl (0, 6400, .inl be) :: x27 :: .inl (0, 32, .inl (va_cpy be fm (32 * (r - 1)) 0 32)) :: g) := by
  refine rr_met (own := R_Mo) (kd := (false, none)) (by decide +kernel) rfl (fun h => by cases h) rfl (Nat.le_of_ble_eq_true rfl) ?_
  refine rr_aload_n d_Mo_undo_0 rfl rfl ?_
  refine rr_getf d_Mo_undo_1 fl_Mo_198 rfl rfl ?_
  by_cases h0 : r = 0
  · simp only [if_pos h0]
    subst h0
    refine rr_if_ne 10 d_Mo_undo_4 (by decide) (fun c9 => absurd (rfl) c9) (fun _ => ?_)
    refine rr_bipush (-2) d_Mo_undo_7 rfl ?_
    exact rr_ireturn d_Mo_undo_9 rfl rfl (Nat.le_of_ble_eq_true rfl) (Nat.le_of_ble_eq_true rfl) (⟨rfl, rfl⟩)
  · simp only [if_neg h0]
    obtain ⟨k, rfl⟩ : ∃ k, r = k + 1 := ⟨r - 1, by omega⟩
    rw [Nat.add_sub_cancel]
    refine rr_if_ne 10 d_Mo_undo_4 (by decide) (fun _ => ?_) (fun c9 => absurd c9 (nI_ne0 (by omega) (by omega)))
    refine rr_aload_n d_Mo_undo_10 rfl rfl ?_
    refine rr_dup d_Mo_undo_11 rfl ?_
    refine rr_getf d_Mo_undo_12 fl_Mo_198 rfl rfl ?_
    refine rr_iconst 1 d_Mo_undo_15 rfl ?_
    refine rr_isub d_Mo_undo_16 ?_
    refine rr_putf d_Mo_undo_17 fl_Mo_198 rfl rfl rfl rfl ?_
    rw [nI_pred]
    refine rr_aload_n d_Mo_undo_20 rfl rfl ?_
    refine rr_getf d_Mo_undo_21 fl_Mo_13 rfl rfl ?_
    refine rr_bipush 32 d_Mo_undo_24 rfl ?_
    refine rr_aload_n d_Mo_undo_26 rfl rfl ?_
    refine rr_getf d_Mo_undo_27 fl_Mo_198 rfl rfl ?_
    refine rr_imul d_Mo_undo_30 ?_
    refine rr_aload_n d_Mo_undo_31 rfl rfl ?_
    refine rr_getf d_Mo_undo_32 fl_Mo_20 rfl rfl ?_
    refine rr_iconst 0 d_Mo_undo_35 rfl ?_
    refine rr_bipush 32 d_Mo_undo_36 rfl ?_
    rw [show (32 : Int32) * nI k = nI (32 * k) from pk_mul 32 k]
    refine rr_copyI d_Mo_undo_38 sy_Mo_201 rfl rfl (nI_pos (by omega)) (by decide) (by decide) (by rw [nI_clamp (by omega)]; show 32 * k + 32 ≤ 6400; omega) (by decide) (Nat.le_of_ble_eq_true rfl) (Nat.le_of_ble_eq_true rfl) ?_
    rw [nI_clamp (n := 32 * k) (by omega)]
    refine rr_aload_n d_Mo_undo_41 rfl rfl ?_
    refine rr_getf d_Mo_undo_42 fl_Mo_198 rfl rfl ?_
    exact rr_ireturn d_Mo_undo_45 rfl rfl (Nat.le_of_ble_eq_true rfl) (Nat.le_of_ble_eq_true rfl) (⟨rfl, rfl⟩)
