/-! The reference: doing. -/

set_option maxRecDepth 100000 in
set_option maxHeartbeats 4000000 in
theorem l_value {x0 x1 x2 x3 x4 x5 x6 x7 x8 x9 x10 x11 x12 x13 x14 x15 x16 x17 x18 x19 x20 x21 x22 x23 x25 x26 x27 : va_E} {g : rr_H} {tm ru at0 sz kd0 fr0 to0 fa pa my sv sp : Int32} {nu : Int64} {c fm fo go : Nat → Int32} {N : Nat} {Q : Option Value → rr_H → Prop} (hN : N ≤ 1600) {h2 : Nat} : ∀ (x : sp_I) (i h : Nat) (fs : Nat → Int32), hd_ c i (en x) → i + (en x).length < N → sp_ht x h = some h2 → h + sp_np x ≤ 80 → sp_ce x → (∀ fs2 : Nat → Int32, st_of fs2 h2 = sp_ev fm sv sp x (st_of fs h) → rr_A R_Mo c_Mo_value 6 (some .int) (false, none) { frames := 0, cells := 0, slots := 0, locals := 0 * 64 } (Q) 0 0 8 [(4, .int (nI h2)), (3, .ref 32), (0, .ref 24), (1, .int sv), (2, .int sp)] [] (x0 :: x1 :: x2 :: x3 :: x4 :: x5 :: x6 :: x7 :: x8 :: x9 :: x10 :: x11 :: x12 :: x13 :: x14 :: x15 :: x16 :: x17 :: x18 :: x19 :: x20 :: x21 :: x22 :: x23 :: .inr (6, [.ref 25, .int tm, (.ref 32), .ref 26, .int ru, .int at0, .int sz, .int kd0, .int fr0, .int to0, .int fa, .int pa, .long nu, .ref 27, .int my, .ref 28, .ref 29, .ref 30, .ref 31, .int (nI (i + (en x).length))]) :: x25 :: x26 :: x27 :: .inl (0, 32, .inl (fm)) :: .inl (0, 160, .inl (fs2)) :: .inl (0, 8, .inl (fo)) :: .inl (0, 8, .inl (go)) :: .inl (0, N, .inl c) :: g)) → rr_A R_Mo c_Mo_value 6 (some .int) (false, none) { frames := 0, cells := 0, slots := 0, locals := 0 * 64 } (Q) 0 0 8 [(4, .int (nI h)), (3, .ref 32), (0, .ref 24), (1, .int sv), (2, .int sp)] [] (x0 :: x1 :: x2 :: x3 :: x4 :: x5 :: x6 :: x7 :: x8 :: x9 :: x10 :: x11 :: x12 :: x13 :: x14 :: x15 :: x16 :: x17 :: x18 :: x19 :: x20 :: x21 :: x22 :: x23 :: .inr (6, [.ref 25, .int tm, (.ref 32), .ref 26, .int ru, .int at0, .int sz, .int kd0, .int fr0, .int to0, .int fa, .int pa, .long nu, .ref 27, .int my, .ref 28, .ref 29, .ref 30, .ref 31, .int (nI i)]) :: x25 :: x26 :: x27 :: .inl (0, 32, .inl (fm)) :: .inl (0, 160, .inl (fs)) :: .inl (0, 8, .inl (fo)) :: .inl (0, 8, .inl (go)) :: .inl (0, N, .inl c) :: g) := by
  intro x
  induction x with
  | nil =>
    intro i h fs ha hi hh hb hce k
    cases hh
    exact k fs rfl
  | cons q x ih =>
    intro i h fs ha hi hh hb hce k
    have hen : en (q :: x) = en1 q ++ en x := rfl
    rw [hen] at ha hi
    obtain ⟨a1, a2⟩ := hd_app.mp ha
    rw [List.length_append] at hi
    have hce2 : sp_ce x := fun r hr => hce r (List.mem_cons_of_mem _ hr)
    have hnp : sp_np (q :: x) = (if sp_psh q.1 = true then 1 else 0) + sp_np x := rfl
    unfold sp_ht at hh
    by_cases hp : sp_psh q.1 = true
    · rw [if_pos hp] at hh
      rw [hnp, if_pos hp] at hb
      have nx : ∀ v : Int32, sp_it fm sv sp q (st_of fs h) = v :: st_of fs h → rr_A R_Mo c_Mo_value 6 (some .int) (false, none) { frames := 0, cells := 0, slots := 0, locals := 0 * 64 } (Q) 0 0 8 [(4, .int (nI (h + 1))), (3, .ref 32), (0, .ref 24), (1, .int sv), (2, .int sp)] [] (x0 :: x1 :: x2 :: x3 :: x4 :: x5 :: x6 :: x7 :: x8 :: x9 :: x10 :: x11 :: x12 :: x13 :: x14 :: x15 :: x16 :: x17 :: x18 :: x19 :: x20 :: x21 :: x22 :: x23 :: .inr (6, [.ref 25, .int tm, (.ref 32), .ref 26, .int ru, .int at0, .int sz, .int kd0, .int fr0, .int to0, .int fa, .int pa, .long nu, .ref 27, .int my, .ref 28, .ref 29, .ref 30, .ref 31, .int (nI (i + (en1 q).length))]) :: x25 :: x26 :: x27 :: .inl (0, 32, .inl (fm)) :: .inl (0, 160, .inl (upd fs h v)) :: .inl (0, 8, .inl (fo)) :: .inl (0, 8, .inl (go)) :: .inl (0, N, .inl c) :: g) := by
        intro v hv
        refine rr_lvs _ rfl (ih (i + (en1 q).length) (h + 1) (upd fs h v) a2 (by omega) hh (by omega) hce2 (fun fs2 h3 => ?_))
        have := k fs2 (by rw [h3, st_of_push, ← hv]; rfl)
        rwa [hen, List.length_append, ← Nat.add_assoc] at this
      have hq : q.1 = 9 ∨ q.1 = 8 ∨ q.1 = 6 ∨ q.1 = 7 := by simpa [sp_psh, or_assoc] using hp
      rcases hq with hq | hq | hq | hq
      · have e1 : en1 q = [0, q.2] := by unfold en1; simp [hq]
        rw [e1] at a1 hi nx
        have c0 : c i = 0 := a1 0 0 rfl
        have hi1 : i < N := by simp at hi; omega
        have hv0 : vp_in (nI i) N := vp_in_nI hi1 (by omega)
        have hsv : vp_in (nI h) 160 := vp_in_nI (by omega) (by decide)
        have c1 : c (i + 1) = q.2 := a1 1 q.2 rfl
        have hv1 : vp_in (nI (i + 1)) N := vp_in_nI (by simp at hi; omega) (by omega)
        refine rr_aload_n d_Mo_value_8 rfl rfl ?_
        refine rr_aload_n d_Mo_value_9 rfl rfl ?_
        refine rr_getf d_Mo_value_10 fl_Mo_187 rfl rfl ?_
        refine rr_iald d_Mo_value_13 rfl (hv0) ?_
        refine rr_bipush 7 d_Mo_value_14 rfl ?_
        rw [nI_clamp (n := i) (by omega), c0]
        refine rr_icmp_eq 201 d_Mo_value_16 (by decide) (fun c9 => absurd c9 (by decide)) (fun _ => ?_)
        refine rr_aload_n d_Mo_value_19 rfl rfl ?_
        refine rr_aload_n d_Mo_value_20 rfl rfl ?_
        refine rr_getf d_Mo_value_21 fl_Mo_187 rfl rfl ?_
        refine rr_iald d_Mo_value_24 rfl (hv0) ?_
        refine rr_istore d_Mo_value_25 (by decide) ?_
        refine rr_aload_n d_Mo_value_27 rfl rfl ?_
        refine rr_dup d_Mo_value_28 rfl ?_
        refine rr_getf d_Mo_value_29 fl_Mo_187 rfl rfl ?_
        refine rr_iconst 1 d_Mo_value_32 rfl ?_
        refine rr_iadd d_Mo_value_33 ?_
        refine rr_putf d_Mo_value_34 fl_Mo_187 rfl rfl rfl rfl ?_
        refine rr_iload d_Mo_value_37 rfl ?_
        refine rr_iconst 3 d_Mo_value_39 rfl ?_
        rw [nI_clamp (n := i) (by omega), c0, nI_1]
        refine rr_icmp_gt 117 d_Mo_value_40 (by decide) (fun c9 => absurd c9 (by decide)) (fun _ => ?_)
        refine rr_aload_n d_Mo_value_43 rfl rfl ?_
        refine rr_getf d_Mo_value_44 fl_Mo_23 rfl rfl ?_
        refine rr_iload d_Mo_value_47 rfl ?_
        refine rr_iload d_Mo_value_49 rfl ?_
        refine rr_if_ne 63 d_Mo_value_51 (by decide) (fun c9 => absurd (rfl) c9) (fun _ => ?_)
        refine rr_aload_n d_Mo_value_54 rfl rfl ?_
        refine rr_aload_n d_Mo_value_55 rfl rfl ?_
        refine rr_getf d_Mo_value_56 fl_Mo_187 rfl rfl ?_
        refine rr_iald d_Mo_value_59 rfl (hv1) ?_
        refine rr_goto 94 d_Mo_value_60 (by decide) ?_
        rw [nI_clamp (n := i + 1) (by omega), c1]
        refine rr_iast d_Mo_value_94 rfl (hsv) ?_
        refine rr_iload d_Mo_value_95 rfl ?_
        refine rr_iconst 1 d_Mo_value_97 rfl ?_
        rw [nI_clamp (n := h) (by omega)]
        refine rr_icmp_gt 111 d_Mo_value_98 (by decide) (fun c9 => absurd c9 (by decide)) (fun _ => ?_)
        refine rr_aload_n d_Mo_value_101 rfl rfl ?_
        refine rr_dup d_Mo_value_102 rfl ?_
        refine rr_getf d_Mo_value_103 fl_Mo_187 rfl rfl ?_
        refine rr_iconst 1 d_Mo_value_106 rfl ?_
        refine rr_iadd d_Mo_value_107 ?_
        refine rr_putf d_Mo_value_108 fl_Mo_187 rfl rfl rfl rfl ?_
        refine rr_iinc 1 d_Mo_value_111 rfl rfl (by decide) ?_
        refine rr_goto 198 d_Mo_value_114 (by decide) ?_
        refine rr_goto 8 d_Mo_value_198 (by decide) ?_
        rw [nI_1, nI_1]
        exact rr_lvs _ rfl (nx q.2 (by unfold sp_it; simp [hq]))
      · have e1 : en1 q = [1, q.2] := by unfold en1; simp [hq]
        rw [e1] at a1 hi nx
        have c0 : c i = 1 := a1 0 1 rfl
        have hi1 : i < N := by simp at hi; omega
        have hv0 : vp_in (nI i) N := vp_in_nI hi1 (by omega)
        have hsv : vp_in (nI h) 160 := vp_in_nI (by omega) (by decide)
        have c1 : c (i + 1) = q.2 := a1 1 q.2 rfl
        have hv1 : vp_in (nI (i + 1)) N := vp_in_nI (by simp at hi; omega) (by omega)
        refine rr_aload_n d_Mo_value_8 rfl rfl ?_
        refine rr_aload_n d_Mo_value_9 rfl rfl ?_
        refine rr_getf d_Mo_value_10 fl_Mo_187 rfl rfl ?_
        refine rr_iald d_Mo_value_13 rfl (hv0) ?_
        refine rr_bipush 7 d_Mo_value_14 rfl ?_
        rw [nI_clamp (n := i) (by omega), c0]
        refine rr_icmp_eq 201 d_Mo_value_16 (by decide) (fun c9 => absurd c9 (by decide)) (fun _ => ?_)
        refine rr_aload_n d_Mo_value_19 rfl rfl ?_
        refine rr_aload_n d_Mo_value_20 rfl rfl ?_
        refine rr_getf d_Mo_value_21 fl_Mo_187 rfl rfl ?_
        refine rr_iald d_Mo_value_24 rfl (hv0) ?_
        refine rr_istore d_Mo_value_25 (by decide) ?_
        refine rr_aload_n d_Mo_value_27 rfl rfl ?_
        refine rr_dup d_Mo_value_28 rfl ?_
        refine rr_getf d_Mo_value_29 fl_Mo_187 rfl rfl ?_
        refine rr_iconst 1 d_Mo_value_32 rfl ?_
        refine rr_iadd d_Mo_value_33 ?_
        refine rr_putf d_Mo_value_34 fl_Mo_187 rfl rfl rfl rfl ?_
        refine rr_iload d_Mo_value_37 rfl ?_
        refine rr_iconst 3 d_Mo_value_39 rfl ?_
        rw [nI_clamp (n := i) (by omega), c0, nI_1]
        refine rr_icmp_gt 117 d_Mo_value_40 (by decide) (fun c9 => absurd c9 (by decide)) (fun _ => ?_)
        refine rr_aload_n d_Mo_value_43 rfl rfl ?_
        refine rr_getf d_Mo_value_44 fl_Mo_23 rfl rfl ?_
        refine rr_iload d_Mo_value_47 rfl ?_
        refine rr_iload d_Mo_value_49 rfl ?_
        refine rr_if_ne 63 d_Mo_value_51 (by decide) (fun _ => ?_) (fun c9 => absurd c9 (by decide))
        refine rr_iload d_Mo_value_63 rfl ?_
        refine rr_iconst 1 d_Mo_value_65 rfl ?_
        obtain ⟨cc, hcc, ecc⟩ := hce q List.mem_cons_self hq
        refine rr_icmp_ne 83 d_Mo_value_66 (by decide) (fun c9 => absurd (rfl) c9) (fun _ => ?_)
        refine rr_aload_n d_Mo_value_69 rfl rfl ?_
        refine rr_getf d_Mo_value_70 fl_Mo_20 rfl rfl ?_
        refine rr_aload_n d_Mo_value_73 rfl rfl ?_
        refine rr_aload_n d_Mo_value_74 rfl rfl ?_
        refine rr_getf d_Mo_value_75 fl_Mo_187 rfl rfl ?_
        refine rr_iald d_Mo_value_78 rfl (hv1) ?_
        refine rr_iald d_Mo_value_79 rfl (show vp_in (c (nI (i + 1)).toNatClampNeg) 32 by rw [nI_clamp (by omega), c1, ecc]; exact vp_in_nI hcc (by decide)) ?_
        refine rr_goto 94 d_Mo_value_80 (by decide) ?_
        rw [nI_clamp (n := i + 1) (by omega), c1]
        refine rr_iast d_Mo_value_94 rfl (hsv) ?_
        refine rr_iload d_Mo_value_95 rfl ?_
        refine rr_iconst 1 d_Mo_value_97 rfl ?_
        rw [nI_clamp (n := h) (by omega)]
        refine rr_icmp_gt 111 d_Mo_value_98 (by decide) (fun c9 => absurd c9 (by decide)) (fun _ => ?_)
        refine rr_aload_n d_Mo_value_101 rfl rfl ?_
        refine rr_dup d_Mo_value_102 rfl ?_
        refine rr_getf d_Mo_value_103 fl_Mo_187 rfl rfl ?_
        refine rr_iconst 1 d_Mo_value_106 rfl ?_
        refine rr_iadd d_Mo_value_107 ?_
        refine rr_putf d_Mo_value_108 fl_Mo_187 rfl rfl rfl rfl ?_
        refine rr_iinc 1 d_Mo_value_111 rfl rfl (by decide) ?_
        refine rr_goto 198 d_Mo_value_114 (by decide) ?_
        refine rr_goto 8 d_Mo_value_198 (by decide) ?_
        rw [nI_1, nI_1]
        exact rr_lvs _ rfl (nx (fm q.2.toNatClampNeg) (by unfold sp_it; simp [hq]))
      · have e1 : en1 q = [2] := by unfold en1; simp [hq]
        rw [e1] at a1 hi nx
        have c0 : c i = 2 := a1 0 2 rfl
        have hi1 : i < N := by simp at hi; omega
        have hv0 : vp_in (nI i) N := vp_in_nI hi1 (by omega)
        have hsv : vp_in (nI h) 160 := vp_in_nI (by omega) (by decide)
        refine rr_aload_n d_Mo_value_8 rfl rfl ?_
        refine rr_aload_n d_Mo_value_9 rfl rfl ?_
        refine rr_getf d_Mo_value_10 fl_Mo_187 rfl rfl ?_
        refine rr_iald d_Mo_value_13 rfl (hv0) ?_
        refine rr_bipush 7 d_Mo_value_14 rfl ?_
        rw [nI_clamp (n := i) (by omega), c0]
        refine rr_icmp_eq 201 d_Mo_value_16 (by decide) (fun c9 => absurd c9 (by decide)) (fun _ => ?_)
        refine rr_aload_n d_Mo_value_19 rfl rfl ?_
        refine rr_aload_n d_Mo_value_20 rfl rfl ?_
        refine rr_getf d_Mo_value_21 fl_Mo_187 rfl rfl ?_
        refine rr_iald d_Mo_value_24 rfl (hv0) ?_
        refine rr_istore d_Mo_value_25 (by decide) ?_
        refine rr_aload_n d_Mo_value_27 rfl rfl ?_
        refine rr_dup d_Mo_value_28 rfl ?_
        refine rr_getf d_Mo_value_29 fl_Mo_187 rfl rfl ?_
        refine rr_iconst 1 d_Mo_value_32 rfl ?_
        refine rr_iadd d_Mo_value_33 ?_
        refine rr_putf d_Mo_value_34 fl_Mo_187 rfl rfl rfl rfl ?_
        refine rr_iload d_Mo_value_37 rfl ?_
        refine rr_iconst 3 d_Mo_value_39 rfl ?_
        rw [nI_clamp (n := i) (by omega), c0, nI_1]
        refine rr_icmp_gt 117 d_Mo_value_40 (by decide) (fun c9 => absurd c9 (by decide)) (fun _ => ?_)
        refine rr_aload_n d_Mo_value_43 rfl rfl ?_
        refine rr_getf d_Mo_value_44 fl_Mo_23 rfl rfl ?_
        refine rr_iload d_Mo_value_47 rfl ?_
        refine rr_iload d_Mo_value_49 rfl ?_
        refine rr_if_ne 63 d_Mo_value_51 (by decide) (fun _ => ?_) (fun c9 => absurd c9 (by decide))
        refine rr_iload d_Mo_value_63 rfl ?_
        refine rr_iconst 1 d_Mo_value_65 rfl ?_
        refine rr_icmp_ne 83 d_Mo_value_66 (by decide) (fun _ => ?_) (fun c9 => absurd c9 (by decide))
        refine rr_iload d_Mo_value_83 rfl ?_
        refine rr_iconst 2 d_Mo_value_85 rfl ?_
        refine rr_icmp_ne 93 d_Mo_value_86 (by decide) (fun c9 => absurd (rfl) c9) (fun _ => ?_)
        refine rr_iload_n d_Mo_value_89 rfl rfl ?_
        refine rr_goto 94 d_Mo_value_90 (by decide) ?_
        refine rr_iast d_Mo_value_94 rfl (hsv) ?_
        refine rr_iload d_Mo_value_95 rfl ?_
        refine rr_iconst 1 d_Mo_value_97 rfl ?_
        rw [nI_clamp (n := h) (by omega)]
        refine rr_icmp_gt 111 d_Mo_value_98 (by decide) (fun _ => ?_) (fun c9 => absurd (by decide) c9)
        refine rr_iinc 1 d_Mo_value_111 rfl rfl (by decide) ?_
        refine rr_goto 198 d_Mo_value_114 (by decide) ?_
        refine rr_goto 8 d_Mo_value_198 (by decide) ?_
        rw [nI_1]
        exact rr_lvs _ rfl (nx sv (by unfold sp_it; simp [hq]))
      · have e1 : en1 q = [3] := by unfold en1; simp [hq]
        rw [e1] at a1 hi nx
        have c0 : c i = 3 := a1 0 3 rfl
        have hi1 : i < N := by simp at hi; omega
        have hv0 : vp_in (nI i) N := vp_in_nI hi1 (by omega)
        have hsv : vp_in (nI h) 160 := vp_in_nI (by omega) (by decide)
        refine rr_aload_n d_Mo_value_8 rfl rfl ?_
        refine rr_aload_n d_Mo_value_9 rfl rfl ?_
        refine rr_getf d_Mo_value_10 fl_Mo_187 rfl rfl ?_
        refine rr_iald d_Mo_value_13 rfl (hv0) ?_
        refine rr_bipush 7 d_Mo_value_14 rfl ?_
        rw [nI_clamp (n := i) (by omega), c0]
        refine rr_icmp_eq 201 d_Mo_value_16 (by decide) (fun c9 => absurd c9 (by decide)) (fun _ => ?_)
        refine rr_aload_n d_Mo_value_19 rfl rfl ?_
        refine rr_aload_n d_Mo_value_20 rfl rfl ?_
        refine rr_getf d_Mo_value_21 fl_Mo_187 rfl rfl ?_
        refine rr_iald d_Mo_value_24 rfl (hv0) ?_
        refine rr_istore d_Mo_value_25 (by decide) ?_
        refine rr_aload_n d_Mo_value_27 rfl rfl ?_
        refine rr_dup d_Mo_value_28 rfl ?_
        refine rr_getf d_Mo_value_29 fl_Mo_187 rfl rfl ?_
        refine rr_iconst 1 d_Mo_value_32 rfl ?_
        refine rr_iadd d_Mo_value_33 ?_
        refine rr_putf d_Mo_value_34 fl_Mo_187 rfl rfl rfl rfl ?_
        refine rr_iload d_Mo_value_37 rfl ?_
        refine rr_iconst 3 d_Mo_value_39 rfl ?_
        rw [nI_clamp (n := i) (by omega), c0, nI_1]
        refine rr_icmp_gt 117 d_Mo_value_40 (by decide) (fun c9 => absurd c9 (by decide)) (fun _ => ?_)
        refine rr_aload_n d_Mo_value_43 rfl rfl ?_
        refine rr_getf d_Mo_value_44 fl_Mo_23 rfl rfl ?_
        refine rr_iload d_Mo_value_47 rfl ?_
        refine rr_iload d_Mo_value_49 rfl ?_
        refine rr_if_ne 63 d_Mo_value_51 (by decide) (fun _ => ?_) (fun c9 => absurd c9 (by decide))
        refine rr_iload d_Mo_value_63 rfl ?_
        refine rr_iconst 1 d_Mo_value_65 rfl ?_
        refine rr_icmp_ne 83 d_Mo_value_66 (by decide) (fun _ => ?_) (fun c9 => absurd c9 (by decide))
        refine rr_iload d_Mo_value_83 rfl ?_
        refine rr_iconst 2 d_Mo_value_85 rfl ?_
        refine rr_icmp_ne 93 d_Mo_value_86 (by decide) (fun _ => ?_) (fun c9 => absurd c9 (by decide))
        refine rr_iload_n d_Mo_value_93 rfl rfl ?_
        refine rr_iast d_Mo_value_94 rfl (hsv) ?_
        refine rr_iload d_Mo_value_95 rfl ?_
        refine rr_iconst 1 d_Mo_value_97 rfl ?_
        rw [nI_clamp (n := h) (by omega)]
        refine rr_icmp_gt 111 d_Mo_value_98 (by decide) (fun _ => ?_) (fun c9 => absurd (by decide) c9)
        refine rr_iinc 1 d_Mo_value_111 rfl rfl (by decide) ?_
        refine rr_goto 198 d_Mo_value_114 (by decide) ?_
        refine rr_goto 8 d_Mo_value_198 (by decide) ?_
        rw [nI_1]
        exact rr_lvs _ rfl (nx sp (by unfold sp_it; simp [hq]))
    · rw [if_neg hp] at hh
      rw [hnp, if_neg hp] at hb
      by_cases h2x : sp_isop q.1 = true ∧ 2 ≤ h
      · rw [if_pos h2x] at hh
        obtain ⟨j, rfl⟩ : ∃ j, h = j + 2 := ⟨h - 2, by omega⟩
        have nx : (en1 q).length = 1 → rr_A R_Mo c_Mo_value 6 (some .int) (false, none) { frames := 0, cells := 0, slots := 0, locals := 0 * 64 } (Q) 0 0 8 [(4, .int (nI (j + 1))), (3, .ref 32), (0, .ref 24), (1, .int sv), (2, .int sp)] [] (x0 :: x1 :: x2 :: x3 :: x4 :: x5 :: x6 :: x7 :: x8 :: x9 :: x10 :: x11 :: x12 :: x13 :: x14 :: x15 :: x16 :: x17 :: x18 :: x19 :: x20 :: x21 :: x22 :: x23 :: .inr (6, [.ref 25, .int tm, (.ref 32), .ref 26, .int ru, .int at0, .int sz, .int kd0, .int fr0, .int to0, .int fa, .int pa, .long nu, .ref 27, .int my, .ref 28, .ref 29, .ref 30, .ref 31, .int (nI (i + 1))]) :: x25 :: x26 :: x27 :: .inl (0, 32, .inl (fm)) :: .inl (0, 160, .inl (upd fs j (sp_op q.1 (fs j) (fs (j + 1))))) :: .inl (0, 8, .inl (fo)) :: .inl (0, 8, .inl (go)) :: .inl (0, N, .inl c) :: g) := by
          intro hl
          refine rr_lvs _ rfl (ih (i + 1) (j + 1) _ (by rw [← hl]; exact a2) (by omega) hh (by omega) hce2 (fun fs2 h3 => ?_))
          have := k fs2 (by
            rw [h3, st_of_push]
            show _ = sp_ev fm sv sp x (sp_it fm sv sp q (fs (j + 1) :: fs j :: st_of fs j))
            rw [sp_it_op hp])
          rwa [hen, List.length_append, hl, ← Nat.add_assoc] at this
        have hq : q.1 = 14 ∨ q.1 = 15 ∨ q.1 = 16 := by simpa [sp_isop, or_assoc] using h2x.1
        rcases hq with hq | hq | hq
        · have e1 : en1 q = [4] := by unfold en1; simp [hq]
          rw [e1] at a1 hi nx
          rw [hq] at nx
          have c0 : c i = 4 := a1 0 4 rfl
          have hi1 : i < N := by simp at hi; omega
          have hv0 : vp_in (nI i) N := vp_in_nI hi1 (by omega)
          have hj0 : vp_in (nI j) 160 := vp_in_nI (by omega) (by decide)
          have hj1 : vp_in (nI (j + 1)) 160 := vp_in_nI (by omega) (by decide)
          refine rr_aload_n d_Mo_value_8 rfl rfl ?_
          refine rr_aload_n d_Mo_value_9 rfl rfl ?_
          refine rr_getf d_Mo_value_10 fl_Mo_187 rfl rfl ?_
          refine rr_iald d_Mo_value_13 rfl (hv0) ?_
          refine rr_bipush 7 d_Mo_value_14 rfl ?_
          rw [nI_clamp (n := i) (by omega), c0]
          refine rr_icmp_eq 201 d_Mo_value_16 (by decide) (fun c9 => absurd c9 (by decide)) (fun _ => ?_)
          refine rr_aload_n d_Mo_value_19 rfl rfl ?_
          refine rr_aload_n d_Mo_value_20 rfl rfl ?_
          refine rr_getf d_Mo_value_21 fl_Mo_187 rfl rfl ?_
          refine rr_iald d_Mo_value_24 rfl (hv0) ?_
          refine rr_istore d_Mo_value_25 (by decide) ?_
          refine rr_aload_n d_Mo_value_27 rfl rfl ?_
          refine rr_dup d_Mo_value_28 rfl ?_
          refine rr_getf d_Mo_value_29 fl_Mo_187 rfl rfl ?_
          refine rr_iconst 1 d_Mo_value_32 rfl ?_
          refine rr_iadd d_Mo_value_33 ?_
          refine rr_putf d_Mo_value_34 fl_Mo_187 rfl rfl rfl rfl ?_
          refine rr_iload d_Mo_value_37 rfl ?_
          refine rr_iconst 3 d_Mo_value_39 rfl ?_
          rw [nI_clamp (n := i) (by omega), c0, nI_1]
          refine rr_icmp_gt 117 d_Mo_value_40 (by decide) (fun _ => ?_) (fun c9 => absurd (by decide) c9)
          refine rr_iinc (-1) d_Mo_value_117 rfl rfl (by decide) ?_
          rw [show nI (j + 2) + -1 = nI (j + 1) from pk_m1 (j + 1)]
          refine rr_aload_n d_Mo_value_120 rfl rfl ?_
          refine rr_getf d_Mo_value_121 fl_Mo_23 rfl rfl ?_
          refine rr_iload d_Mo_value_124 rfl ?_
          refine rr_iconst 1 d_Mo_value_126 rfl ?_
          refine rr_isub d_Mo_value_127 ?_
          refine rr_iload d_Mo_value_128 rfl ?_
          refine rr_iconst 4 d_Mo_value_130 rfl ?_
          rw [nI_pred]
          refine rr_icmp_ne 154 d_Mo_value_131 (by decide) (fun c9 => absurd (rfl) c9) (fun _ => ?_)
          refine rr_aload_n d_Mo_value_134 rfl rfl ?_
          refine rr_getf d_Mo_value_135 fl_Mo_23 rfl rfl ?_
          refine rr_iload d_Mo_value_138 rfl ?_
          refine rr_iconst 1 d_Mo_value_140 rfl ?_
          refine rr_isub d_Mo_value_141 ?_
          rw [nI_pred]
          refine rr_iald d_Mo_value_142 rfl (hj0) ?_
          refine rr_aload_n d_Mo_value_143 rfl rfl ?_
          refine rr_getf d_Mo_value_144 fl_Mo_23 rfl rfl ?_
          refine rr_iload d_Mo_value_147 rfl ?_
          refine rr_iald d_Mo_value_149 rfl (hj1) ?_
          refine rr_iadd d_Mo_value_150 ?_
          refine rr_goto 197 d_Mo_value_151 (by decide) ?_
          refine rr_iast d_Mo_value_197 rfl (hj0) ?_
          refine rr_goto 8 d_Mo_value_198 (by decide) ?_
          rw [nI_clamp (n := j) (by omega), nI_clamp (n := j + 1) (by omega)]
          exact rr_lvs _ rfl (nx rfl)
        · have e1 : en1 q = [5] := by unfold en1; simp [hq]
          rw [e1] at a1 hi nx
          rw [hq] at nx
          have c0 : c i = 5 := a1 0 5 rfl
          have hi1 : i < N := by simp at hi; omega
          have hv0 : vp_in (nI i) N := vp_in_nI hi1 (by omega)
          have hj0 : vp_in (nI j) 160 := vp_in_nI (by omega) (by decide)
          have hj1 : vp_in (nI (j + 1)) 160 := vp_in_nI (by omega) (by decide)
          refine rr_aload_n d_Mo_value_8 rfl rfl ?_
          refine rr_aload_n d_Mo_value_9 rfl rfl ?_
          refine rr_getf d_Mo_value_10 fl_Mo_187 rfl rfl ?_
          refine rr_iald d_Mo_value_13 rfl (hv0) ?_
          refine rr_bipush 7 d_Mo_value_14 rfl ?_
          rw [nI_clamp (n := i) (by omega), c0]
          refine rr_icmp_eq 201 d_Mo_value_16 (by decide) (fun c9 => absurd c9 (by decide)) (fun _ => ?_)
          refine rr_aload_n d_Mo_value_19 rfl rfl ?_
          refine rr_aload_n d_Mo_value_20 rfl rfl ?_
          refine rr_getf d_Mo_value_21 fl_Mo_187 rfl rfl ?_
          refine rr_iald d_Mo_value_24 rfl (hv0) ?_
          refine rr_istore d_Mo_value_25 (by decide) ?_
          refine rr_aload_n d_Mo_value_27 rfl rfl ?_
          refine rr_dup d_Mo_value_28 rfl ?_
          refine rr_getf d_Mo_value_29 fl_Mo_187 rfl rfl ?_
          refine rr_iconst 1 d_Mo_value_32 rfl ?_
          refine rr_iadd d_Mo_value_33 ?_
          refine rr_putf d_Mo_value_34 fl_Mo_187 rfl rfl rfl rfl ?_
          refine rr_iload d_Mo_value_37 rfl ?_
          refine rr_iconst 3 d_Mo_value_39 rfl ?_
          rw [nI_clamp (n := i) (by omega), c0, nI_1]
          refine rr_icmp_gt 117 d_Mo_value_40 (by decide) (fun _ => ?_) (fun c9 => absurd (by decide) c9)
          refine rr_iinc (-1) d_Mo_value_117 rfl rfl (by decide) ?_
          rw [show nI (j + 2) + -1 = nI (j + 1) from pk_m1 (j + 1)]
          refine rr_aload_n d_Mo_value_120 rfl rfl ?_
          refine rr_getf d_Mo_value_121 fl_Mo_23 rfl rfl ?_
          refine rr_iload d_Mo_value_124 rfl ?_
          refine rr_iconst 1 d_Mo_value_126 rfl ?_
          refine rr_isub d_Mo_value_127 ?_
          refine rr_iload d_Mo_value_128 rfl ?_
          refine rr_iconst 4 d_Mo_value_130 rfl ?_
          rw [nI_pred]
          refine rr_icmp_ne 154 d_Mo_value_131 (by decide) (fun _ => ?_) (fun c9 => absurd c9 (by decide))
          refine rr_iload d_Mo_value_154 rfl ?_
          refine rr_iconst 5 d_Mo_value_156 rfl ?_
          refine rr_icmp_ne 180 d_Mo_value_157 (by decide) (fun c9 => absurd (rfl) c9) (fun _ => ?_)
          refine rr_aload_n d_Mo_value_160 rfl rfl ?_
          refine rr_getf d_Mo_value_161 fl_Mo_23 rfl rfl ?_
          refine rr_iload d_Mo_value_164 rfl ?_
          refine rr_iconst 1 d_Mo_value_166 rfl ?_
          refine rr_isub d_Mo_value_167 ?_
          rw [nI_pred]
          refine rr_iald d_Mo_value_168 rfl (hj0) ?_
          refine rr_aload_n d_Mo_value_169 rfl rfl ?_
          refine rr_getf d_Mo_value_170 fl_Mo_23 rfl rfl ?_
          refine rr_iload d_Mo_value_173 rfl ?_
          refine rr_iald d_Mo_value_175 rfl (hj1) ?_
          refine rr_isub d_Mo_value_176 ?_
          refine rr_goto 197 d_Mo_value_177 (by decide) ?_
          refine rr_iast d_Mo_value_197 rfl (hj0) ?_
          refine rr_goto 8 d_Mo_value_198 (by decide) ?_
          rw [nI_clamp (n := j) (by omega), nI_clamp (n := j + 1) (by omega)]
          exact rr_lvs _ rfl (nx rfl)
        · have e1 : en1 q = [6] := by unfold en1; simp [hq]
          rw [e1] at a1 hi nx
          rw [hq] at nx
          have c0 : c i = 6 := a1 0 6 rfl
          have hi1 : i < N := by simp at hi; omega
          have hv0 : vp_in (nI i) N := vp_in_nI hi1 (by omega)
          have hj0 : vp_in (nI j) 160 := vp_in_nI (by omega) (by decide)
          have hj1 : vp_in (nI (j + 1)) 160 := vp_in_nI (by omega) (by decide)
          refine rr_aload_n d_Mo_value_8 rfl rfl ?_
          refine rr_aload_n d_Mo_value_9 rfl rfl ?_
          refine rr_getf d_Mo_value_10 fl_Mo_187 rfl rfl ?_
          refine rr_iald d_Mo_value_13 rfl (hv0) ?_
          refine rr_bipush 7 d_Mo_value_14 rfl ?_
          rw [nI_clamp (n := i) (by omega), c0]
          refine rr_icmp_eq 201 d_Mo_value_16 (by decide) (fun c9 => absurd c9 (by decide)) (fun _ => ?_)
          refine rr_aload_n d_Mo_value_19 rfl rfl ?_
          refine rr_aload_n d_Mo_value_20 rfl rfl ?_
          refine rr_getf d_Mo_value_21 fl_Mo_187 rfl rfl ?_
          refine rr_iald d_Mo_value_24 rfl (hv0) ?_
          refine rr_istore d_Mo_value_25 (by decide) ?_
          refine rr_aload_n d_Mo_value_27 rfl rfl ?_
          refine rr_dup d_Mo_value_28 rfl ?_
          refine rr_getf d_Mo_value_29 fl_Mo_187 rfl rfl ?_
          refine rr_iconst 1 d_Mo_value_32 rfl ?_
          refine rr_iadd d_Mo_value_33 ?_
          refine rr_putf d_Mo_value_34 fl_Mo_187 rfl rfl rfl rfl ?_
          refine rr_iload d_Mo_value_37 rfl ?_
          refine rr_iconst 3 d_Mo_value_39 rfl ?_
          rw [nI_clamp (n := i) (by omega), c0, nI_1]
          refine rr_icmp_gt 117 d_Mo_value_40 (by decide) (fun _ => ?_) (fun c9 => absurd (by decide) c9)
          refine rr_iinc (-1) d_Mo_value_117 rfl rfl (by decide) ?_
          rw [show nI (j + 2) + -1 = nI (j + 1) from pk_m1 (j + 1)]
          refine rr_aload_n d_Mo_value_120 rfl rfl ?_
          refine rr_getf d_Mo_value_121 fl_Mo_23 rfl rfl ?_
          refine rr_iload d_Mo_value_124 rfl ?_
          refine rr_iconst 1 d_Mo_value_126 rfl ?_
          refine rr_isub d_Mo_value_127 ?_
          refine rr_iload d_Mo_value_128 rfl ?_
          refine rr_iconst 4 d_Mo_value_130 rfl ?_
          rw [nI_pred]
          refine rr_icmp_ne 154 d_Mo_value_131 (by decide) (fun _ => ?_) (fun c9 => absurd c9 (by decide))
          refine rr_iload d_Mo_value_154 rfl ?_
          refine rr_iconst 5 d_Mo_value_156 rfl ?_
          refine rr_icmp_ne 180 d_Mo_value_157 (by decide) (fun _ => ?_) (fun c9 => absurd c9 (by decide))
          refine rr_aload_n d_Mo_value_180 rfl rfl ?_
          refine rr_getf d_Mo_value_181 fl_Mo_23 rfl rfl ?_
          refine rr_iload d_Mo_value_184 rfl ?_
          refine rr_iconst 1 d_Mo_value_186 rfl ?_
          refine rr_isub d_Mo_value_187 ?_
          rw [nI_pred]
          refine rr_iald d_Mo_value_188 rfl (hj0) ?_
          refine rr_aload_n d_Mo_value_189 rfl rfl ?_
          refine rr_getf d_Mo_value_190 fl_Mo_23 rfl rfl ?_
          refine rr_iload d_Mo_value_193 rfl ?_
          refine rr_iald d_Mo_value_195 rfl (hj1) ?_
          refine rr_imul d_Mo_value_196 ?_
          refine rr_iast d_Mo_value_197 rfl (hj0) ?_
          refine rr_goto 8 d_Mo_value_198 (by decide) ?_
          rw [nI_clamp (n := j) (by omega), nI_clamp (n := j + 1) (by omega)]
          exact rr_lvs _ rfl (nx rfl)
      · rw [if_neg h2x] at hh
        cases hh

set_option maxRecDepth 100000 in
set_option maxHeartbeats 4000000 in
theorem u_value {x0 x1 x2 x3 x4 x5 x6 x7 x8 x9 x10 x11 x12 x13 x14 x15 x16 x17 x18 x19 x20 x21 x22 x23 x25 x26 x27 : va_E} {g : rr_H} {tm ru at0 sz kd0 fr0 to0 fa pa my sv sp : Int32} {nu : Int64} {c fm fo go : Nat → Int32} {N : Nat} {i : Nat} {fs : Nat → Int32} (x : sp_I) (hN : N ≤ 1600) (hg : gi x) (hnp : sp_np x ≤ 80) (hh : hd_ c i (en x ++ [7])) (hi : i + (en x).length < N) : rr_Spec 0 y_Mo_value c_Mo_value 6 (some .int) 0 0 [.ref 24, .int sv, .int sp] (x0 :: x1 :: x2 :: x3 :: x4 :: x5 :: x6 :: x7 :: x8 :: x9 :: x10 :: x11 :: x12 :: x13 :: x14 :: x15 :: x16 :: x17 :: x18 :: x19 :: x20 :: x21 :: x22 :: x23 :: .inr (6, [.ref 25, .int tm, (.ref 32), .ref 26, .int ru, .int at0, .int sz, .int kd0, .int fr0, .int to0, .int fa, .int pa, .long nu, .ref 27, .int my, .ref 28, .ref 29, .ref 30, .ref 31, .int (nI i)]) :: x25 :: x26 :: x27 :: .inl (0, 32, .inl (fm)) :: .inl (0, 160, .inl (fs)) :: .inl (0, 8, .inl (fo)) :: .inl (0, 8, .inl (go)) :: .inl (0, N, .inl c) :: g) (fun r h1 => ∃ fs2 : Nat → Int32, r = some (.int (sp_val fm sv sp x)) ∧ h1 = x0 :: x1 :: x2 :: x3 :: x4 :: x5 :: x6 :: x7 :: x8 :: x9 :: x10 :: x11 :: x12 :: x13 :: x14 :: x15 :: x16 :: x17 :: x18 :: x19 :: x20 :: x21 :: x22 :: x23 :: .inr (6, [.ref 25, .int tm, (.ref 32), .ref 26, .int ru, .int at0, .int sz, .int kd0, .int fr0, .int to0, .int fa, .int pa, .long nu, .ref 27, .int my, .ref 28, .ref 29, .ref 30, .ref 31, .int (nI (i + (en x ++ [7]).length))]) :: x25 :: x26 :: x27 :: .inl (0, 32, .inl (fm)) :: .inl (0, 160, .inl (fs2)) :: .inl (0, 8, .inl (fo)) :: .inl (0, 8, .inl (go)) :: .inl (0, N, .inl c) :: g) := by
  obtain ⟨b1, b2⟩ := hd_app.mp hh
  have b3 : c (i + (en x).length) = 7 := hd_1.mp b2
  refine rr_met (own := R_Mo) (kd := (false, none)) (by decide +kernel) rfl (fun h => by cases h) rfl (Nat.le_of_ble_eq_true rfl) ?_
  refine rr_aload_n d_Mo_value_0 rfl rfl ?_
  refine rr_getf d_Mo_value_1 fl_Mo_135 rfl rfl ?_
  refine rr_astore_n d_Mo_value_4 rfl (by decide) ?_
  refine rr_iconst 0 d_Mo_value_5 rfl ?_
  refine rr_istore d_Mo_value_6 (by decide) ?_
  refine rr_lvs [(4, .int (nI 0)), (3, .ref 32), (0, .ref 24), (1, .int sv), (2, .int sp)] rfl (l_value hN x i 0 fs b1 hi hg.1 (by omega) hg.2 (fun fs2 h3 => ?_))
  rw [sp_ev_val hg.1] at h3
  have hv : fs2 0 = sp_val fm sv sp x := (List.cons.inj h3).1
  refine rr_aload_n d_Mo_value_8 rfl rfl ?_
  refine rr_aload_n d_Mo_value_9 rfl rfl ?_
  refine rr_getf d_Mo_value_10 fl_Mo_187 rfl rfl ?_
  refine rr_iald d_Mo_value_13 rfl (vp_in_nI hi (by omega)) ?_
  refine rr_bipush 7 d_Mo_value_14 rfl ?_
  rw [nI_clamp (by omega), b3]
  refine rr_icmp_eq 201 d_Mo_value_16 (by decide) (fun _ => ?_) (fun c9 => absurd (rfl) c9)
  refine rr_aload_n d_Mo_value_201 rfl rfl ?_
  refine rr_dup d_Mo_value_202 rfl ?_
  refine rr_getf d_Mo_value_203 fl_Mo_187 rfl rfl ?_
  refine rr_iconst 1 d_Mo_value_206 rfl ?_
  refine rr_iadd d_Mo_value_207 ?_
  refine rr_putf d_Mo_value_208 fl_Mo_187 rfl rfl rfl rfl ?_
  refine rr_aload_n d_Mo_value_211 rfl rfl ?_
  refine rr_getf d_Mo_value_212 fl_Mo_23 rfl rfl ?_
  refine rr_iconst 0 d_Mo_value_215 rfl ?_
  refine rr_iald d_Mo_value_216 rfl (vp_in_nI (n := 0) (N := 160) (by decide) (by decide)) ?_
  rw [nI_1, sb_cl0, hv, show i + (en x).length + 1 = i + (en x ++ [7]).length by rw [List.length_append, Nat.add_assoc]; rfl]
  exact rr_ireturn d_Mo_value_217 rfl rfl (Nat.le_of_ble_eq_true rfl) (Nat.le_of_ble_eq_true rfl) (⟨fs2, rfl, rfl⟩)

set_option maxRecDepth 100000 in
set_option maxHeartbeats 4000000 in
theorem l_holds2 {x0 x1 x2 x3 x4 x5 x6 x7 x8 x9 x10 x11 x12 x13 x14 x15 x16 x17 x18 x19 x20 x21 x22 x23 x25 x26 x27 : va_E} {g : rr_H} {tm ru at0 sz kd0 fr0 to0 fa pa my sv sp : Int32} {nu : Int64} {c fm fo go : Nat → Int32} {N : Nat} {K : Nat} (hN : N ≤ 1600) (hK : K ≤ 1600) : ∀ (ts : List sp_C) (k i : Nat) (fs : Nat → Int32), k + ts.length = K → hd_ c i (ts.flatMap enC) → i + (ts.flatMap enC).length < N → (∀ q ∈ ts, gc q) → rr_A R_Mo c_Mo_holds 10 (some .boolean) (false, none) { frames := 1, cells := 0, slots := 0, locals := 1 * 64 } (fun r h1 => ∃ (fs2 : Nat → Int32) (pc2 : Int32), r = some (.int (sp_b (sp_ts fm sv sp ts))) ∧ h1 = x0 :: x1 :: x2 :: x3 :: x4 :: x5 :: x6 :: x7 :: x8 :: x9 :: x10 :: x11 :: x12 :: x13 :: x14 :: x15 :: x16 :: x17 :: x18 :: x19 :: x20 :: x21 :: x22 :: x23 :: .inr (6, [.ref 25, .int tm, (.ref 32), .ref 26, .int ru, .int at0, .int sz, .int kd0, .int fr0, .int to0, .int fa, .int pa, .long nu, .ref 27, .int my, .ref 28, .ref 29, .ref 30, .ref 31, .int pc2]) :: x25 :: x26 :: x27 :: .inl (0, 32, .inl (fm)) :: .inl (0, 160, .inl (fs2)) :: .inl (0, 8, .inl (fo)) :: .inl (0, 8, .inl (go)) :: .inl (0, N, .inl c) :: g ∧ (sp_ts fm sv sp ts = true → pc2 = nI (i + (ts.flatMap enC).length))) 0 0 26 [(5, .int (nI k)), (4, .int (nI K)), (3, .ref 32), (0, .ref 24), (1, .int sv), (2, .int sp)] [] (x0 :: x1 :: x2 :: x3 :: x4 :: x5 :: x6 :: x7 :: x8 :: x9 :: x10 :: x11 :: x12 :: x13 :: x14 :: x15 :: x16 :: x17 :: x18 :: x19 :: x20 :: x21 :: x22 :: x23 :: .inr (6, [.ref 25, .int tm, (.ref 32), .ref 26, .int ru, .int at0, .int sz, .int kd0, .int fr0, .int to0, .int fa, .int pa, .long nu, .ref 27, .int my, .ref 28, .ref 29, .ref 30, .ref 31, .int (nI i)]) :: x25 :: x26 :: x27 :: .inl (0, 32, .inl (fm)) :: .inl (0, 160, .inl (fs)) :: .inl (0, 8, .inl (fo)) :: .inl (0, 8, .inl (go)) :: .inl (0, N, .inl c) :: g) := by
  intro ts
  induction ts with
  | nil =>
    intro k i fs hk ha hi hg
    refine rr_iload d_Mo_holds_26 rfl ?_
    refine rr_iload d_Mo_holds_28 rfl ?_
    refine rr_icmp_ge 160 d_Mo_holds_30 (by decide) (fun _ => ?_) (fun c9 => absurd (nI_le (by simp at hk; omega) (by simp at hk; omega)) c9)
    refine rr_iconst 1 d_Mo_holds_160 rfl ?_
    exact rr_ireturn d_Mo_holds_161 rfl rfl (Nat.le_of_ble_eq_true rfl) (Nat.le_of_ble_eq_true rfl) (⟨_, _, rfl, rfl, fun _ => rfl⟩)
  | cons q ts ih =>
    intro k i fs hk ha hi hg
    have hk2 : k + (ts.length + 1) = K := hk
    obtain ⟨g1, g2, g3, g4, g5⟩ := hg q List.mem_cons_self
    have hfl : (q :: ts).flatMap enC = [chS q.2.2] ++ ((en q.1 ++ [7]) ++ ((en q.2.1 ++ [7]) ++ ts.flatMap enC)) := by
      rw [List.flatMap_cons]
      simp [enC]
    rw [hfl] at ha hi
    obtain ⟨b1, b2⟩ := hd_app.mp ha
    obtain ⟨b3, b4⟩ := hd_app.mp b2
    obtain ⟨b5, b6⟩ := hd_app.mp b4
    have c0 : c i = chS q.2.2 := hd_1.mp b1
    have hl1 : ([chS q.2.2] : List Int32).length = 1 := rfl
    have hx1 : (en q.1 ++ [7]).length = (en q.1).length + 1 := by rw [List.length_append]; rfl
    have hx2 : (en q.2.1 ++ [7]).length = (en q.2.1).length + 1 := by rw [List.length_append]; rfl
    rw [hl1] at b3 b5 b6
    simp only [List.length_append, hl1] at hi
    simp only [List.length_cons, List.length_nil] at hi
    have hts : sp_ts fm sv sp (q :: ts) = (sp_cv q.2.2 (sp_val fm sv sp q.1) (sp_val fm sv sp q.2.1) && sp_ts fm sv sp ts) := rfl
    refine rr_iload d_Mo_holds_26 rfl ?_
    refine rr_iload d_Mo_holds_28 rfl ?_
    refine rr_icmp_ge 160 d_Mo_holds_30 (by decide) (fun c9 => absurd c9 (nI_ge (by omega) (by omega))) (fun _ => ?_)
    refine rr_aload_n d_Mo_holds_33 rfl rfl ?_
    refine rr_aload_n d_Mo_holds_34 rfl rfl ?_
    refine rr_getf d_Mo_holds_35 fl_Mo_187 rfl rfl ?_
    refine rr_iald d_Mo_holds_38 rfl (vp_in_nI (n := i) (by omega) (by omega)) ?_
    refine rr_istore d_Mo_holds_39 (by decide) ?_
    refine rr_aload_n d_Mo_holds_41 rfl rfl ?_
    refine rr_dup d_Mo_holds_42 rfl ?_
    refine rr_getf d_Mo_holds_43 fl_Mo_187 rfl rfl ?_
    refine rr_iconst 1 d_Mo_holds_46 rfl ?_
    refine rr_iadd d_Mo_holds_47 ?_
    refine rr_putf d_Mo_holds_48 fl_Mo_187 rfl rfl rfl rfl ?_
    refine rr_aload_n d_Mo_holds_51 rfl rfl ?_
    refine rr_iload_n d_Mo_holds_52 rfl rfl ?_
    refine rr_iload_n d_Mo_holds_53 rfl rfl ?_
    rw [nI_clamp (by omega), c0, nI_1]
    refine rr_callV d_Mo_holds_54 il_Mo_190 m_Mo_value (u_value q.1 hN g1 g4 b3 (by omega)) rfl rfl rfl rfl (Nat.le_of_ble_eq_true rfl) (Nat.le_of_ble_eq_true rfl) (Nat.le_of_ble_eq_true rfl) (Nat.le_of_ble_eq_true rfl) (Nat.le_of_ble_eq_true rfl) (fun rv9 hp9 hq => ?_)
    obtain ⟨fs2, rfl, rfl⟩ := hq
    refine rr_istore d_Mo_holds_57 (by decide) ?_
    refine rr_aload_n d_Mo_holds_59 rfl rfl ?_
    refine rr_iload_n d_Mo_holds_60 rfl rfl ?_
    refine rr_iload_n d_Mo_holds_61 rfl rfl ?_
    refine rr_callV d_Mo_holds_62 il_Mo_190 m_Mo_value (u_value q.2.1 hN g2 (by omega) b5 (by omega)) rfl rfl rfl rfl (Nat.le_of_ble_eq_true rfl) (Nat.le_of_ble_eq_true rfl) (Nat.le_of_ble_eq_true rfl) (Nat.le_of_ble_eq_true rfl) (Nat.le_of_ble_eq_true rfl) (fun rv9 hp9 hq => ?_)
    obtain ⟨fs3, rfl, rfl⟩ := hq
    refine rr_istore d_Mo_holds_65 (by decide) ?_
    refine rr_iload d_Mo_holds_67 rfl ?_
    refine rr_bipush 61 d_Mo_holds_69 rfl ?_
    have go : ∀ bv : Int32, bv = sp_b (sp_cv q.2.2 (sp_val fm sv sp q.1) (sp_val fm sv sp q.2.1)) → rr_A R_Mo c_Mo_holds 10 (some .boolean) (false, none) { frames := 1, cells := 0, slots := 0, locals := 1 * 64 } (fun r h1 => ∃ (fs2 : Nat → Int32) (pc2 : Int32), r = some (.int (sp_b (sp_ts fm sv sp (q :: ts)))) ∧ h1 = x0 :: x1 :: x2 :: x3 :: x4 :: x5 :: x6 :: x7 :: x8 :: x9 :: x10 :: x11 :: x12 :: x13 :: x14 :: x15 :: x16 :: x17 :: x18 :: x19 :: x20 :: x21 :: x22 :: x23 :: .inr (6, [.ref 25, .int tm, (.ref 32), .ref 26, .int ru, .int at0, .int sz, .int kd0, .int fr0, .int to0, .int fa, .int pa, .long nu, .ref 27, .int my, .ref 28, .ref 29, .ref 30, .ref 31, .int pc2]) :: x25 :: x26 :: x27 :: .inl (0, 32, .inl (fm)) :: .inl (0, 160, .inl (fs2)) :: .inl (0, 8, .inl (fo)) :: .inl (0, 8, .inl (go)) :: .inl (0, N, .inl c) :: g ∧ (sp_ts fm sv sp (q :: ts) = true → pc2 = nI (i + ((q :: ts).flatMap enC).length))) 0 0 147 [(9, .int bv), (5, .int (nI k)), (4, .int (nI K)), (3, .ref 32), (0, .ref 24), (1, .int sv), (2, .int sp)] [] (x0 :: x1 :: x2 :: x3 :: x4 :: x5 :: x6 :: x7 :: x8 :: x9 :: x10 :: x11 :: x12 :: x13 :: x14 :: x15 :: x16 :: x17 :: x18 :: x19 :: x20 :: x21 :: x22 :: x23 :: .inr (6, [.ref 25, .int tm, (.ref 32), .ref 26, .int ru, .int at0, .int sz, .int kd0, .int fr0, .int to0, .int fa, .int pa, .long nu, .ref 27, .int my, .ref 28, .ref 29, .ref 30, .ref 31, .int (nI (i + 1 + (en q.1 ++ [7]).length + (en q.2.1 ++ [7]).length))]) :: x25 :: x26 :: x27 :: .inl (0, 32, .inl (fm)) :: .inl (0, 160, .inl (fs3)) :: .inl (0, 8, .inl (fo)) :: .inl (0, 8, .inl (go)) :: .inl (0, N, .inl c) :: g) := by
      rintro bv rfl
      rw [hts]
      refine rr_iload d_Mo_holds_147 rfl ?_
      by_cases hc : sp_cv q.2.2 (sp_val fm sv sp q.1) (sp_val fm sv sp q.2.1) = true
      · rw [hc, Bool.true_and]
        refine rr_if_ne 154 d_Mo_holds_149 (by decide) (fun _ => ?_) (fun c9 => absurd c9 (by decide))
        refine rr_iinc 1 d_Mo_holds_154 rfl rfl (by decide) ?_
        refine rr_goto 26 d_Mo_holds_157 (by decide) ?_
        rw [nI_1]
        refine rr_lvs _ rfl (rr_weak ?_ (ih (k + 1) _ fs3 (by omega) b6 (by omega) (fun r hr => hg r (List.mem_cons_of_mem _ hr))))
        rintro r h1 ⟨fs4, pc4, q1, q2, q3⟩
        refine ⟨fs4, pc4, q1, q2, fun hh => ?_⟩
        rw [q3 hh, hfl]
        simp only [List.length_append, hl1]
        exact congrArg nI (by simp; omega)
      · rw [(Bool.not_eq_true _).mp hc, Bool.false_and]
        refine rr_if_ne 154 d_Mo_holds_149 (by decide) (fun c9 => absurd (rfl) c9) (fun _ => ?_)
        refine rr_iconst 0 d_Mo_holds_152 rfl ?_
        exact rr_ireturn d_Mo_holds_153 rfl rfl (Nat.le_of_ble_eq_true rfl) (Nat.le_of_ble_eq_true rfl) (⟨_, _, rfl, rfl, fun h => by cases h⟩)
    rcases g5 with g | g | g | g
    · rw [g] at go ⊢
      rw [show chS 10 = 61 from rfl]
      refine rr_icmp_ne 89 d_Mo_holds_71 (by decide) (fun c9 => absurd (rfl) c9) (fun _ => ?_)
      refine rr_iload d_Mo_holds_74 rfl ?_
      refine rr_iload d_Mo_holds_76 rfl ?_
      rw [show sp_cv 10 (sp_val fm sv sp q.1) (sp_val fm sv sp q.2.1) = decide (sp_val fm sv sp q.1 = sp_val fm sv sp q.2.1) from rfl] at go
      refine rr_icmp_ne 85 d_Mo_holds_78 (by decide) (fun hc => ?_) (fun hc => ?_)
      · rw [decide_eq_false hc] at go
        refine rr_iconst 0 d_Mo_holds_85 rfl ?_
        refine rr_goto 145 d_Mo_holds_86 (by decide) ?_
        refine rr_istore d_Mo_holds_145 (by decide) ?_
        exact rr_lvs _ rfl (go 0 rfl)
      · rw [decide_eq_true hc] at go
        refine rr_iconst 1 d_Mo_holds_81 rfl ?_
        refine rr_goto 145 d_Mo_holds_82 (by decide) ?_
        refine rr_istore d_Mo_holds_145 (by decide) ?_
        exact rr_lvs _ rfl (go 1 rfl)
    · rw [g] at go ⊢
      rw [show chS 11 = 35 from rfl]
      refine rr_icmp_ne 89 d_Mo_holds_71 (by decide) (fun _ => ?_) (fun c9 => absurd c9 (by decide))
      refine rr_iload d_Mo_holds_89 rfl ?_
      refine rr_bipush 35 d_Mo_holds_91 rfl ?_
      refine rr_icmp_ne 111 d_Mo_holds_93 (by decide) (fun c9 => absurd (rfl) c9) (fun _ => ?_)
      refine rr_iload d_Mo_holds_96 rfl ?_
      refine rr_iload d_Mo_holds_98 rfl ?_
      rw [show sp_cv 11 (sp_val fm sv sp q.1) (sp_val fm sv sp q.2.1) = decide (¬ sp_val fm sv sp q.1 = sp_val fm sv sp q.2.1) from rfl] at go
      refine rr_icmp_eq 107 d_Mo_holds_100 (by decide) (fun hc => ?_) (fun hc => ?_)
      · rw [decide_eq_false (fun z => z hc)] at go
        refine rr_iconst 0 d_Mo_holds_107 rfl ?_
        refine rr_goto 145 d_Mo_holds_108 (by decide) ?_
        refine rr_istore d_Mo_holds_145 (by decide) ?_
        exact rr_lvs _ rfl (go 0 rfl)
      · rw [decide_eq_true hc] at go
        refine rr_iconst 1 d_Mo_holds_103 rfl ?_
        refine rr_goto 145 d_Mo_holds_104 (by decide) ?_
        refine rr_istore d_Mo_holds_145 (by decide) ?_
        exact rr_lvs _ rfl (go 1 rfl)
    · rw [g] at go ⊢
      rw [show chS 12 = 60 from rfl]
      refine rr_icmp_ne 89 d_Mo_holds_71 (by decide) (fun _ => ?_) (fun c9 => absurd c9 (by decide))
      refine rr_iload d_Mo_holds_89 rfl ?_
      refine rr_bipush 35 d_Mo_holds_91 rfl ?_
      refine rr_icmp_ne 111 d_Mo_holds_93 (by decide) (fun _ => ?_) (fun c9 => absurd c9 (by decide))
      refine rr_iload d_Mo_holds_111 rfl ?_
      refine rr_bipush 60 d_Mo_holds_113 rfl ?_
      refine rr_icmp_ne 133 d_Mo_holds_115 (by decide) (fun c9 => absurd (rfl) c9) (fun _ => ?_)
      refine rr_iload d_Mo_holds_118 rfl ?_
      refine rr_iload d_Mo_holds_120 rfl ?_
      rw [show sp_cv 12 (sp_val fm sv sp q.1) (sp_val fm sv sp q.2.1) = decide (sp_val fm sv sp q.1 < sp_val fm sv sp q.2.1) from rfl] at go
      refine rr_icmp_ge 129 d_Mo_holds_122 (by decide) (fun hc => ?_) (fun hc => ?_)
      · rw [decide_eq_false (Int32.not_lt.mpr hc)] at go
        refine rr_iconst 0 d_Mo_holds_129 rfl ?_
        refine rr_goto 145 d_Mo_holds_130 (by decide) ?_
        refine rr_istore d_Mo_holds_145 (by decide) ?_
        exact rr_lvs _ rfl (go 0 rfl)
      · rw [decide_eq_true (Int32.not_le.mp hc)] at go
        refine rr_iconst 1 d_Mo_holds_125 rfl ?_
        refine rr_goto 145 d_Mo_holds_126 (by decide) ?_
        refine rr_istore d_Mo_holds_145 (by decide) ?_
        exact rr_lvs _ rfl (go 1 rfl)
    · rw [g] at go ⊢
      rw [show chS 13 = 62 from rfl]
      refine rr_icmp_ne 89 d_Mo_holds_71 (by decide) (fun _ => ?_) (fun c9 => absurd c9 (by decide))
      refine rr_iload d_Mo_holds_89 rfl ?_
      refine rr_bipush 35 d_Mo_holds_91 rfl ?_
      refine rr_icmp_ne 111 d_Mo_holds_93 (by decide) (fun _ => ?_) (fun c9 => absurd c9 (by decide))
      refine rr_iload d_Mo_holds_111 rfl ?_
      refine rr_bipush 60 d_Mo_holds_113 rfl ?_
      refine rr_icmp_ne 133 d_Mo_holds_115 (by decide) (fun _ => ?_) (fun c9 => absurd c9 (by decide))
      refine rr_iload d_Mo_holds_133 rfl ?_
      refine rr_iload d_Mo_holds_135 rfl ?_
      rw [show sp_cv 13 (sp_val fm sv sp q.1) (sp_val fm sv sp q.2.1) = decide (sp_val fm sv sp q.2.1 < sp_val fm sv sp q.1) from rfl] at go
      refine rr_icmp_le 144 d_Mo_holds_137 (by decide) (fun hc => ?_) (fun hc => ?_)
      · rw [decide_eq_false (Int32.not_lt.mpr hc)] at go
        refine rr_iconst 0 d_Mo_holds_144 rfl ?_
        refine rr_istore d_Mo_holds_145 (by decide) ?_
        exact rr_lvs _ rfl (go 0 rfl)
      · rw [decide_eq_true (Int32.not_le.mp hc)] at go
        refine rr_iconst 1 d_Mo_holds_140 rfl ?_
        refine rr_goto 145 d_Mo_holds_141 (by decide) ?_
        refine rr_istore d_Mo_holds_145 (by decide) ?_
        exact rr_lvs _ rfl (go 1 rfl)
