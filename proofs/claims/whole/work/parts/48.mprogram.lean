/-! The reference: program. -/
theorem sp_pos_lt {f : Nat → Int32} {n k : Nat} (h : sp_K f n k ≠ 0) : sp_pos f n k < sp_pos f n (k + 1) := by
  show sp_pos f n k < (sp_next f n (sp_pos f n k)).2.2.2
  have h1 : (sp_next f n (sp_pos f n k)).1 ≠ 0 := h
  revert h1
  unfold sp_next
  dsimp only
  have hg := sp_run_ge (P := fun x => decide (x = 32)) (f := f) (n - sp_pos f n k) (sp_pos f n k)
  split
  · rename_i hq
    intro _
    have := sp_tok_end (f := f) hq
    show sp_pos f n k < (sp_tok f n _).2.2
    omega
  · intro z
    exact absurd rfl z
theorem ex_M (f : Nat → Int32) (n : Nat) : ∃ M, sp_K f n M = 0 := by
  by_cases h : ∃ M, sp_K f n M = 0
  · exact h
  · exfalso
    have hne : ∀ k, sp_K f n k ≠ 0 := fun k hk => h ⟨k, hk⟩
    have hge : ∀ k, k ≤ sp_pos f n k := by
      intro k
      induction k with
      | zero => exact Nat.zero_le _
      | succ k ih =>
        have := sp_pos_lt (hne k)
        omega
    have h1 := hge (n + 1)
    have h2 := sp_pos_le (f := f) (n := n) (n + 1)
    omega
theorem mk_0 {k : Nat} : nI (mk k) = 0 ↔ k = 0 := by
  constructor
  · intro h
    have h2 := (nI_eq (b := 0) (by have := mk_le k; omega) (by decide)).mp h
    unfold mk at h2
    repeat' split at h2
    all_goals first | assumption | exact absurd h2 (by decide)
  · rintro rfl
    rfl
theorem flU_app (us : List sp_U) (u : sp_U) : (us ++ [u]).flatMap enU = us.flatMap enU ++ enU u := by
  rw [List.flatMap_append]
  simp
theorem md_add {us : List sp_U} {u : sp_U} {c c2 : Nat → Int32} (h : md_is us c) (h6 : us.length < 6) (h0 : c2 0 = nI (us.length + 1)) (h1 : c2 (us.length + 1) = nI (mdp us)) (hf : ∀ j, j < mdp us → j ≠ 0 → j ≠ us.length + 1 → c2 j = c j) (hh : hd_ c2 (mdp us) (enU u)) : md_is (us ++ [u]) c2 := by
  obtain ⟨a1, a2, a3⟩ := h
  refine ⟨by rw [h0, List.length_append]; rfl, fun i hi => ?_, ?_⟩
  · rw [List.length_append] at hi
    simp only [List.length_cons, List.length_nil] at hi
    rcases Nat.lt_or_ge i us.length with q | q
    · rw [hf (i + 1) (by unfold mdp; omega) (by omega) (by omega), a2 i q, List.take_append_of_le_length (by omega)]
    · obtain rfl : i = us.length := by omega
      rw [h1, List.take_append_of_le_length (Nat.le_refl _), List.take_of_length_le (Nat.le_refl _)]
  · rw [flU_app]
    refine hd_app.mpr ⟨hd_mono a3 (fun j h1 h2 => hf j (by unfold mdp; omega) (by omega) (by omega)), hh⟩
theorem mdp_add (us : List sp_U) (u : sp_U) : mdp us + (enU u).length = mdp (us ++ [u]) := by
  unfold mdp
  rw [flU_app, List.length_append]
  omega
theorem mdp_ge (us : List sp_U) : 7 ≤ mdp us := by unfold mdp; omega
theorem enF_flat {K : Nat → Nat} {V : Nat → Int32} {M : Nat} (h0 : K M = 0) (p0 : Nat) : ∀ (m a p : Nat) (es : List sp_F), a ≤ M → p ≤ 80 → p0 ≤ p → (es.flatMap enF).length ≤ 4 * (p - p0) → (sp_effs K V m a p es).1 = true → ((sp_effs K V m a p es).2.2.2.flatMap enF).length ≤ 4 * ((sp_effs K V m a p es).2.2.1 - p0) ∧ p < (sp_effs K V m a p es).2.2.1 := by
  intro m
  induction m with
  | zero => intro a p es _ _ _ _ h; cases h
  | succ m ih =>
    intro a p es ha hp hp0 hL h
    obtain ⟨i1, i2⟩ := sp_snd_eff (V := V) h0 ha hp
    unfold sp_effs at h ⊢
    by_cases hx : (sp_eff K V a p).1 = true
    · rw [if_pos hx] at h ⊢
      have hl := enF_len (V := V) h0 ha hp hx
      obtain ⟨j1, j2, j3⟩ := i2 hx
      have hLn : ((es ++ [(sp_eff K V a p).2.2.2]).flatMap enF).length ≤ 4 * ((sp_eff K V a p).2.2.1 - p0) := by
        rw [flF_app, List.length_append]
        omega
      by_cases k5 : K (sp_eff K V a p).2.1 = 18
      · rw [if_pos k5] at h ⊢
        have := ih ((sp_eff K V a p).2.1 + 1) (sp_eff K V a p).2.2.1 (es ++ [(sp_eff K V a p).2.2.2]) (sp_lt h0 i1 k5 (by decide)) j2 (by omega) hLn h
        exact ⟨this.1, by omega⟩
      · rw [if_neg k5] at h ⊢
        exact ⟨hLn, j1⟩
    · rw [if_neg hx] at h
      cases h
theorem enU_len {K : Nat → Nat} {V : Nat → Int32} {M : Nat} (h0 : K M = 0) {a p : Nat} (ha : a ≤ M) (hp : p ≤ 80) (h : (sp_rule K V a p).1 = true) : (enU (sp_rule K V a p).2.2.2).length ≤ 6 * ((sp_rule K V a p).2.2.1 - p) := by
  unfold sp_rule at h ⊢
  by_cases k2 : K a = 2
  · rw [if_pos k2] at h ⊢
    have l2 := sp_lt h0 ha k2 (by decide)
    by_cases hx : (sp_test K V 80 (a + 1) p []).1 = true
    · rw [if_pos hx] at h ⊢
      obtain ⟨i1, i2⟩ := sp_snd_test (V := V) h0 p 80 (a + 1) p [] l2 hp (Nat.le_refl _) (Nat.zero_le _)
      obtain ⟨j1, j2, j3⟩ := i2 hx
      have h1 := enC_flat (V := V) h0 p 80 (a + 1) p [] l2 hp (Nat.le_refl _) (Nat.zero_le _) hx
      have h2 := enF_flat (V := V) h0 _ 8 _ _ [] i1 j2 (Nat.le_refl _) (Nat.zero_le _) h
      unfold enU
      simp only [List.length_append, List.length_cons, List.length_nil]
      omega
    · rw [if_neg hx] at h
      cases h
  · rw [if_neg k2] at h ⊢
    have h2 := enF_flat (V := V) h0 _ 8 _ _ [] ha hp (Nat.le_refl _) (Nat.zero_le _) h
    unfold enU
    simp only [List.length_append, List.length_cons, List.length_nil, List.flatMap_nil]
    omega

theorem md_copy {us : List sp_U} {c : Nat → Int32} (h : md_is us c) (h6 : us.length ≤ 6) : md_is us (va_cpy c (fun _ => 0) 0 0 (mdp us)) := by
  have hg := mdp_ge us
  have e : ∀ j, j < mdp us → va_cpy c (fun _ => 0) 0 0 (mdp us) j = c j := fun j hj => by
    rw [pk_cpy_in (Nat.zero_le _) (by omega)]
    simp
  obtain ⟨a1, a2, a3⟩ := h
  refine ⟨by rw [e 0 (by omega), a1], fun i hi => by rw [e (i + 1) (by omega), a2 i hi], hd_mono a3 (fun j h1 h2 => e j (by unfold mdp; omega))⟩

set_option maxRecDepth 100000 in
set_option maxHeartbeats 4000000 in
theorem l_mprog_0 {x0 x1 x2 x3 x4 x5 x6 x7 x8 x9 x10 x11 x12 x13 x14 x15 x16 x17 x18 x19 x20 x21 x22 x23 x26 x28 x29 x30 x31 : va_E} {ru pcv : Int32} {lt : Value} {f : Nat → Int32} {n : Nat} {M : Nat} (hn : n ≤ 400) (h0 : sp_K f n M = 0) : ∀ (m t p : Nat) (nu : Int64) (us w : List sp_U) (cd : Nat → Int32), us.length + m = 6 → t ≤ M → p ≤ 80 → mdp us ≤ 6 * p + 7 → md_is us cd → (sp_K f n t = 9 → nu = (sp_V f n t).toInt64) → rr_A R_Mo c_Mo_program 2 (some .int) (false, none) { frames := 32, cells := 1, slots := 1600, locals := 32 * 64 } (fun r h1 => ∃ (at2 sz2 kd2 fr2 to2 fa2 pa2 my2 : Int32) (nu2 : Int64) (cd2 : Nat → Int32), if (if sp_K f n t = 0 then (true, t, us) else if sp_K f n t = 4 then sp_prog (sp_K f n) (sp_V f n) m (t + 1) p us else (false, t, w)).1 = true then ∃ c2 : Nat → Int32, r = some (.int (-2)) ∧ h1 = x0 :: x1 :: x2 :: x3 :: x4 :: x5 :: x6 :: x7 :: x8 :: x9 :: x10 :: x11 :: x12 :: x13 :: x14 :: x15 :: x16 :: x17 :: x18 :: x19 :: x20 :: x21 :: x22 :: x23 :: .inr (6, [.ref 25, .int 0, (.ref 32), .ref 26, .int ru, .int at2, .int sz2, .int kd2, .int fr2, .int to2, .int fa2, .int pa2, .long nu2, .ref 27, .int my2, .ref 28, .ref 29, .ref 30, .ref 31, .int pcv]) :: .inl (1, 400, .inl f) :: x26 :: .inl (0, 1600, .inl (cd2)) :: x28 :: x29 :: x30 :: x31 :: .inl (0, mdp (if sp_K f n t = 0 then (true, t, us) else if sp_K f n t = 4 then sp_prog (sp_K f n) (sp_V f n) m (t + 1) p us else (false, t, w)).2.2, .inl c2) :: [] ∧ md_is (if sp_K f n t = 0 then (true, t, us) else if sp_K f n t = 4 then sp_prog (sp_K f n) (sp_V f n) m (t + 1) p us else (false, t, w)).2.2 c2 else r = some (.int (nI (sp_T f n (if sp_K f n t = 0 then (true, t, us) else if sp_K f n t = 4 then sp_prog (sp_K f n) (sp_V f n) m (t + 1) p us else (false, t, w)).2.1).2.2.1)) ∧ h1 = x0 :: x1 :: x2 :: x3 :: x4 :: x5 :: x6 :: x7 :: x8 :: x9 :: x10 :: x11 :: x12 :: x13 :: x14 :: x15 :: x16 :: x17 :: x18 :: x19 :: x20 :: x21 :: x22 :: x23 :: .inr (6, [.ref 25, .int 0, lt, .ref 26, .int ru, .int at2, .int sz2, .int kd2, .int fr2, .int to2, .int fa2, .int pa2, .long nu2, .ref 27, .int my2, .ref 28, .ref 29, .ref 30, .ref 31, .int pcv]) :: .inl (1, 400, .inl f) :: x26 :: .inl (0, 1600, .inl (cd2)) :: x28 :: x29 :: x30 :: x31 :: []) 0 0 50 [(1, .int 1), (0, .ref 24)] [] (x0 :: x1 :: x2 :: x3 :: x4 :: x5 :: x6 :: x7 :: x8 :: x9 :: x10 :: x11 :: x12 :: x13 :: x14 :: x15 :: x16 :: x17 :: x18 :: x19 :: x20 :: x21 :: x22 :: x23 :: .inr (6, [.ref 25, .int 0, lt, .ref 26, .int ru, .int (nI (sp_T f n t).2.2.2), .int (nI n), .int (nI (mk (sp_T f n t).1)), .int (nI (sp_T f n t).2.2.1), .int (nI (sp_T f n t).2.2.2), .int (-1), .int (nI p), .long nu, .ref 27, .int (nI (mdp us)), .ref 28, .ref 29, .ref 30, .ref 31, .int pcv]) :: .inl (1, 400, .inl f) :: x26 :: .inl (0, 1600, .inl (cd)) :: x28 :: x29 :: x30 :: x31 :: []) := by
  have bad : ∀ (P : Bool × Nat × List sp_U) (g0 : Int32) (t2 : Nat) (nu2 : Int64) (pa2 my2 : Int32) (cd2 : Nat → Int32), P.1 = false → P.2.1 = t2 → rr_A R_Mo c_Mo_program 2 (some .int) (false, none) { frames := 32, cells := 1, slots := 1600, locals := 32 * 64 } (fun r h1 => ∃ (at2 sz2 kd2 fr2 to2 fa2 pa2 my2 : Int32) (nu2 : Int64) (cd2 : Nat → Int32), if (P).1 = true then ∃ c2 : Nat → Int32, r = some (.int (-2)) ∧ h1 = x0 :: x1 :: x2 :: x3 :: x4 :: x5 :: x6 :: x7 :: x8 :: x9 :: x10 :: x11 :: x12 :: x13 :: x14 :: x15 :: x16 :: x17 :: x18 :: x19 :: x20 :: x21 :: x22 :: x23 :: .inr (6, [.ref 25, .int 0, (.ref 32), .ref 26, .int ru, .int at2, .int sz2, .int kd2, .int fr2, .int to2, .int fa2, .int pa2, .long nu2, .ref 27, .int my2, .ref 28, .ref 29, .ref 30, .ref 31, .int pcv]) :: .inl (1, 400, .inl f) :: x26 :: .inl (0, 1600, .inl (cd2)) :: x28 :: x29 :: x30 :: x31 :: .inl (0, mdp (P).2.2, .inl c2) :: [] ∧ md_is (P).2.2 c2 else r = some (.int (nI (sp_T f n (P).2.1).2.2.1)) ∧ h1 = x0 :: x1 :: x2 :: x3 :: x4 :: x5 :: x6 :: x7 :: x8 :: x9 :: x10 :: x11 :: x12 :: x13 :: x14 :: x15 :: x16 :: x17 :: x18 :: x19 :: x20 :: x21 :: x22 :: x23 :: .inr (6, [.ref 25, .int 0, lt, .ref 26, .int ru, .int at2, .int sz2, .int kd2, .int fr2, .int to2, .int fa2, .int pa2, .long nu2, .ref 27, .int my2, .ref 28, .ref 29, .ref 30, .ref 31, .int pcv]) :: .inl (1, 400, .inl f) :: x26 :: .inl (0, 1600, .inl (cd2)) :: x28 :: x29 :: x30 :: x31 :: []) 0 0 91 [(1, .int g0), (0, .ref 24)] [] (x0 :: x1 :: x2 :: x3 :: x4 :: x5 :: x6 :: x7 :: x8 :: x9 :: x10 :: x11 :: x12 :: x13 :: x14 :: x15 :: x16 :: x17 :: x18 :: x19 :: x20 :: x21 :: x22 :: x23 :: .inr (6, [.ref 25, .int 0, lt, .ref 26, .int ru, .int (nI (sp_T f n t2).2.2.2), .int (nI n), .int (nI (mk (sp_T f n t2).1)), .int (nI (sp_T f n t2).2.2.1), .int (nI (sp_T f n t2).2.2.2), .int (nI (sp_T f n t2).2.2.1), .int pa2, .long nu2, .ref 27, .int my2, .ref 28, .ref 29, .ref 30, .ref 31, .int pcv]) :: .inl (1, 400, .inl f) :: x26 :: .inl (0, 1600, .inl (cd2)) :: x28 :: x29 :: x30 :: x31 :: []) := by
    intro P g0 t2 nu2 pa2 my2 cd2 hP1 hP2
    have hpl := sp_T_pl (f := f) (n := n) (k := t2)
    refine rr_aload_n d_Mo_program_91 rfl rfl ?_
    refine rr_getf d_Mo_program_92 fl_Mo_110 rfl rfl ?_
    refine rr_if_lt 103 d_Mo_program_95 (by decide) (fun c9 => absurd c9 (nI_pos (by omega))) (fun _ => ?_)
    refine rr_aload_n d_Mo_program_98 rfl rfl ?_
    refine rr_getf d_Mo_program_99 fl_Mo_110 rfl rfl ?_
    exact rr_ireturn d_Mo_program_102 rfl rfl (Nat.le_of_ble_eq_true rfl) (Nat.le_of_ble_eq_true rfl) (⟨_, _, _, _, _, _, _, _, _, _, by rw [if_neg (by rw [hP1]; decide), hP2]; exact ⟨rfl, rfl⟩⟩)
  intro m
  induction m with
  | zero =>
    intro t p nu us w cd hm htM hp hy hmd h9
    refine rr_iload_n d_Mo_program_50 rfl rfl ?_
    refine rr_if_eq 75 d_Mo_program_51 (by decide) (fun c9 => absurd c9 (by decide)) (fun _ => ?_)
    refine rr_aload_n d_Mo_program_54 rfl rfl ?_
    refine rr_ldcS d_Mo_program_55 sl_Mo_67 ?_
    by_cases k4 : sp_K f n t = 4
    · have k0 : ¬ sp_K f n t = 0 := by rw [k4]; decide
      simp only [if_neg k0, if_pos k4]
      have l4 := sp_lt h0 htM k4 (by decide)
      refine rr_callV d_Mo_program_57 il_Mo_61 m_Mo_is (u_is_t 2 (by decide) hn k4) rfl rfl rfl rfl (Nat.le_of_ble_eq_true rfl) (Nat.le_of_ble_eq_true rfl) (Nat.le_of_ble_eq_true rfl) (Nat.le_of_ble_eq_true rfl) (Nat.le_of_ble_eq_true rfl) (fun rv9 hp9 hq => ?_)
      obtain ⟨rfl, rfl⟩ := hq
      refine rr_if_eq 75 d_Mo_program_60 (by decide) (fun c9 => absurd c9 (by decide)) (fun _ => ?_)
      refine rr_aload_n d_Mo_program_63 rfl rfl ?_
      refine rr_callV d_Mo_program_64 il_Mo_117 m_Mo_step (t_step hn) rfl rfl rfl rfl (Nat.le_of_ble_eq_true rfl) (Nat.le_of_ble_eq_true rfl) (Nat.le_of_ble_eq_true rfl) (Nat.le_of_ble_eq_true rfl) (Nat.le_of_ble_eq_true rfl) (fun rv9 hp9 hq => ?_)
      obtain ⟨rfl, nu2, h92, rfl⟩ := hq
      refine rr_aload_n d_Mo_program_67 rfl rfl ?_
      refine rr_callV d_Mo_program_68 il_Mo_126 m_Mo_rule (u_rule6 (by rw [hmd.1, show us.length = 6 by omega]; rfl)) rfl rfl rfl rfl (Nat.le_of_ble_eq_true rfl) (Nat.le_of_ble_eq_true rfl) (Nat.le_of_ble_eq_true rfl) (Nat.le_of_ble_eq_true rfl) (Nat.le_of_ble_eq_true rfl) (fun rv9 hp9 hq => ?_)
      obtain ⟨rfl, rfl⟩ := hq
      refine rr_istore_n d_Mo_program_71 rfl (by decide) ?_
      refine rr_goto 50 d_Mo_program_72 (by decide) ?_
      refine rr_iload_n d_Mo_program_50 rfl rfl ?_
      refine rr_if_eq 75 d_Mo_program_51 (by decide) (fun _ => ?_) (fun c9 => absurd (rfl) c9)
      refine rr_iload_n d_Mo_program_75 rfl rfl ?_
      refine rr_if_eq 91 d_Mo_program_76 (by decide) (fun _ => ?_) (fun c9 => absurd (rfl) c9)
      exact rr_lvs _ rfl (bad (false, t + 1, us) 0 (t + 1) _ _ _ _ rfl rfl)
    · skip
      refine rr_callV d_Mo_program_57 il_Mo_61 m_Mo_is (u_is_f 2 (by decide) hn k4) rfl rfl rfl rfl (Nat.le_of_ble_eq_true rfl) (Nat.le_of_ble_eq_true rfl) (Nat.le_of_ble_eq_true rfl) (Nat.le_of_ble_eq_true rfl) (Nat.le_of_ble_eq_true rfl) (fun rv9 hp9 hq => ?_)
      obtain ⟨rfl, rfl⟩ := hq
      refine rr_if_eq 75 d_Mo_program_60 (by decide) (fun _ => ?_) (fun c9 => absurd (rfl) c9)
      refine rr_iload_n d_Mo_program_75 rfl rfl ?_
      refine rr_if_eq 91 d_Mo_program_76 (by decide) (fun c9 => absurd c9 (by decide)) (fun _ => ?_)
      refine rr_aload_n d_Mo_program_79 rfl rfl ?_
      refine rr_getf d_Mo_program_80 fl_Mo_49 rfl rfl ?_
      by_cases k0 : sp_K f n t = 0
      · simp only [if_pos k0]
        refine rr_if_eq 91 d_Mo_program_83 (by decide) (fun _ => ?_) (fun c9 => absurd (mk_0.mpr k0) c9)
        refine rr_aload_n d_Mo_program_91 rfl rfl ?_
        refine rr_getf d_Mo_program_92 fl_Mo_110 rfl rfl ?_
        refine rr_if_lt 103 d_Mo_program_95 (by decide) (fun _ => ?_) (fun c9 => absurd (by decide) c9)
        refine rr_aload_n d_Mo_program_103 rfl rfl ?_
        refine rr_aload_n d_Mo_program_104 rfl rfl ?_
        refine rr_getf d_Mo_program_105 fl_Mo_17 rfl rfl ?_
        refine rr_aload_n d_Mo_program_108 rfl rfl ?_
        refine rr_getf d_Mo_program_109 fl_Mo_120 rfl rfl ?_
        refine rr_callS d_Mo_program_112 il_Mo_129 m_Ar_copyOf (s_Ar_copyOf_0 (y := mdp us) (by omega)) rfl rfl (Nat.le_of_ble_eq_true rfl) (Nat.le_of_ble_eq_true rfl) (Nat.le_of_ble_eq_true rfl) (Nat.le_of_ble_eq_true rfl) (Nat.le_of_ble_eq_true rfl) (fun rv9 hp9 hq => ?_)
        obtain ⟨rfl, rfl⟩ := hq
        refine rr_putf d_Mo_program_115 fl_Mo_135 rfl rfl rfl rfl ?_
        refine rr_bipush (-2) d_Mo_program_118 rfl ?_
        exact rr_ireturn d_Mo_program_120 rfl rfl (Nat.le_of_ble_eq_true rfl) (Nat.le_of_ble_eq_true rfl) (⟨_, _, _, _, _, _, _, _, _, _, Eq.mpr (if_pos (by first | rfl | trivial)) ⟨_, rfl, rfl, md_copy hmd (by omega)⟩⟩)
      · simp only [if_neg k0, if_neg k4]
        refine rr_if_eq 91 d_Mo_program_83 (by decide) (fun c9 => absurd c9 (fun z => k0 (mk_0.mp z))) (fun _ => ?_)
        refine rr_aload_n d_Mo_program_86 rfl rfl ?_
        refine rr_callV d_Mo_program_87 il_Mo_113 m_Mo_bad (t_bad) rfl rfl rfl rfl (Nat.le_of_ble_eq_true rfl) (Nat.le_of_ble_eq_true rfl) (Nat.le_of_ble_eq_true rfl) (Nat.le_of_ble_eq_true rfl) (Nat.le_of_ble_eq_true rfl) (fun rv9 hp9 hq => ?_)
        obtain ⟨rfl, rfl⟩ := hq
        refine rr_pop d_Mo_program_90 rfl ?_
        exact rr_lvs _ rfl (bad (false, t, w) 1 t _ _ _ _ rfl rfl)
  | succ m ih =>
    intro t p nu us w cd hm htM hp hy hmd h9
    refine rr_iload_n d_Mo_program_50 rfl rfl ?_
    refine rr_if_eq 75 d_Mo_program_51 (by decide) (fun c9 => absurd c9 (by decide)) (fun _ => ?_)
    refine rr_aload_n d_Mo_program_54 rfl rfl ?_
    refine rr_ldcS d_Mo_program_55 sl_Mo_67 ?_
    by_cases k4 : sp_K f n t = 4
    · have k0 : ¬ sp_K f n t = 0 := by rw [k4]; decide
      simp only [if_neg k0, if_pos k4]
      have l4 := sp_lt h0 htM k4 (by decide)
      refine rr_callV d_Mo_program_57 il_Mo_61 m_Mo_is (u_is_t 2 (by decide) hn k4) rfl rfl rfl rfl (Nat.le_of_ble_eq_true rfl) (Nat.le_of_ble_eq_true rfl) (Nat.le_of_ble_eq_true rfl) (Nat.le_of_ble_eq_true rfl) (Nat.le_of_ble_eq_true rfl) (fun rv9 hp9 hq => ?_)
      obtain ⟨rfl, rfl⟩ := hq
      refine rr_if_eq 75 d_Mo_program_60 (by decide) (fun c9 => absurd c9 (by decide)) (fun _ => ?_)
      refine rr_aload_n d_Mo_program_63 rfl rfl ?_
      refine rr_callV d_Mo_program_64 il_Mo_117 m_Mo_step (t_step hn) rfl rfl rfl rfl (Nat.le_of_ble_eq_true rfl) (Nat.le_of_ble_eq_true rfl) (Nat.le_of_ble_eq_true rfl) (Nat.le_of_ble_eq_true rfl) (Nat.le_of_ble_eq_true rfl) (fun rv9 hp9 hq => ?_)
      obtain ⟨rfl, nu2, h92, rfl⟩ := hq
      refine rr_aload_n d_Mo_program_67 rfl rfl ?_
      have g7 := mdp_ge us
      refine rr_callV d_Mo_program_68 il_Mo_126 m_Mo_rule (u_rule (t := t + 1) hn h0 l4 hp g7 hy (k := us.length) (by omega) hmd.1 h92) rfl rfl rfl rfl (Nat.le_of_ble_eq_true rfl) (Nat.le_of_ble_eq_true rfl) (Nat.le_of_ble_eq_true rfl) (Nat.le_of_ble_eq_true rfl) (Nat.le_of_ble_eq_true rfl) (fun rv9 hp9 hq => ?_)
      obtain ⟨nu3, pa3, y3, cd3, rfl, rfl, h93, hok⟩ := hq
      refine rr_istore_n d_Mo_program_71 rfl (by decide) ?_
      refine rr_goto 50 d_Mo_program_72 (by decide) ?_
      obtain ⟨i1, i2⟩ := sp_snd_rule (a := t + 1) (V := sp_V f n) h0 l4 hp
      unfold sp_prog
      by_cases hx : (sp_rule (sp_K f n) (sp_V f n) (t + 1) p).1 = true
      · simp only [if_pos hx]
        rw [hx]
        obtain ⟨rfl, rfl, q1, q2, q3, q4⟩ := hok hx
        obtain ⟨j1, j2, j3⟩ := i2 hx
        have hl := enU_len (a := t + 1) (V := sp_V f n) h0 l4 hp hx
        rw [mdp_add]
        exact rr_lvs _ rfl (ih _ _ nu3 _ us cd3 (by simp; omega) i1 j2 (by rw [← mdp_add]; omega) (md_add hmd (by omega) q1 q2 q3 q4) h93)
      · simp only [if_neg hx]
        rw [(Bool.not_eq_true _).mp hx]
        refine rr_iload_n d_Mo_program_50 rfl rfl ?_
        refine rr_if_eq 75 d_Mo_program_51 (by decide) (fun _ => ?_) (fun c9 => absurd (rfl) c9)
        refine rr_iload_n d_Mo_program_75 rfl rfl ?_
        refine rr_if_eq 91 d_Mo_program_76 (by decide) (fun _ => ?_) (fun c9 => absurd (rfl) c9)
        exact rr_lvs _ rfl (bad (false, (sp_rule (sp_K f n) (sp_V f n) (t + 1) p).2.1, us) 0 (sp_rule (sp_K f n) (sp_V f n) (t + 1) p).2.1 _ _ _ _ rfl rfl)
    · skip
      refine rr_callV d_Mo_program_57 il_Mo_61 m_Mo_is (u_is_f 2 (by decide) hn k4) rfl rfl rfl rfl (Nat.le_of_ble_eq_true rfl) (Nat.le_of_ble_eq_true rfl) (Nat.le_of_ble_eq_true rfl) (Nat.le_of_ble_eq_true rfl) (Nat.le_of_ble_eq_true rfl) (fun rv9 hp9 hq => ?_)
      obtain ⟨rfl, rfl⟩ := hq
      refine rr_if_eq 75 d_Mo_program_60 (by decide) (fun _ => ?_) (fun c9 => absurd (rfl) c9)
      refine rr_iload_n d_Mo_program_75 rfl rfl ?_
      refine rr_if_eq 91 d_Mo_program_76 (by decide) (fun c9 => absurd c9 (by decide)) (fun _ => ?_)
      refine rr_aload_n d_Mo_program_79 rfl rfl ?_
      refine rr_getf d_Mo_program_80 fl_Mo_49 rfl rfl ?_
      by_cases k0 : sp_K f n t = 0
      · simp only [if_pos k0]
        refine rr_if_eq 91 d_Mo_program_83 (by decide) (fun _ => ?_) (fun c9 => absurd (mk_0.mpr k0) c9)
        refine rr_aload_n d_Mo_program_91 rfl rfl ?_
        refine rr_getf d_Mo_program_92 fl_Mo_110 rfl rfl ?_
        refine rr_if_lt 103 d_Mo_program_95 (by decide) (fun _ => ?_) (fun c9 => absurd (by decide) c9)
        refine rr_aload_n d_Mo_program_103 rfl rfl ?_
        refine rr_aload_n d_Mo_program_104 rfl rfl ?_
        refine rr_getf d_Mo_program_105 fl_Mo_17 rfl rfl ?_
        refine rr_aload_n d_Mo_program_108 rfl rfl ?_
        refine rr_getf d_Mo_program_109 fl_Mo_120 rfl rfl ?_
        refine rr_callS d_Mo_program_112 il_Mo_129 m_Ar_copyOf (s_Ar_copyOf_0 (y := mdp us) (by omega)) rfl rfl (Nat.le_of_ble_eq_true rfl) (Nat.le_of_ble_eq_true rfl) (Nat.le_of_ble_eq_true rfl) (Nat.le_of_ble_eq_true rfl) (Nat.le_of_ble_eq_true rfl) (fun rv9 hp9 hq => ?_)
        obtain ⟨rfl, rfl⟩ := hq
        refine rr_putf d_Mo_program_115 fl_Mo_135 rfl rfl rfl rfl ?_
        refine rr_bipush (-2) d_Mo_program_118 rfl ?_
        exact rr_ireturn d_Mo_program_120 rfl rfl (Nat.le_of_ble_eq_true rfl) (Nat.le_of_ble_eq_true rfl) (⟨_, _, _, _, _, _, _, _, _, _, Eq.mpr (if_pos (by first | rfl | trivial)) ⟨_, rfl, rfl, md_copy hmd (by omega)⟩⟩)
      · simp only [if_neg k0, if_neg k4]
        refine rr_if_eq 91 d_Mo_program_83 (by decide) (fun c9 => absurd c9 (fun z => k0 (mk_0.mp z))) (fun _ => ?_)
        refine rr_aload_n d_Mo_program_86 rfl rfl ?_
        refine rr_callV d_Mo_program_87 il_Mo_113 m_Mo_bad (t_bad) rfl rfl rfl rfl (Nat.le_of_ble_eq_true rfl) (Nat.le_of_ble_eq_true rfl) (Nat.le_of_ble_eq_true rfl) (Nat.le_of_ble_eq_true rfl) (Nat.le_of_ble_eq_true rfl) (fun rv9 hp9 hq => ?_)
        obtain ⟨rfl, rfl⟩ := hq
        refine rr_pop d_Mo_program_90 rfl ?_
        exact rr_lvs _ rfl (bad (false, t, w) 1 t _ _ _ _ rfl rfl)

set_option maxRecDepth 100000 in
set_option maxHeartbeats 4000000 in
theorem s_Mo_program_0 {x0 x1 x2 x3 x4 x5 x6 x7 x8 x9 x10 x11 x12 x13 x14 x15 x16 x17 x18 x19 x20 x21 x22 x23 x26 x28 x29 x30 x31 : va_E} {ru pcv : Int32} {lt : Value} {f : Nat → Int32} {n : Nat} {at0 sz kd0 fr0 to0 fa pa my : Int32} {nu : Int64} {cd : Nat → Int32} (hn : n ≤ 400) : rr_Spec 32 y_Mo_program c_Mo_program 2 (some .int) 1 1600 [.ref 24] (x0 :: x1 :: x2 :: x3 :: x4 :: x5 :: x6 :: x7 :: x8 :: x9 :: x10 :: x11 :: x12 :: x13 :: x14 :: x15 :: x16 :: x17 :: x18 :: x19 :: x20 :: x21 :: x22 :: x23 :: .inr (6, [.ref 25, .int (nI n), lt, .ref 26, .int ru, .int at0, .int sz, .int kd0, .int fr0, .int to0, .int fa, .int pa, .long nu, .ref 27, .int my, .ref 28, .ref 29, .ref 30, .ref 31, .int pcv]) :: .inl (1, 400, .inl f) :: x26 :: .inl (0, 1600, .inl (cd)) :: x28 :: x29 :: x30 :: x31 :: []) (fun r h1 => ∃ (at2 sz2 kd2 fr2 to2 fa2 pa2 my2 : Int32) (nu2 : Int64) (cd2 : Nat → Int32), if (sp_pr f n).1 = true then ∃ c2 : Nat → Int32, r = some (.int (-2)) ∧ h1 = x0 :: x1 :: x2 :: x3 :: x4 :: x5 :: x6 :: x7 :: x8 :: x9 :: x10 :: x11 :: x12 :: x13 :: x14 :: x15 :: x16 :: x17 :: x18 :: x19 :: x20 :: x21 :: x22 :: x23 :: .inr (6, [.ref 25, .int 0, (.ref 32), .ref 26, .int ru, .int at2, .int sz2, .int kd2, .int fr2, .int to2, .int fa2, .int pa2, .long nu2, .ref 27, .int my2, .ref 28, .ref 29, .ref 30, .ref 31, .int pcv]) :: .inl (1, 400, .inl f) :: x26 :: .inl (0, 1600, .inl (cd2)) :: x28 :: x29 :: x30 :: x31 :: .inl (0, mdp (sp_pr f n).2.2, .inl c2) :: [] ∧ md_is (sp_pr f n).2.2 c2 else r = some (.int (nI (sp_T f n (sp_pr f n).2.1).2.2.1)) ∧ h1 = x0 :: x1 :: x2 :: x3 :: x4 :: x5 :: x6 :: x7 :: x8 :: x9 :: x10 :: x11 :: x12 :: x13 :: x14 :: x15 :: x16 :: x17 :: x18 :: x19 :: x20 :: x21 :: x22 :: x23 :: .inr (6, [.ref 25, .int 0, lt, .ref 26, .int ru, .int at2, .int sz2, .int kd2, .int fr2, .int to2, .int fa2, .int pa2, .long nu2, .ref 27, .int my2, .ref 28, .ref 29, .ref 30, .ref 31, .int pcv]) :: .inl (1, 400, .inl f) :: x26 :: .inl (0, 1600, .inl (cd2)) :: x28 :: x29 :: x30 :: x31 :: []) := by
  obtain ⟨M, h0⟩ := ex_M f n
  refine rr_met (own := R_Mo) (kd := (false, none)) (by decide +kernel) rfl (fun h => by cases h) rfl (Nat.le_of_ble_eq_true rfl) ?_
  refine rr_aload_n d_Mo_program_0 rfl rfl ?_
  refine rr_aload_n d_Mo_program_1 rfl rfl ?_
  refine rr_getf d_Mo_program_2 fl_Mo_32 rfl rfl ?_
  refine rr_putf d_Mo_program_5 fl_Mo_43 rfl rfl rfl rfl ?_
  refine rr_aload_n d_Mo_program_8 rfl rfl ?_
  refine rr_iconst 0 d_Mo_program_9 rfl ?_
  refine rr_putf d_Mo_program_10 fl_Mo_32 rfl rfl rfl rfl ?_
  refine rr_aload_n d_Mo_program_13 rfl rfl ?_
  refine rr_iconst 0 d_Mo_program_14 rfl ?_
  refine rr_putf d_Mo_program_15 fl_Mo_40 rfl rfl rfl rfl ?_
  refine rr_aload_n d_Mo_program_18 rfl rfl ?_
  refine rr_iconst (-1) d_Mo_program_19 rfl ?_
  refine rr_putf d_Mo_program_20 fl_Mo_110 rfl rfl rfl rfl ?_
  refine rr_aload_n d_Mo_program_23 rfl rfl ?_
  refine rr_iconst 0 d_Mo_program_24 rfl ?_
  refine rr_putf d_Mo_program_25 fl_Mo_123 rfl rfl rfl rfl ?_
  refine rr_aload_n d_Mo_program_28 rfl rfl ?_
  refine rr_bipush 7 d_Mo_program_29 rfl ?_
  refine rr_putf d_Mo_program_31 fl_Mo_120 rfl rfl rfl rfl ?_
  refine rr_aload_n d_Mo_program_34 rfl rfl ?_
  refine rr_getf d_Mo_program_35 fl_Mo_17 rfl rfl ?_
  refine rr_iconst 0 d_Mo_program_38 rfl ?_
  refine rr_iconst 0 d_Mo_program_39 rfl ?_
  refine rr_iast d_Mo_program_40 rfl (vp_in_nI (n := 0) (N := 1600) (by decide) (by decide)) ?_
  refine rr_aload_n d_Mo_program_41 rfl rfl ?_
  rw [sb_cl0]
  refine rr_callV d_Mo_program_42 il_Mo_117 m_Mo_step (t_first hn) rfl rfl rfl rfl (Nat.le_of_ble_eq_true rfl) (Nat.le_of_ble_eq_true rfl) (Nat.le_of_ble_eq_true rfl) (Nat.le_of_ble_eq_true rfl) (Nat.le_of_ble_eq_true rfl) (fun rv9 hp9 hq => ?_)
  obtain ⟨rfl, nu2, h92, rfl⟩ := hq
  refine rr_aload_n d_Mo_program_45 rfl rfl ?_
  refine rr_callV d_Mo_program_46 il_Mo_126 m_Mo_rule (u_rule (t := 0) (p := 0) (y := 7) hn h0 (Nat.zero_le _) (by decide) (by decide) (by decide) (k := 0) (by decide) (by rw [pk_us]; rfl) h92) rfl rfl rfl rfl (Nat.le_of_ble_eq_true rfl) (Nat.le_of_ble_eq_true rfl) (Nat.le_of_ble_eq_true rfl) (Nat.le_of_ble_eq_true rfl) (Nat.le_of_ble_eq_true rfl) (fun rv9 hp9 hq => ?_)
  obtain ⟨nu3, pa3, y3, cd3, rfl, rfl, h93, hok⟩ := hq
  refine rr_istore_n d_Mo_program_49 rfl (by decide) ?_
  obtain ⟨i1, i2⟩ := sp_snd_rule (a := 0) (p := 0) (V := sp_V f n) h0 (Nat.zero_le _) (by decide)
  unfold sp_pr sp_prog
  by_cases hx : (sp_rule (sp_K f n) (sp_V f n) 0 0).1 = true
  · simp only [if_pos hx]
    rw [hx]
    obtain ⟨rfl, rfl, q1, q2, q3, q4⟩ := hok hx
    obtain ⟨j1, j2, j3⟩ := i2 hx
    have hl := enU_len (a := 0) (p := 0) (V := sp_V f n) h0 (Nat.zero_le _) (by decide) hx
    have e7 : 7 + (enU (sp_rule (sp_K f n) (sp_V f n) 0 0).2.2.2).length = mdp ([] ++ [(sp_rule (sp_K f n) (sp_V f n) 0 0).2.2.2]) := mdp_add [] _
    rw [e7]
    refine rr_lvs [(1, .int 1), (0, .ref 24)] rfl (l_mprog_0 hn h0 5 _ _ nu3 ([] ++ [(sp_rule (sp_K f n) (sp_V f n) 0 0).2.2.2]) [] cd3 rfl i1 j2 (by rw [← e7]; omega) (md_add (c := upd cd 0 0) ⟨by rw [pk_us]; rfl, fun i hi => by simp at hi, fun k v hv => by simp at hv⟩ (by decide) q1 q2 q3 q4) h93)
  · simp only [if_neg hx]
    rw [(Bool.not_eq_true _).mp hx]
    have hpl := sp_T_pl (f := f) (n := n) (k := (sp_rule (sp_K f n) (sp_V f n) 0 0).2.1)
    refine rr_iload_n d_Mo_program_50 rfl rfl ?_
    refine rr_if_eq 75 d_Mo_program_51 (by decide) (fun _ => ?_) (fun c9 => absurd (rfl) c9)
    refine rr_iload_n d_Mo_program_75 rfl rfl ?_
    refine rr_if_eq 91 d_Mo_program_76 (by decide) (fun _ => ?_) (fun c9 => absurd (rfl) c9)
    refine rr_aload_n d_Mo_program_91 rfl rfl ?_
    refine rr_getf d_Mo_program_92 fl_Mo_110 rfl rfl ?_
    refine rr_if_lt 103 d_Mo_program_95 (by decide) (fun c9 => absurd c9 (nI_pos (by omega))) (fun _ => ?_)
    refine rr_aload_n d_Mo_program_98 rfl rfl ?_
    refine rr_getf d_Mo_program_99 fl_Mo_110 rfl rfl ?_
    exact rr_ireturn d_Mo_program_102 rfl rfl (Nat.le_of_ble_eq_true rfl) (Nat.le_of_ble_eq_true rfl) (⟨_, _, _, _, _, _, _, _, _, _, Eq.mpr (if_neg (by simp)) ⟨rfl, rfl⟩⟩)

set_option maxRecDepth 100000 in
set_option maxHeartbeats 4000000 in
theorem l_mprog_1 {x0 x1 x2 x3 x4 x5 x6 x7 x8 x9 x10 x11 x12 x13 x14 x15 x16 x17 x18 x19 x20 x21 x22 x23 x26 x28 x29 x30 x31 x32 : va_E} {ru pcv : Int32} {lt : Value} {f : Nat → Int32} {n : Nat} {M : Nat} (hn : n ≤ 400) (h0 : sp_K f n M = 0) : ∀ (m t p : Nat) (nu : Int64) (us w : List sp_U) (cd : Nat → Int32), us.length + m = 6 → t ≤ M → p ≤ 80 → mdp us ≤ 6 * p + 7 → md_is us cd → (sp_K f n t = 9 → nu = (sp_V f n t).toInt64) → rr_A R_Mo c_Mo_program 2 (some .int) (false, none) { frames := 32, cells := 1, slots := 1600, locals := 32 * 64 } (fun r h1 => ∃ (at2 sz2 kd2 fr2 to2 fa2 pa2 my2 : Int32) (nu2 : Int64) (cd2 : Nat → Int32), if (if sp_K f n t = 0 then (true, t, us) else if sp_K f n t = 4 then sp_prog (sp_K f n) (sp_V f n) m (t + 1) p us else (false, t, w)).1 = true then ∃ c2 : Nat → Int32, r = some (.int (-2)) ∧ h1 = x0 :: x1 :: x2 :: x3 :: x4 :: x5 :: x6 :: x7 :: x8 :: x9 :: x10 :: x11 :: x12 :: x13 :: x14 :: x15 :: x16 :: x17 :: x18 :: x19 :: x20 :: x21 :: x22 :: x23 :: .inr (6, [.ref 25, .int 0, (.ref 33), .ref 26, .int ru, .int at2, .int sz2, .int kd2, .int fr2, .int to2, .int fa2, .int pa2, .long nu2, .ref 27, .int my2, .ref 28, .ref 29, .ref 30, .ref 31, .int pcv]) :: .inl (1, 400, .inl f) :: x26 :: .inl (0, 1600, .inl (cd2)) :: x28 :: x29 :: x30 :: x31 :: x32 :: .inl (0, mdp (if sp_K f n t = 0 then (true, t, us) else if sp_K f n t = 4 then sp_prog (sp_K f n) (sp_V f n) m (t + 1) p us else (false, t, w)).2.2, .inl c2) :: [] ∧ md_is (if sp_K f n t = 0 then (true, t, us) else if sp_K f n t = 4 then sp_prog (sp_K f n) (sp_V f n) m (t + 1) p us else (false, t, w)).2.2 c2 else r = some (.int (nI (sp_T f n (if sp_K f n t = 0 then (true, t, us) else if sp_K f n t = 4 then sp_prog (sp_K f n) (sp_V f n) m (t + 1) p us else (false, t, w)).2.1).2.2.1)) ∧ h1 = x0 :: x1 :: x2 :: x3 :: x4 :: x5 :: x6 :: x7 :: x8 :: x9 :: x10 :: x11 :: x12 :: x13 :: x14 :: x15 :: x16 :: x17 :: x18 :: x19 :: x20 :: x21 :: x22 :: x23 :: .inr (6, [.ref 25, .int 0, lt, .ref 26, .int ru, .int at2, .int sz2, .int kd2, .int fr2, .int to2, .int fa2, .int pa2, .long nu2, .ref 27, .int my2, .ref 28, .ref 29, .ref 30, .ref 31, .int pcv]) :: .inl (1, 400, .inl f) :: x26 :: .inl (0, 1600, .inl (cd2)) :: x28 :: x29 :: x30 :: x31 :: x32 :: []) 0 0 50 [(1, .int 1), (0, .ref 24)] [] (x0 :: x1 :: x2 :: x3 :: x4 :: x5 :: x6 :: x7 :: x8 :: x9 :: x10 :: x11 :: x12 :: x13 :: x14 :: x15 :: x16 :: x17 :: x18 :: x19 :: x20 :: x21 :: x22 :: x23 :: .inr (6, [.ref 25, .int 0, lt, .ref 26, .int ru, .int (nI (sp_T f n t).2.2.2), .int (nI n), .int (nI (mk (sp_T f n t).1)), .int (nI (sp_T f n t).2.2.1), .int (nI (sp_T f n t).2.2.2), .int (-1), .int (nI p), .long nu, .ref 27, .int (nI (mdp us)), .ref 28, .ref 29, .ref 30, .ref 31, .int pcv]) :: .inl (1, 400, .inl f) :: x26 :: .inl (0, 1600, .inl (cd)) :: x28 :: x29 :: x30 :: x31 :: x32 :: []) := by
  have bad : ∀ (P : Bool × Nat × List sp_U) (g0 : Int32) (t2 : Nat) (nu2 : Int64) (pa2 my2 : Int32) (cd2 : Nat → Int32), P.1 = false → P.2.1 = t2 → rr_A R_Mo c_Mo_program 2 (some .int) (false, none) { frames := 32, cells := 1, slots := 1600, locals := 32 * 64 } (fun r h1 => ∃ (at2 sz2 kd2 fr2 to2 fa2 pa2 my2 : Int32) (nu2 : Int64) (cd2 : Nat → Int32), if (P).1 = true then ∃ c2 : Nat → Int32, r = some (.int (-2)) ∧ h1 = x0 :: x1 :: x2 :: x3 :: x4 :: x5 :: x6 :: x7 :: x8 :: x9 :: x10 :: x11 :: x12 :: x13 :: x14 :: x15 :: x16 :: x17 :: x18 :: x19 :: x20 :: x21 :: x22 :: x23 :: .inr (6, [.ref 25, .int 0, (.ref 33), .ref 26, .int ru, .int at2, .int sz2, .int kd2, .int fr2, .int to2, .int fa2, .int pa2, .long nu2, .ref 27, .int my2, .ref 28, .ref 29, .ref 30, .ref 31, .int pcv]) :: .inl (1, 400, .inl f) :: x26 :: .inl (0, 1600, .inl (cd2)) :: x28 :: x29 :: x30 :: x31 :: x32 :: .inl (0, mdp (P).2.2, .inl c2) :: [] ∧ md_is (P).2.2 c2 else r = some (.int (nI (sp_T f n (P).2.1).2.2.1)) ∧ h1 = x0 :: x1 :: x2 :: x3 :: x4 :: x5 :: x6 :: x7 :: x8 :: x9 :: x10 :: x11 :: x12 :: x13 :: x14 :: x15 :: x16 :: x17 :: x18 :: x19 :: x20 :: x21 :: x22 :: x23 :: .inr (6, [.ref 25, .int 0, lt, .ref 26, .int ru, .int at2, .int sz2, .int kd2, .int fr2, .int to2, .int fa2, .int pa2, .long nu2, .ref 27, .int my2, .ref 28, .ref 29, .ref 30, .ref 31, .int pcv]) :: .inl (1, 400, .inl f) :: x26 :: .inl (0, 1600, .inl (cd2)) :: x28 :: x29 :: x30 :: x31 :: x32 :: []) 0 0 91 [(1, .int g0), (0, .ref 24)] [] (x0 :: x1 :: x2 :: x3 :: x4 :: x5 :: x6 :: x7 :: x8 :: x9 :: x10 :: x11 :: x12 :: x13 :: x14 :: x15 :: x16 :: x17 :: x18 :: x19 :: x20 :: x21 :: x22 :: x23 :: .inr (6, [.ref 25, .int 0, lt, .ref 26, .int ru, .int (nI (sp_T f n t2).2.2.2), .int (nI n), .int (nI (mk (sp_T f n t2).1)), .int (nI (sp_T f n t2).2.2.1), .int (nI (sp_T f n t2).2.2.2), .int (nI (sp_T f n t2).2.2.1), .int pa2, .long nu2, .ref 27, .int my2, .ref 28, .ref 29, .ref 30, .ref 31, .int pcv]) :: .inl (1, 400, .inl f) :: x26 :: .inl (0, 1600, .inl (cd2)) :: x28 :: x29 :: x30 :: x31 :: x32 :: []) := by
    intro P g0 t2 nu2 pa2 my2 cd2 hP1 hP2
    have hpl := sp_T_pl (f := f) (n := n) (k := t2)
    refine rr_aload_n d_Mo_program_91 rfl rfl ?_
    refine rr_getf d_Mo_program_92 fl_Mo_110 rfl rfl ?_
    refine rr_if_lt 103 d_Mo_program_95 (by decide) (fun c9 => absurd c9 (nI_pos (by omega))) (fun _ => ?_)
    refine rr_aload_n d_Mo_program_98 rfl rfl ?_
    refine rr_getf d_Mo_program_99 fl_Mo_110 rfl rfl ?_
    exact rr_ireturn d_Mo_program_102 rfl rfl (Nat.le_of_ble_eq_true rfl) (Nat.le_of_ble_eq_true rfl) (⟨_, _, _, _, _, _, _, _, _, _, by rw [if_neg (by rw [hP1]; decide), hP2]; exact ⟨rfl, rfl⟩⟩)
  intro m
  induction m with
  | zero =>
    intro t p nu us w cd hm htM hp hy hmd h9
    refine rr_iload_n d_Mo_program_50 rfl rfl ?_
    refine rr_if_eq 75 d_Mo_program_51 (by decide) (fun c9 => absurd c9 (by decide)) (fun _ => ?_)
    refine rr_aload_n d_Mo_program_54 rfl rfl ?_
    refine rr_ldcS d_Mo_program_55 sl_Mo_67 ?_
    by_cases k4 : sp_K f n t = 4
    · have k0 : ¬ sp_K f n t = 0 := by rw [k4]; decide
      simp only [if_neg k0, if_pos k4]
      have l4 := sp_lt h0 htM k4 (by decide)
      refine rr_callV d_Mo_program_57 il_Mo_61 m_Mo_is (u_is_t 2 (by decide) hn k4) rfl rfl rfl rfl (Nat.le_of_ble_eq_true rfl) (Nat.le_of_ble_eq_true rfl) (Nat.le_of_ble_eq_true rfl) (Nat.le_of_ble_eq_true rfl) (Nat.le_of_ble_eq_true rfl) (fun rv9 hp9 hq => ?_)
      obtain ⟨rfl, rfl⟩ := hq
      refine rr_if_eq 75 d_Mo_program_60 (by decide) (fun c9 => absurd c9 (by decide)) (fun _ => ?_)
      refine rr_aload_n d_Mo_program_63 rfl rfl ?_
      refine rr_callV d_Mo_program_64 il_Mo_117 m_Mo_step (t_step hn) rfl rfl rfl rfl (Nat.le_of_ble_eq_true rfl) (Nat.le_of_ble_eq_true rfl) (Nat.le_of_ble_eq_true rfl) (Nat.le_of_ble_eq_true rfl) (Nat.le_of_ble_eq_true rfl) (fun rv9 hp9 hq => ?_)
      obtain ⟨rfl, nu2, h92, rfl⟩ := hq
      refine rr_aload_n d_Mo_program_67 rfl rfl ?_
      refine rr_callV d_Mo_program_68 il_Mo_126 m_Mo_rule (u_rule6 (by rw [hmd.1, show us.length = 6 by omega]; rfl)) rfl rfl rfl rfl (Nat.le_of_ble_eq_true rfl) (Nat.le_of_ble_eq_true rfl) (Nat.le_of_ble_eq_true rfl) (Nat.le_of_ble_eq_true rfl) (Nat.le_of_ble_eq_true rfl) (fun rv9 hp9 hq => ?_)
      obtain ⟨rfl, rfl⟩ := hq
      refine rr_istore_n d_Mo_program_71 rfl (by decide) ?_
      refine rr_goto 50 d_Mo_program_72 (by decide) ?_
      refine rr_iload_n d_Mo_program_50 rfl rfl ?_
      refine rr_if_eq 75 d_Mo_program_51 (by decide) (fun _ => ?_) (fun c9 => absurd (rfl) c9)
      refine rr_iload_n d_Mo_program_75 rfl rfl ?_
      refine rr_if_eq 91 d_Mo_program_76 (by decide) (fun _ => ?_) (fun c9 => absurd (rfl) c9)
      exact rr_lvs _ rfl (bad (false, t + 1, us) 0 (t + 1) _ _ _ _ rfl rfl)
    · skip
      refine rr_callV d_Mo_program_57 il_Mo_61 m_Mo_is (u_is_f 2 (by decide) hn k4) rfl rfl rfl rfl (Nat.le_of_ble_eq_true rfl) (Nat.le_of_ble_eq_true rfl) (Nat.le_of_ble_eq_true rfl) (Nat.le_of_ble_eq_true rfl) (Nat.le_of_ble_eq_true rfl) (fun rv9 hp9 hq => ?_)
      obtain ⟨rfl, rfl⟩ := hq
      refine rr_if_eq 75 d_Mo_program_60 (by decide) (fun _ => ?_) (fun c9 => absurd (rfl) c9)
      refine rr_iload_n d_Mo_program_75 rfl rfl ?_
      refine rr_if_eq 91 d_Mo_program_76 (by decide) (fun c9 => absurd c9 (by decide)) (fun _ => ?_)
      refine rr_aload_n d_Mo_program_79 rfl rfl ?_
      refine rr_getf d_Mo_program_80 fl_Mo_49 rfl rfl ?_
      by_cases k0 : sp_K f n t = 0
      · simp only [if_pos k0]
        refine rr_if_eq 91 d_Mo_program_83 (by decide) (fun _ => ?_) (fun c9 => absurd (mk_0.mpr k0) c9)
        refine rr_aload_n d_Mo_program_91 rfl rfl ?_
        refine rr_getf d_Mo_program_92 fl_Mo_110 rfl rfl ?_
        refine rr_if_lt 103 d_Mo_program_95 (by decide) (fun _ => ?_) (fun c9 => absurd (by decide) c9)
        refine rr_aload_n d_Mo_program_103 rfl rfl ?_
        refine rr_aload_n d_Mo_program_104 rfl rfl ?_
        refine rr_getf d_Mo_program_105 fl_Mo_17 rfl rfl ?_
        refine rr_aload_n d_Mo_program_108 rfl rfl ?_
        refine rr_getf d_Mo_program_109 fl_Mo_120 rfl rfl ?_
        refine rr_callS d_Mo_program_112 il_Mo_129 m_Ar_copyOf (s_Ar_copyOf_1 (y := mdp us) (by omega)) rfl rfl (Nat.le_of_ble_eq_true rfl) (Nat.le_of_ble_eq_true rfl) (Nat.le_of_ble_eq_true rfl) (Nat.le_of_ble_eq_true rfl) (Nat.le_of_ble_eq_true rfl) (fun rv9 hp9 hq => ?_)
        obtain ⟨rfl, rfl⟩ := hq
        refine rr_putf d_Mo_program_115 fl_Mo_135 rfl rfl rfl rfl ?_
        refine rr_bipush (-2) d_Mo_program_118 rfl ?_
        exact rr_ireturn d_Mo_program_120 rfl rfl (Nat.le_of_ble_eq_true rfl) (Nat.le_of_ble_eq_true rfl) (⟨_, _, _, _, _, _, _, _, _, _, Eq.mpr (if_pos (by first | rfl | trivial)) ⟨_, rfl, rfl, md_copy hmd (by omega)⟩⟩)
      · simp only [if_neg k0, if_neg k4]
        refine rr_if_eq 91 d_Mo_program_83 (by decide) (fun c9 => absurd c9 (fun z => k0 (mk_0.mp z))) (fun _ => ?_)
        refine rr_aload_n d_Mo_program_86 rfl rfl ?_
        refine rr_callV d_Mo_program_87 il_Mo_113 m_Mo_bad (t_bad) rfl rfl rfl rfl (Nat.le_of_ble_eq_true rfl) (Nat.le_of_ble_eq_true rfl) (Nat.le_of_ble_eq_true rfl) (Nat.le_of_ble_eq_true rfl) (Nat.le_of_ble_eq_true rfl) (fun rv9 hp9 hq => ?_)
        obtain ⟨rfl, rfl⟩ := hq
        refine rr_pop d_Mo_program_90 rfl ?_
        exact rr_lvs _ rfl (bad (false, t, w) 1 t _ _ _ _ rfl rfl)
  | succ m ih =>
    intro t p nu us w cd hm htM hp hy hmd h9
    refine rr_iload_n d_Mo_program_50 rfl rfl ?_
    refine rr_if_eq 75 d_Mo_program_51 (by decide) (fun c9 => absurd c9 (by decide)) (fun _ => ?_)
    refine rr_aload_n d_Mo_program_54 rfl rfl ?_
    refine rr_ldcS d_Mo_program_55 sl_Mo_67 ?_
    by_cases k4 : sp_K f n t = 4
    · have k0 : ¬ sp_K f n t = 0 := by rw [k4]; decide
      simp only [if_neg k0, if_pos k4]
      have l4 := sp_lt h0 htM k4 (by decide)
      refine rr_callV d_Mo_program_57 il_Mo_61 m_Mo_is (u_is_t 2 (by decide) hn k4) rfl rfl rfl rfl (Nat.le_of_ble_eq_true rfl) (Nat.le_of_ble_eq_true rfl) (Nat.le_of_ble_eq_true rfl) (Nat.le_of_ble_eq_true rfl) (Nat.le_of_ble_eq_true rfl) (fun rv9 hp9 hq => ?_)
      obtain ⟨rfl, rfl⟩ := hq
      refine rr_if_eq 75 d_Mo_program_60 (by decide) (fun c9 => absurd c9 (by decide)) (fun _ => ?_)
      refine rr_aload_n d_Mo_program_63 rfl rfl ?_
      refine rr_callV d_Mo_program_64 il_Mo_117 m_Mo_step (t_step hn) rfl rfl rfl rfl (Nat.le_of_ble_eq_true rfl) (Nat.le_of_ble_eq_true rfl) (Nat.le_of_ble_eq_true rfl) (Nat.le_of_ble_eq_true rfl) (Nat.le_of_ble_eq_true rfl) (fun rv9 hp9 hq => ?_)
      obtain ⟨rfl, nu2, h92, rfl⟩ := hq
      refine rr_aload_n d_Mo_program_67 rfl rfl ?_
      have g7 := mdp_ge us
      refine rr_callV d_Mo_program_68 il_Mo_126 m_Mo_rule (u_rule (t := t + 1) hn h0 l4 hp g7 hy (k := us.length) (by omega) hmd.1 h92) rfl rfl rfl rfl (Nat.le_of_ble_eq_true rfl) (Nat.le_of_ble_eq_true rfl) (Nat.le_of_ble_eq_true rfl) (Nat.le_of_ble_eq_true rfl) (Nat.le_of_ble_eq_true rfl) (fun rv9 hp9 hq => ?_)
      obtain ⟨nu3, pa3, y3, cd3, rfl, rfl, h93, hok⟩ := hq
      refine rr_istore_n d_Mo_program_71 rfl (by decide) ?_
      refine rr_goto 50 d_Mo_program_72 (by decide) ?_
      obtain ⟨i1, i2⟩ := sp_snd_rule (a := t + 1) (V := sp_V f n) h0 l4 hp
      unfold sp_prog
      by_cases hx : (sp_rule (sp_K f n) (sp_V f n) (t + 1) p).1 = true
      · simp only [if_pos hx]
        rw [hx]
        obtain ⟨rfl, rfl, q1, q2, q3, q4⟩ := hok hx
        obtain ⟨j1, j2, j3⟩ := i2 hx
        have hl := enU_len (a := t + 1) (V := sp_V f n) h0 l4 hp hx
        rw [mdp_add]
        exact rr_lvs _ rfl (ih _ _ nu3 _ us cd3 (by simp; omega) i1 j2 (by rw [← mdp_add]; omega) (md_add hmd (by omega) q1 q2 q3 q4) h93)
      · simp only [if_neg hx]
        rw [(Bool.not_eq_true _).mp hx]
        refine rr_iload_n d_Mo_program_50 rfl rfl ?_
        refine rr_if_eq 75 d_Mo_program_51 (by decide) (fun _ => ?_) (fun c9 => absurd (rfl) c9)
        refine rr_iload_n d_Mo_program_75 rfl rfl ?_
        refine rr_if_eq 91 d_Mo_program_76 (by decide) (fun _ => ?_) (fun c9 => absurd (rfl) c9)
        exact rr_lvs _ rfl (bad (false, (sp_rule (sp_K f n) (sp_V f n) (t + 1) p).2.1, us) 0 (sp_rule (sp_K f n) (sp_V f n) (t + 1) p).2.1 _ _ _ _ rfl rfl)
    · skip
      refine rr_callV d_Mo_program_57 il_Mo_61 m_Mo_is (u_is_f 2 (by decide) hn k4) rfl rfl rfl rfl (Nat.le_of_ble_eq_true rfl) (Nat.le_of_ble_eq_true rfl) (Nat.le_of_ble_eq_true rfl) (Nat.le_of_ble_eq_true rfl) (Nat.le_of_ble_eq_true rfl) (fun rv9 hp9 hq => ?_)
      obtain ⟨rfl, rfl⟩ := hq
      refine rr_if_eq 75 d_Mo_program_60 (by decide) (fun _ => ?_) (fun c9 => absurd (rfl) c9)
      refine rr_iload_n d_Mo_program_75 rfl rfl ?_
      refine rr_if_eq 91 d_Mo_program_76 (by decide) (fun c9 => absurd c9 (by decide)) (fun _ => ?_)
      refine rr_aload_n d_Mo_program_79 rfl rfl ?_
      refine rr_getf d_Mo_program_80 fl_Mo_49 rfl rfl ?_
      by_cases k0 : sp_K f n t = 0
      · simp only [if_pos k0]
        refine rr_if_eq 91 d_Mo_program_83 (by decide) (fun _ => ?_) (fun c9 => absurd (mk_0.mpr k0) c9)
        refine rr_aload_n d_Mo_program_91 rfl rfl ?_
        refine rr_getf d_Mo_program_92 fl_Mo_110 rfl rfl ?_
        refine rr_if_lt 103 d_Mo_program_95 (by decide) (fun _ => ?_) (fun c9 => absurd (by decide) c9)
        refine rr_aload_n d_Mo_program_103 rfl rfl ?_
        refine rr_aload_n d_Mo_program_104 rfl rfl ?_
        refine rr_getf d_Mo_program_105 fl_Mo_17 rfl rfl ?_
        refine rr_aload_n d_Mo_program_108 rfl rfl ?_
        refine rr_getf d_Mo_program_109 fl_Mo_120 rfl rfl ?_
        refine rr_callS d_Mo_program_112 il_Mo_129 m_Ar_copyOf (s_Ar_copyOf_1 (y := mdp us) (by omega)) rfl rfl (Nat.le_of_ble_eq_true rfl) (Nat.le_of_ble_eq_true rfl) (Nat.le_of_ble_eq_true rfl) (Nat.le_of_ble_eq_true rfl) (Nat.le_of_ble_eq_true rfl) (fun rv9 hp9 hq => ?_)
        obtain ⟨rfl, rfl⟩ := hq
        refine rr_putf d_Mo_program_115 fl_Mo_135 rfl rfl rfl rfl ?_
        refine rr_bipush (-2) d_Mo_program_118 rfl ?_
        exact rr_ireturn d_Mo_program_120 rfl rfl (Nat.le_of_ble_eq_true rfl) (Nat.le_of_ble_eq_true rfl) (⟨_, _, _, _, _, _, _, _, _, _, Eq.mpr (if_pos (by first | rfl | trivial)) ⟨_, rfl, rfl, md_copy hmd (by omega)⟩⟩)
      · simp only [if_neg k0, if_neg k4]
        refine rr_if_eq 91 d_Mo_program_83 (by decide) (fun c9 => absurd c9 (fun z => k0 (mk_0.mp z))) (fun _ => ?_)
        refine rr_aload_n d_Mo_program_86 rfl rfl ?_
        refine rr_callV d_Mo_program_87 il_Mo_113 m_Mo_bad (t_bad) rfl rfl rfl rfl (Nat.le_of_ble_eq_true rfl) (Nat.le_of_ble_eq_true rfl) (Nat.le_of_ble_eq_true rfl) (Nat.le_of_ble_eq_true rfl) (Nat.le_of_ble_eq_true rfl) (fun rv9 hp9 hq => ?_)
        obtain ⟨rfl, rfl⟩ := hq
        refine rr_pop d_Mo_program_90 rfl ?_
        exact rr_lvs _ rfl (bad (false, t, w) 1 t _ _ _ _ rfl rfl)

set_option maxRecDepth 100000 in
set_option maxHeartbeats 4000000 in
theorem s_Mo_program_1 {x0 x1 x2 x3 x4 x5 x6 x7 x8 x9 x10 x11 x12 x13 x14 x15 x16 x17 x18 x19 x20 x21 x22 x23 x26 x28 x29 x30 x31 x32 : va_E} {ru pcv : Int32} {lt : Value} {f : Nat → Int32} {n : Nat} {at0 sz kd0 fr0 to0 fa pa my : Int32} {nu : Int64} {cd : Nat → Int32} (hn : n ≤ 400) : rr_Spec 32 y_Mo_program c_Mo_program 2 (some .int) 1 1600 [.ref 24] (x0 :: x1 :: x2 :: x3 :: x4 :: x5 :: x6 :: x7 :: x8 :: x9 :: x10 :: x11 :: x12 :: x13 :: x14 :: x15 :: x16 :: x17 :: x18 :: x19 :: x20 :: x21 :: x22 :: x23 :: .inr (6, [.ref 25, .int (nI n), lt, .ref 26, .int ru, .int at0, .int sz, .int kd0, .int fr0, .int to0, .int fa, .int pa, .long nu, .ref 27, .int my, .ref 28, .ref 29, .ref 30, .ref 31, .int pcv]) :: .inl (1, 400, .inl f) :: x26 :: .inl (0, 1600, .inl (cd)) :: x28 :: x29 :: x30 :: x31 :: x32 :: []) (fun r h1 => ∃ (at2 sz2 kd2 fr2 to2 fa2 pa2 my2 : Int32) (nu2 : Int64) (cd2 : Nat → Int32), if (sp_pr f n).1 = true then ∃ c2 : Nat → Int32, r = some (.int (-2)) ∧ h1 = x0 :: x1 :: x2 :: x3 :: x4 :: x5 :: x6 :: x7 :: x8 :: x9 :: x10 :: x11 :: x12 :: x13 :: x14 :: x15 :: x16 :: x17 :: x18 :: x19 :: x20 :: x21 :: x22 :: x23 :: .inr (6, [.ref 25, .int 0, (.ref 33), .ref 26, .int ru, .int at2, .int sz2, .int kd2, .int fr2, .int to2, .int fa2, .int pa2, .long nu2, .ref 27, .int my2, .ref 28, .ref 29, .ref 30, .ref 31, .int pcv]) :: .inl (1, 400, .inl f) :: x26 :: .inl (0, 1600, .inl (cd2)) :: x28 :: x29 :: x30 :: x31 :: x32 :: .inl (0, mdp (sp_pr f n).2.2, .inl c2) :: [] ∧ md_is (sp_pr f n).2.2 c2 else r = some (.int (nI (sp_T f n (sp_pr f n).2.1).2.2.1)) ∧ h1 = x0 :: x1 :: x2 :: x3 :: x4 :: x5 :: x6 :: x7 :: x8 :: x9 :: x10 :: x11 :: x12 :: x13 :: x14 :: x15 :: x16 :: x17 :: x18 :: x19 :: x20 :: x21 :: x22 :: x23 :: .inr (6, [.ref 25, .int 0, lt, .ref 26, .int ru, .int at2, .int sz2, .int kd2, .int fr2, .int to2, .int fa2, .int pa2, .long nu2, .ref 27, .int my2, .ref 28, .ref 29, .ref 30, .ref 31, .int pcv]) :: .inl (1, 400, .inl f) :: x26 :: .inl (0, 1600, .inl (cd2)) :: x28 :: x29 :: x30 :: x31 :: x32 :: []) := by
  obtain ⟨M, h0⟩ := ex_M f n
  refine rr_met (own := R_Mo) (kd := (false, none)) (by decide +kernel) rfl (fun h => by cases h) rfl (Nat.le_of_ble_eq_true rfl) ?_
  refine rr_aload_n d_Mo_program_0 rfl rfl ?_
  refine rr_aload_n d_Mo_program_1 rfl rfl ?_
  refine rr_getf d_Mo_program_2 fl_Mo_32 rfl rfl ?_
  refine rr_putf d_Mo_program_5 fl_Mo_43 rfl rfl rfl rfl ?_
  refine rr_aload_n d_Mo_program_8 rfl rfl ?_
  refine rr_iconst 0 d_Mo_program_9 rfl ?_
  refine rr_putf d_Mo_program_10 fl_Mo_32 rfl rfl rfl rfl ?_
  refine rr_aload_n d_Mo_program_13 rfl rfl ?_
  refine rr_iconst 0 d_Mo_program_14 rfl ?_
  refine rr_putf d_Mo_program_15 fl_Mo_40 rfl rfl rfl rfl ?_
  refine rr_aload_n d_Mo_program_18 rfl rfl ?_
  refine rr_iconst (-1) d_Mo_program_19 rfl ?_
  refine rr_putf d_Mo_program_20 fl_Mo_110 rfl rfl rfl rfl ?_
  refine rr_aload_n d_Mo_program_23 rfl rfl ?_
  refine rr_iconst 0 d_Mo_program_24 rfl ?_
  refine rr_putf d_Mo_program_25 fl_Mo_123 rfl rfl rfl rfl ?_
  refine rr_aload_n d_Mo_program_28 rfl rfl ?_
  refine rr_bipush 7 d_Mo_program_29 rfl ?_
  refine rr_putf d_Mo_program_31 fl_Mo_120 rfl rfl rfl rfl ?_
  refine rr_aload_n d_Mo_program_34 rfl rfl ?_
  refine rr_getf d_Mo_program_35 fl_Mo_17 rfl rfl ?_
  refine rr_iconst 0 d_Mo_program_38 rfl ?_
  refine rr_iconst 0 d_Mo_program_39 rfl ?_
  refine rr_iast d_Mo_program_40 rfl (vp_in_nI (n := 0) (N := 1600) (by decide) (by decide)) ?_
  refine rr_aload_n d_Mo_program_41 rfl rfl ?_
  rw [sb_cl0]
  refine rr_callV d_Mo_program_42 il_Mo_117 m_Mo_step (t_first hn) rfl rfl rfl rfl (Nat.le_of_ble_eq_true rfl) (Nat.le_of_ble_eq_true rfl) (Nat.le_of_ble_eq_true rfl) (Nat.le_of_ble_eq_true rfl) (Nat.le_of_ble_eq_true rfl) (fun rv9 hp9 hq => ?_)
  obtain ⟨rfl, nu2, h92, rfl⟩ := hq
  refine rr_aload_n d_Mo_program_45 rfl rfl ?_
  refine rr_callV d_Mo_program_46 il_Mo_126 m_Mo_rule (u_rule (t := 0) (p := 0) (y := 7) hn h0 (Nat.zero_le _) (by decide) (by decide) (by decide) (k := 0) (by decide) (by rw [pk_us]; rfl) h92) rfl rfl rfl rfl (Nat.le_of_ble_eq_true rfl) (Nat.le_of_ble_eq_true rfl) (Nat.le_of_ble_eq_true rfl) (Nat.le_of_ble_eq_true rfl) (Nat.le_of_ble_eq_true rfl) (fun rv9 hp9 hq => ?_)
  obtain ⟨nu3, pa3, y3, cd3, rfl, rfl, h93, hok⟩ := hq
  refine rr_istore_n d_Mo_program_49 rfl (by decide) ?_
  obtain ⟨i1, i2⟩ := sp_snd_rule (a := 0) (p := 0) (V := sp_V f n) h0 (Nat.zero_le _) (by decide)
  unfold sp_pr sp_prog
  by_cases hx : (sp_rule (sp_K f n) (sp_V f n) 0 0).1 = true
  · simp only [if_pos hx]
    rw [hx]
    obtain ⟨rfl, rfl, q1, q2, q3, q4⟩ := hok hx
    obtain ⟨j1, j2, j3⟩ := i2 hx
    have hl := enU_len (a := 0) (p := 0) (V := sp_V f n) h0 (Nat.zero_le _) (by decide) hx
    have e7 : 7 + (enU (sp_rule (sp_K f n) (sp_V f n) 0 0).2.2.2).length = mdp ([] ++ [(sp_rule (sp_K f n) (sp_V f n) 0 0).2.2.2]) := mdp_add [] _
    rw [e7]
    refine rr_lvs [(1, .int 1), (0, .ref 24)] rfl (l_mprog_1 hn h0 5 _ _ nu3 ([] ++ [(sp_rule (sp_K f n) (sp_V f n) 0 0).2.2.2]) [] cd3 rfl i1 j2 (by rw [← e7]; omega) (md_add (c := upd cd 0 0) ⟨by rw [pk_us]; rfl, fun i hi => by simp at hi, fun k v hv => by simp at hv⟩ (by decide) q1 q2 q3 q4) h93)
  · simp only [if_neg hx]
    rw [(Bool.not_eq_true _).mp hx]
    have hpl := sp_T_pl (f := f) (n := n) (k := (sp_rule (sp_K f n) (sp_V f n) 0 0).2.1)
    refine rr_iload_n d_Mo_program_50 rfl rfl ?_
    refine rr_if_eq 75 d_Mo_program_51 (by decide) (fun _ => ?_) (fun c9 => absurd (rfl) c9)
    refine rr_iload_n d_Mo_program_75 rfl rfl ?_
    refine rr_if_eq 91 d_Mo_program_76 (by decide) (fun _ => ?_) (fun c9 => absurd (rfl) c9)
    refine rr_aload_n d_Mo_program_91 rfl rfl ?_
    refine rr_getf d_Mo_program_92 fl_Mo_110 rfl rfl ?_
    refine rr_if_lt 103 d_Mo_program_95 (by decide) (fun c9 => absurd c9 (nI_pos (by omega))) (fun _ => ?_)
    refine rr_aload_n d_Mo_program_98 rfl rfl ?_
    refine rr_getf d_Mo_program_99 fl_Mo_110 rfl rfl ?_
    exact rr_ireturn d_Mo_program_102 rfl rfl (Nat.le_of_ble_eq_true rfl) (Nat.le_of_ble_eq_true rfl) (⟨_, _, _, _, _, _, _, _, _, _, Eq.mpr (if_neg (by simp)) ⟨rfl, rfl⟩⟩)
