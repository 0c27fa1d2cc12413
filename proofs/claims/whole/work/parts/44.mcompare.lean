/-! The reference: compares, rules. -/
def hd_ (c : Nat → Int32) (i : Nat) (l : List Int32) : Prop := ∀ (k : Nat) (v : Int32), l[k]? = some v → c (i + k) = v
theorem hd_app {c : Nat → Int32} {i : Nat} {a b : List Int32} : hd_ c i (a ++ b) ↔ hd_ c i a ∧ hd_ c (i + a.length) b := by
  constructor
  · intro h
    refine ⟨fun k v hv => h k v ?_, fun k v hv => ?_⟩
    · rw [List.getElem?_append_left (List.getElem?_eq_some_iff.mp hv).1]
      exact hv
    · rw [Nat.add_assoc]
      refine h (a.length + k) v ?_
      rw [List.getElem?_append_right (by omega), Nat.add_sub_cancel_left]
      exact hv
  · rintro ⟨h1, h2⟩ k v hv
    rcases Nat.lt_or_ge k a.length with q | q
    · rw [List.getElem?_append_left q] at hv
      exact h1 k v hv
    · rw [List.getElem?_append_right q] at hv
      have := h2 (k - a.length) v hv
      rwa [show i + a.length + (k - a.length) = i + k by omega] at this
theorem hd_wr (c : Nat → Int32) (i : Nat) (l : List Int32) : hd_ (sp_wr c i l) i l := fun k v hv => sp_wr_get l c i k v hv
theorem hd_mono {c d : Nat → Int32} {i : Nat} {l : List Int32} (h : hd_ c i l) (he : ∀ j, i ≤ j → j < i + l.length → d j = c j) : hd_ d i l := fun k v hv => by
  have hk := (List.getElem?_eq_some_iff.mp hv).1
  rw [he (i + k) (by omega) (by omega)]
  exact h k v hv
theorem hd_1 {c : Nat → Int32} {i : Nat} {v : Int32} : hd_ c i [v] ↔ c i = v := by
  constructor
  · intro h
    exact h 0 v rfl
  · intro h k w hw
    cases k with
    | zero =>
      simp only [List.getElem?_cons_zero, Option.some.injEq] at hw
      rw [Nat.add_zero, h, hw]
    | succ k => simp at hw
def chS (k : Nat) : Int32 := if k = 10 then 61 else if k = 11 then 35 else if k = 12 then 60 else 62
def enC (c : sp_C) : List Int32 := [chS c.2.2] ++ (en c.1 ++ [7]) ++ (en c.2.1 ++ [7])
def enF (e : sp_F) : List Int32 := [e.1] ++ (en e.2 ++ [7])
def enU (u : sp_U) : List Int32 := [if u.1.length = 0 then -1 else nI u.1.length] ++ u.1.flatMap enC ++ ([nI u.2.length] ++ u.2.flatMap enF)
def mo_G (f : Nat → Int32) (n : Nat) (ok : Bool) (t2 p2 : Nat) (P : Nat → (Nat → Int32) → Prop) (mkh : Nat → Int64 → Int32 → Int32 → Nat → (Nat → Int32) → rr_H) : Option Value → rr_H → Prop := fun r h1 => ∃ (nu2 : Int64) (pa2 : Int32) (y2 : Nat) (cd2 : Nat → Int32), r = some (.int (sp_b ok)) ∧ h1 = mkh t2 nu2 (cond ok (-1) (nI (sp_T f n t2).2.2.1)) pa2 y2 cd2 ∧ (sp_K f n t2 = 9 → nu2 = (sp_V f n t2).toInt64) ∧ (ok = true → pa2 = nI p2 ∧ P y2 cd2)
theorem chS_tok {f : Nat → Int32} {n t : Nat} (h : sp_cs (sp_K f n t) = true) : f (sp_T f n t).2.2.1 = chS (sp_K f n t) := by
  have key : ∀ j, j < 18 → sp_K f n t = kj j → f (sp_T f n t).2.2.1 = sp_ch j 0 := by
    intro j hj hk
    have := is_tok (f := f) (n := n) (p := sp_pos f n t) hj
    rw [show decide ((sp_next f n (sp_pos f n t)).1 = kj j) = true from decide_eq_true hk, Bool.and_eq_true] at this
    have h2 := (sp_spell_get this.2).2 0 (ln_1 j hj)
    rwa [Nat.add_zero] at h2
  have hc : sp_K f n t = 10 ∨ sp_K f n t = 11 ∨ sp_K f n t = 12 ∨ sp_K f n t = 13 := by simpa [sp_cs, or_assoc] using h
  rcases hc with hc | hc | hc | hc
  · rw [key 12 (by decide) hc, hc]; rfl
  · rw [key 13 (by decide) hc, hc]; rfl
  · rw [key 14 (by decide) hc, hc]; rfl
  · rw [key 15 (by decide) hc, hc]; rfl

set_option maxRecDepth 100000 in
set_option maxHeartbeats 4000000 in
theorem u_whole {x0 x1 x2 x3 x4 x5 x6 x7 x8 x9 x10 x11 x12 x13 x14 x15 x16 x17 x18 x19 x20 x21 x22 x23 x26 : va_E} {g : rr_H} {tm ru pcv : Int32} {lt : Value} {f : Nat → Int32} {n : Nat} {nu : Int64} {t p y M : Nat} {cd : Nat → Int32} (hn : n ≤ 400) (h0 : sp_K f n M = 0) (htM : t ≤ M) (hp : p ≤ 80) (hy : y ≤ 7 * p + 40) (h9 : sp_K f n t = 9 → nu = (sp_V f n t).toInt64) : rr_Spec 29 y_Mo_whole c_Mo_whole 1 (some .boolean) 0 0 [.ref 24] (x0 :: x1 :: x2 :: x3 :: x4 :: x5 :: x6 :: x7 :: x8 :: x9 :: x10 :: x11 :: x12 :: x13 :: x14 :: x15 :: x16 :: x17 :: x18 :: x19 :: x20 :: x21 :: x22 :: x23 :: .inr (6, [.ref 25, .int tm, lt, .ref 26, .int ru, .int (nI (sp_T f n t).2.2.2), .int (nI n), .int (nI (mk (sp_T f n t).1)), .int (nI (sp_T f n t).2.2.1), .int (nI (sp_T f n t).2.2.2), .int (-1), .int (nI p), .long nu, .ref 27, .int (nI y), .ref 28, .ref 29, .ref 30, .ref 31, .int pcv]) :: .inl (1, 400, .inl f) :: x26 :: .inl (0, 1600, .inl (cd)) :: g) (mo_G f n ((sp_sum (sp_K f n) (sp_V f n) 6 t p).1) ((sp_sum (sp_K f n) (sp_V f n) 6 t p).2.1) ((sp_sum (sp_K f n) (sp_V f n) 6 t p).2.2.1) (fun y2 cd2 => y2 = y + (en (sp_sum (sp_K f n) (sp_V f n) 6 t p).2.2.2 ++ [7]).length ∧ cd2 = sp_wr cd y (en (sp_sum (sp_K f n) (sp_V f n) 6 t p).2.2.2 ++ [7])) (fun t nu fa pa y cd => x0 :: x1 :: x2 :: x3 :: x4 :: x5 :: x6 :: x7 :: x8 :: x9 :: x10 :: x11 :: x12 :: x13 :: x14 :: x15 :: x16 :: x17 :: x18 :: x19 :: x20 :: x21 :: x22 :: x23 :: .inr (6, [.ref 25, .int tm, lt, .ref 26, .int ru, .int (nI (sp_T f n t).2.2.2), .int (nI n), .int (nI (mk (sp_T f n t).1)), .int (nI (sp_T f n t).2.2.1), .int (nI (sp_T f n t).2.2.2), .int fa, .int pa, .long nu, .ref 27, .int (nI y), .ref 28, .ref 29, .ref 30, .ref 31, .int pcv]) :: .inl (1, 400, .inl f) :: x26 :: .inl (0, 1600, .inl (cd)) :: g)) := by
  have hsd := sp_snd_s (V := sp_V f n) h0 6 t p htM hp
  refine rr_met (own := R_Mo) (kd := (false, none)) (by decide +kernel) rfl (fun h => by cases h) rfl (Nat.le_of_ble_eq_true rfl) ?_
  refine rr_aload_n d_Mo_whole_0 rfl rfl ?_
  refine rr_iconst 0 d_Mo_whole_1 rfl ?_
  refine rr_callV d_Mo_whole_2 il_Mo_168 m_Mo_sum (u_sum_all hn h0 6 0 rfl t p y nu cd htM hp hy h9) rfl rfl rfl rfl (Nat.le_of_ble_eq_true rfl) (Nat.le_of_ble_eq_true rfl) (Nat.le_of_ble_eq_true rfl) (Nat.le_of_ble_eq_true rfl) (Nat.le_of_ble_eq_true rfl) (fun rv9 hp9 hq => ?_)
  obtain ⟨nu3, pa3, y3, cd3, rfl, rfl, h93, hok⟩ := hq
  by_cases ho : (sp_sum (sp_K f n) (sp_V f n) 6 t p).1 = true
  · rw [ho]
    obtain ⟨rfl, rfl, rfl⟩ := hok ho
    obtain ⟨j1, j2, j3⟩ := hsd.2 ho
    have hle := en_len (sp_sum (sp_K f n) (sp_V f n) 6 t p).2.2.2
    refine rr_if_ne 10 d_Mo_whole_5 (by decide) (fun _ => ?_) (fun c9 => absurd c9 (by decide))
    refine rr_aload_n d_Mo_whole_10 rfl rfl ?_
    refine rr_bipush 7 d_Mo_whole_11 rfl ?_
    refine rr_callV d_Mo_whole_13 il_Mo_138 m_Mo_put (s_Mo_put (by omega)) rfl rfl rfl rfl (Nat.le_of_ble_eq_true rfl) (Nat.le_of_ble_eq_true rfl) (Nat.le_of_ble_eq_true rfl) (Nat.le_of_ble_eq_true rfl) (Nat.le_of_ble_eq_true rfl) (fun rv9 hp9 hq => ?_)
    obtain ⟨rfl, rfl⟩ := hq
    refine rr_iconst 1 d_Mo_whole_16 rfl ?_
    exact rr_ireturn d_Mo_whole_17 rfl rfl (Nat.le_of_ble_eq_true rfl) (Nat.le_of_ble_eq_true rfl) (⟨nu3, _, _, _, rfl, rfl, h93, fun _ => ⟨rfl, by rw [List.length_append]; rfl, by rw [sp_wr_app]; rfl⟩⟩)
  · rw [(Bool.not_eq_true _).mp ho]
    refine rr_if_ne 10 d_Mo_whole_5 (by decide) (fun c9 => absurd (rfl) c9) (fun _ => ?_)
    refine rr_iconst 0 d_Mo_whole_8 rfl ?_
    exact rr_ireturn d_Mo_whole_9 rfl rfl (Nat.le_of_ble_eq_true rfl) (Nat.le_of_ble_eq_true rfl) (⟨nu3, pa3, y3, cd3, rfl, rfl, h93, fun h => by cases h⟩)

set_option maxRecDepth 100000 in
set_option maxHeartbeats 4000000 in
theorem u_compare {x0 x1 x2 x3 x4 x5 x6 x7 x8 x9 x10 x11 x12 x13 x14 x15 x16 x17 x18 x19 x20 x21 x22 x23 x26 : va_E} {g : rr_H} {tm ru pcv : Int32} {lt : Value} {f : Nat → Int32} {n : Nat} {nu : Int64} {t p y M : Nat} {cd : Nat → Int32} (hn : n ≤ 400) (h0 : sp_K f n M = 0) (htM : t ≤ M) (hp : p ≤ 80) (hy : y + 2 ≤ 7 * p + 40) (h9 : sp_K f n t = 9 → nu = (sp_V f n t).toInt64) : rr_Spec 30 y_Mo_compare c_Mo_compare 2 (some .boolean) 0 0 [.ref 24] (x0 :: x1 :: x2 :: x3 :: x4 :: x5 :: x6 :: x7 :: x8 :: x9 :: x10 :: x11 :: x12 :: x13 :: x14 :: x15 :: x16 :: x17 :: x18 :: x19 :: x20 :: x21 :: x22 :: x23 :: .inr (6, [.ref 25, .int tm, lt, .ref 26, .int ru, .int (nI (sp_T f n t).2.2.2), .int (nI n), .int (nI (mk (sp_T f n t).1)), .int (nI (sp_T f n t).2.2.1), .int (nI (sp_T f n t).2.2.2), .int (-1), .int (nI p), .long nu, .ref 27, .int (nI y), .ref 28, .ref 29, .ref 30, .ref 31, .int pcv]) :: .inl (1, 400, .inl f) :: x26 :: .inl (0, 1600, .inl (cd)) :: g) (mo_G f n ((sp_cmp (sp_K f n) (sp_V f n) t p).1) ((sp_cmp (sp_K f n) (sp_V f n) t p).2.1) ((sp_cmp (sp_K f n) (sp_V f n) t p).2.2.1) (fun y2 cd2 => y2 = y + (enC (sp_cmp (sp_K f n) (sp_V f n) t p).2.2.2).length ∧ (∀ j, j < y → cd2 j = cd j) ∧ hd_ cd2 y (enC (sp_cmp (sp_K f n) (sp_V f n) t p).2.2.2)) (fun t nu fa pa y cd => x0 :: x1 :: x2 :: x3 :: x4 :: x5 :: x6 :: x7 :: x8 :: x9 :: x10 :: x11 :: x12 :: x13 :: x14 :: x15 :: x16 :: x17 :: x18 :: x19 :: x20 :: x21 :: x22 :: x23 :: .inr (6, [.ref 25, .int tm, lt, .ref 26, .int ru, .int (nI (sp_T f n t).2.2.2), .int (nI n), .int (nI (mk (sp_T f n t).1)), .int (nI (sp_T f n t).2.2.1), .int (nI (sp_T f n t).2.2.2), .int fa, .int pa, .long nu, .ref 27, .int (nI y), .ref 28, .ref 29, .ref 30, .ref 31, .int pcv]) :: .inl (1, 400, .inl f) :: x26 :: .inl (0, 1600, .inl (cd)) :: g)) := by
  obtain ⟨i1, i2⟩ := sp_snd_s (V := sp_V f n) h0 6 t p htM hp
  refine rr_met (own := R_Mo) (kd := (false, none)) (by decide +kernel) rfl (fun h => by cases h) rfl (Nat.le_of_ble_eq_true rfl) ?_
  refine rr_aload_n d_Mo_compare_0 rfl rfl ?_
  refine rr_getf d_Mo_compare_1 fl_Mo_120 rfl rfl ?_
  refine rr_istore_n d_Mo_compare_4 rfl (by decide) ?_
  refine rr_aload_n d_Mo_compare_5 rfl rfl ?_
  refine rr_iconst 0 d_Mo_compare_6 rfl ?_
  refine rr_callV d_Mo_compare_7 il_Mo_138 m_Mo_put (s_Mo_put (by omega)) rfl rfl rfl rfl (Nat.le_of_ble_eq_true rfl) (Nat.le_of_ble_eq_true rfl) (Nat.le_of_ble_eq_true rfl) (Nat.le_of_ble_eq_true rfl) (Nat.le_of_ble_eq_true rfl) (fun rv9 hp9 hq => ?_)
  obtain ⟨rfl, rfl⟩ := hq
  refine rr_aload_n d_Mo_compare_10 rfl rfl ?_
  refine rr_callV d_Mo_compare_11 il_Mo_153 m_Mo_whole (u_whole hn h0 htM hp (by omega) h9) rfl rfl rfl rfl (Nat.le_of_ble_eq_true rfl) (Nat.le_of_ble_eq_true rfl) (Nat.le_of_ble_eq_true rfl) (Nat.le_of_ble_eq_true rfl) (Nat.le_of_ble_eq_true rfl) (fun rv9 hp9 hq => ?_)
  obtain ⟨nu3, pa3, y3, cd3, rfl, rfl, h93, hok⟩ := hq
  unfold sp_cmp
  by_cases hx : (sp_sum (sp_K f n) (sp_V f n) 6 t p).1 = true
  · simp only [if_pos hx]
    rw [hx]
    obtain ⟨rfl, rfl, rfl⟩ := hok hx
    obtain ⟨j1, j2, j3⟩ := i2 hx
    have hle := en_len (sp_sum (sp_K f n) (sp_V f n) 6 t p).2.2.2
    have hyl : (en (sp_sum (sp_K f n) (sp_V f n) 6 t p).2.2.2 ++ [7]).length = (en (sp_sum (sp_K f n) (sp_V f n) 6 t p).2.2.2).length + 1 := by rw [List.length_append]; rfl
    refine rr_if_ne 19 d_Mo_compare_14 (by decide) (fun _ => ?_) (fun c9 => absurd c9 (by decide))
    refine rr_aload_n d_Mo_compare_19 rfl rfl ?_
    refine rr_ldcS d_Mo_compare_20 sl_Mo_160 ?_
    have go : sp_cs (sp_K f n (sp_sum (sp_K f n) (sp_V f n) 6 t p).2.1) = true → rr_A R_Mo c_Mo_compare 2 (some .boolean) (false, none) { frames := 30, cells := 0, slots := 0, locals := 30 * 64 } (mo_G f n ((sp_sum (sp_K f n) (sp_V f n) 6 ((sp_sum (sp_K f n) (sp_V f n) 6 t p).2.1 + 1) (sp_sum (sp_K f n) (sp_V f n) 6 t p).2.2.1).1) ((sp_sum (sp_K f n) (sp_V f n) 6 ((sp_sum (sp_K f n) (sp_V f n) 6 t p).2.1 + 1) (sp_sum (sp_K f n) (sp_V f n) 6 t p).2.2.1).2.1) ((sp_sum (sp_K f n) (sp_V f n) 6 ((sp_sum (sp_K f n) (sp_V f n) 6 t p).2.1 + 1) (sp_sum (sp_K f n) (sp_V f n) 6 t p).2.2.1).2.2.1) (fun y2 cd2 => y2 = y + (enC ((sp_sum (sp_K f n) (sp_V f n) 6 t p).2.2.2, (sp_sum (sp_K f n) (sp_V f n) 6 ((sp_sum (sp_K f n) (sp_V f n) 6 t p).2.1 + 1) (sp_sum (sp_K f n) (sp_V f n) 6 t p).2.2.1).2.2.2, sp_K f n (sp_sum (sp_K f n) (sp_V f n) 6 t p).2.1)).length ∧ (∀ j, j < y → cd2 j = cd j) ∧ hd_ cd2 y (enC ((sp_sum (sp_K f n) (sp_V f n) 6 t p).2.2.2, (sp_sum (sp_K f n) (sp_V f n) 6 ((sp_sum (sp_K f n) (sp_V f n) 6 t p).2.1 + 1) (sp_sum (sp_K f n) (sp_V f n) 6 t p).2.2.1).2.2.2, sp_K f n (sp_sum (sp_K f n) (sp_V f n) 6 t p).2.1))) (fun t nu fa pa y cd => x0 :: x1 :: x2 :: x3 :: x4 :: x5 :: x6 :: x7 :: x8 :: x9 :: x10 :: x11 :: x12 :: x13 :: x14 :: x15 :: x16 :: x17 :: x18 :: x19 :: x20 :: x21 :: x22 :: x23 :: .inr (6, [.ref 25, .int tm, lt, .ref 26, .int ru, .int (nI (sp_T f n t).2.2.2), .int (nI n), .int (nI (mk (sp_T f n t).1)), .int (nI (sp_T f n t).2.2.1), .int (nI (sp_T f n t).2.2.2), .int fa, .int pa, .long nu, .ref 27, .int (nI y), .ref 28, .ref 29, .ref 30, .ref 31, .int pcv]) :: .inl (1, 400, .inl f) :: x26 :: .inl (0, 1600, .inl (cd)) :: g)) 0 0 60 [(1, .int (nI y)), (0, .ref 24)] [] (x0 :: x1 :: x2 :: x3 :: x4 :: x5 :: x6 :: x7 :: x8 :: x9 :: x10 :: x11 :: x12 :: x13 :: x14 :: x15 :: x16 :: x17 :: x18 :: x19 :: x20 :: x21 :: x22 :: x23 :: .inr (6, [.ref 25, .int tm, lt, .ref 26, .int ru, .int (nI (sp_T f n (sp_sum (sp_K f n) (sp_V f n) 6 t p).2.1).2.2.2), .int (nI n), .int (nI (mk (sp_T f n (sp_sum (sp_K f n) (sp_V f n) 6 t p).2.1).1)), .int (nI (sp_T f n (sp_sum (sp_K f n) (sp_V f n) 6 t p).2.1).2.2.1), .int (nI (sp_T f n (sp_sum (sp_K f n) (sp_V f n) 6 t p).2.1).2.2.2), .int (-1), .int (nI (sp_sum (sp_K f n) (sp_V f n) 6 t p).2.2.1), .long nu3, .ref 27, .int (nI (y + 1 + (en (sp_sum (sp_K f n) (sp_V f n) 6 t p).2.2.2 ++ [7]).length)), .ref 28, .ref 29, .ref 30, .ref 31, .int pcv]) :: .inl (1, 400, .inl f) :: x26 :: .inl (0, 1600, .inl (sp_wr (upd cd y 0) (y + 1) (en (sp_sum (sp_K f n) (sp_V f n) 6 t p).2.2.2 ++ [7]))) :: g) := by
      intro hcs
      have hl : (sp_sum (sp_K f n) (sp_V f n) 6 t p).2.1 < M := by
        rcases Nat.lt_or_ge (sp_sum (sp_K f n) (sp_V f n) 6 t p).2.1 M with q | q
        · exact q
        · rw [show (sp_sum (sp_K f n) (sp_V f n) 6 t p).2.1 = M by omega, h0] at hcs
          cases hcs
      have hpl := sp_T_pl (f := f) (n := n) (k := (sp_sum (sp_K f n) (sp_V f n) 6 t p).2.1)
      have hpl2 : (sp_T f n (sp_sum (sp_K f n) (sp_V f n) 6 t p).2.1).2.2.1 < 400 := by
        have h1 : sp_K f n (sp_sum (sp_K f n) (sp_V f n) 6 t p).2.1 ≠ 0 := by
          intro z
          rw [z] at hcs
          cases hcs
        have h2 : ∀ {a : Nat}, (sp_next f n a).1 ≠ 0 → (sp_next f n a).2.2.1 < n := by
          intro a
          unfold sp_next
          dsimp only
          split
          · rename_i z
            exact fun _ => z
          · intro z
            exact absurd rfl z
        have := h2 (a := sp_pos f n (sp_sum (sp_K f n) (sp_V f n) 6 t p).2.1) h1
        show (sp_next f n (sp_pos f n (sp_sum (sp_K f n) (sp_V f n) 6 t p).2.1)).2.2.1 < 400
        omega
      obtain ⟨y1, y2⟩ := sp_snd_s (V := sp_V f n) h0 6 ((sp_sum (sp_K f n) (sp_V f n) 6 t p).2.1 + 1) (sp_sum (sp_K f n) (sp_V f n) 6 t p).2.2.1 hl j2
      refine rr_aload_n d_Mo_compare_60 rfl rfl ?_
      refine rr_getf d_Mo_compare_61 fl_Mo_17 rfl rfl ?_
      refine rr_iload_n d_Mo_compare_64 rfl rfl ?_
      refine rr_aload_n d_Mo_compare_65 rfl rfl ?_
      refine rr_getf d_Mo_compare_66 fl_Mo_9 rfl rfl ?_
      refine rr_aload_n d_Mo_compare_69 rfl rfl ?_
      refine rr_getf d_Mo_compare_70 fl_Mo_46 rfl rfl ?_
      refine rr_bald d_Mo_compare_73 rfl (vp_in_nI hpl2 (by decide)) ?_
      refine rr_iast d_Mo_compare_74 rfl (vp_in_nI (n := y) (by omega) (by decide)) ?_
      refine rr_aload_n d_Mo_compare_75 rfl rfl ?_
      rw [nI_clamp (n := y) (by omega), nI_clamp (n := (sp_T f n (sp_sum (sp_K f n) (sp_V f n) 6 t p).2.1).2.2.1) (by omega), chS_tok hcs]
      refine rr_callV d_Mo_compare_76 il_Mo_117 m_Mo_step (t_step hn) rfl rfl rfl rfl (Nat.le_of_ble_eq_true rfl) (Nat.le_of_ble_eq_true rfl) (Nat.le_of_ble_eq_true rfl) (Nat.le_of_ble_eq_true rfl) (Nat.le_of_ble_eq_true rfl) (fun rv9 hp9 hq => ?_)
      obtain ⟨rfl, nu4, h94, rfl⟩ := hq
      refine rr_aload_n d_Mo_compare_79 rfl rfl ?_
      refine rr_callV d_Mo_compare_80 il_Mo_153 m_Mo_whole (u_whole hn h0 hl j2 (by omega) h94) rfl rfl rfl rfl (Nat.le_of_ble_eq_true rfl) (Nat.le_of_ble_eq_true rfl) (Nat.le_of_ble_eq_true rfl) (Nat.le_of_ble_eq_true rfl) (Nat.le_of_ble_eq_true rfl) (fun rv9 hp9 hq => ?_)
      obtain ⟨nu5, pa5, y5, cd5, rfl, rfl, h95, hok5⟩ := hq
      by_cases hy2 : (sp_sum (sp_K f n) (sp_V f n) 6 ((sp_sum (sp_K f n) (sp_V f n) 6 t p).2.1 + 1) (sp_sum (sp_K f n) (sp_V f n) 6 t p).2.2.1).1 = true
      · rw [hy2]
        obtain ⟨rfl, rfl, rfl⟩ := hok5 hy2
        exact rr_ireturn d_Mo_compare_83 rfl rfl (Nat.le_of_ble_eq_true rfl) (Nat.le_of_ble_eq_true rfl) (⟨nu5, _, _, _, rfl, rfl, h95, fun _ => ⟨rfl, by unfold enC; simp only [List.length_append, List.length_cons, List.length_nil]; omega, fun j hj => by rw [sp_wr_ne _ _ _ _ (by omega), pk_un (by omega), sp_wr_ne _ _ _ _ (by omega), pk_un (by omega)], by
          unfold enC
          refine hd_app.mpr ⟨hd_app.mpr ⟨hd_1.mpr ?_, ?_⟩, ?_⟩
          · rw [sp_wr_ne _ _ _ _ (by omega), pk_us]
          · exact hd_mono (hd_wr (upd cd y 0) (y + 1) _) (fun j h1 h2 => by rw [sp_wr_ne _ _ _ _ (by omega), pk_un (by simp at h1; omega)])
          · have e : y + ([chS (sp_K f n (sp_sum (sp_K f n) (sp_V f n) 6 t p).2.1)] ++ (en (sp_sum (sp_K f n) (sp_V f n) 6 t p).2.2.2 ++ [7])).length = y + 1 + (en (sp_sum (sp_K f n) (sp_V f n) 6 t p).2.2.2 ++ [7]).length := by rw [List.length_append]; show y + (1 + _) = _; omega
            rw [e]
            exact hd_wr _ _ _⟩⟩)
      · rw [(Bool.not_eq_true _).mp hy2]
        exact rr_ireturn d_Mo_compare_83 rfl rfl (Nat.le_of_ble_eq_true rfl) (Nat.le_of_ble_eq_true rfl) (⟨nu5, pa5, y5, cd5, rfl, rfl, h95, fun h => by cases h⟩)
    by_cases k10 : sp_K f n (sp_sum (sp_K f n) (sp_V f n) 6 t p).2.1 = 10
    · have hcs : sp_cs (sp_K f n (sp_sum (sp_K f n) (sp_V f n) 6 t p).2.1) = true := by rw [k10]; rfl
      simp only [if_pos hcs]
      refine rr_callV d_Mo_compare_22 il_Mo_61 m_Mo_is (u_is_t 12 (by decide) hn k10) rfl rfl rfl rfl (Nat.le_of_ble_eq_true rfl) (Nat.le_of_ble_eq_true rfl) (Nat.le_of_ble_eq_true rfl) (Nat.le_of_ble_eq_true rfl) (Nat.le_of_ble_eq_true rfl) (fun rv9 hp9 hq => ?_)
      obtain ⟨rfl, rfl⟩ := hq
      refine rr_if_ne 60 d_Mo_compare_25 (by decide) (fun _ => ?_) (fun c9 => absurd c9 (by decide))
      exact rr_lvs _ rfl (go hcs)
    refine rr_callV d_Mo_compare_22 il_Mo_61 m_Mo_is (u_is_f 12 (by decide) hn k10) rfl rfl rfl rfl (Nat.le_of_ble_eq_true rfl) (Nat.le_of_ble_eq_true rfl) (Nat.le_of_ble_eq_true rfl) (Nat.le_of_ble_eq_true rfl) (Nat.le_of_ble_eq_true rfl) (fun rv9 hp9 hq => ?_)
    obtain ⟨rfl, rfl⟩ := hq
    refine rr_if_ne 60 d_Mo_compare_25 (by decide) (fun c9 => absurd (rfl) c9) (fun _ => ?_)
    refine rr_aload_n d_Mo_compare_28 rfl rfl ?_
    refine rr_ldcS d_Mo_compare_29 sl_Mo_162 ?_
    by_cases k11 : sp_K f n (sp_sum (sp_K f n) (sp_V f n) 6 t p).2.1 = 11
    · have hcs : sp_cs (sp_K f n (sp_sum (sp_K f n) (sp_V f n) 6 t p).2.1) = true := by rw [k11]; rfl
      simp only [if_pos hcs]
      refine rr_callV d_Mo_compare_31 il_Mo_61 m_Mo_is (u_is_t 13 (by decide) hn k11) rfl rfl rfl rfl (Nat.le_of_ble_eq_true rfl) (Nat.le_of_ble_eq_true rfl) (Nat.le_of_ble_eq_true rfl) (Nat.le_of_ble_eq_true rfl) (Nat.le_of_ble_eq_true rfl) (fun rv9 hp9 hq => ?_)
      obtain ⟨rfl, rfl⟩ := hq
      refine rr_if_ne 60 d_Mo_compare_34 (by decide) (fun _ => ?_) (fun c9 => absurd c9 (by decide))
      exact rr_lvs _ rfl (go hcs)
    refine rr_callV d_Mo_compare_31 il_Mo_61 m_Mo_is (u_is_f 13 (by decide) hn k11) rfl rfl rfl rfl (Nat.le_of_ble_eq_true rfl) (Nat.le_of_ble_eq_true rfl) (Nat.le_of_ble_eq_true rfl) (Nat.le_of_ble_eq_true rfl) (Nat.le_of_ble_eq_true rfl) (fun rv9 hp9 hq => ?_)
    obtain ⟨rfl, rfl⟩ := hq
    refine rr_if_ne 60 d_Mo_compare_34 (by decide) (fun c9 => absurd (rfl) c9) (fun _ => ?_)
    refine rr_aload_n d_Mo_compare_37 rfl rfl ?_
    refine rr_ldcS d_Mo_compare_38 sl_Mo_164 ?_
    by_cases k12 : sp_K f n (sp_sum (sp_K f n) (sp_V f n) 6 t p).2.1 = 12
    · have hcs : sp_cs (sp_K f n (sp_sum (sp_K f n) (sp_V f n) 6 t p).2.1) = true := by rw [k12]; rfl
      simp only [if_pos hcs]
      refine rr_callV d_Mo_compare_40 il_Mo_61 m_Mo_is (u_is_t 14 (by decide) hn k12) rfl rfl rfl rfl (Nat.le_of_ble_eq_true rfl) (Nat.le_of_ble_eq_true rfl) (Nat.le_of_ble_eq_true rfl) (Nat.le_of_ble_eq_true rfl) (Nat.le_of_ble_eq_true rfl) (fun rv9 hp9 hq => ?_)
      obtain ⟨rfl, rfl⟩ := hq
      refine rr_if_ne 60 d_Mo_compare_43 (by decide) (fun _ => ?_) (fun c9 => absurd c9 (by decide))
      exact rr_lvs _ rfl (go hcs)
    refine rr_callV d_Mo_compare_40 il_Mo_61 m_Mo_is (u_is_f 14 (by decide) hn k12) rfl rfl rfl rfl (Nat.le_of_ble_eq_true rfl) (Nat.le_of_ble_eq_true rfl) (Nat.le_of_ble_eq_true rfl) (Nat.le_of_ble_eq_true rfl) (Nat.le_of_ble_eq_true rfl) (fun rv9 hp9 hq => ?_)
    obtain ⟨rfl, rfl⟩ := hq
    refine rr_if_ne 60 d_Mo_compare_43 (by decide) (fun c9 => absurd (rfl) c9) (fun _ => ?_)
    refine rr_aload_n d_Mo_compare_46 rfl rfl ?_
    refine rr_ldcS d_Mo_compare_47 sl_Mo_166 ?_
    by_cases k13 : sp_K f n (sp_sum (sp_K f n) (sp_V f n) 6 t p).2.1 = 13
    · have hcs : sp_cs (sp_K f n (sp_sum (sp_K f n) (sp_V f n) 6 t p).2.1) = true := by rw [k13]; rfl
      simp only [if_pos hcs]
      refine rr_callV d_Mo_compare_49 il_Mo_61 m_Mo_is (u_is_t 15 (by decide) hn k13) rfl rfl rfl rfl (Nat.le_of_ble_eq_true rfl) (Nat.le_of_ble_eq_true rfl) (Nat.le_of_ble_eq_true rfl) (Nat.le_of_ble_eq_true rfl) (Nat.le_of_ble_eq_true rfl) (fun rv9 hp9 hq => ?_)
      obtain ⟨rfl, rfl⟩ := hq
      refine rr_if_ne 60 d_Mo_compare_52 (by decide) (fun _ => ?_) (fun c9 => absurd c9 (by decide))
      exact rr_lvs _ rfl (go hcs)
    refine rr_callV d_Mo_compare_49 il_Mo_61 m_Mo_is (u_is_f 15 (by decide) hn k13) rfl rfl rfl rfl (Nat.le_of_ble_eq_true rfl) (Nat.le_of_ble_eq_true rfl) (Nat.le_of_ble_eq_true rfl) (Nat.le_of_ble_eq_true rfl) (Nat.le_of_ble_eq_true rfl) (fun rv9 hp9 hq => ?_)
    obtain ⟨rfl, rfl⟩ := hq
    refine rr_if_ne 60 d_Mo_compare_52 (by decide) (fun c9 => absurd (rfl) c9) (fun _ => ?_)
    refine rr_aload_n d_Mo_compare_55 rfl rfl ?_
    have hcs : ¬ sp_cs (sp_K f n (sp_sum (sp_K f n) (sp_V f n) 6 t p).2.1) = true := by simp [sp_cs, k10, k11, k12, k13]
    simp only [if_neg hcs]
    refine rr_callV d_Mo_compare_56 il_Mo_113 m_Mo_bad (t_bad) rfl rfl rfl rfl (Nat.le_of_ble_eq_true rfl) (Nat.le_of_ble_eq_true rfl) (Nat.le_of_ble_eq_true rfl) (Nat.le_of_ble_eq_true rfl) (Nat.le_of_ble_eq_true rfl) (fun rv9 hp9 hq => ?_)
    obtain ⟨rfl, rfl⟩ := hq
    exact rr_ireturn d_Mo_compare_59 rfl rfl (Nat.le_of_ble_eq_true rfl) (Nat.le_of_ble_eq_true rfl) (⟨nu3, _, _, _, rfl, rfl, h93, fun h => by cases h⟩)
  · simp only [if_neg hx]
    rw [(Bool.not_eq_true _).mp hx]
    refine rr_if_ne 19 d_Mo_compare_14 (by decide) (fun c9 => absurd (rfl) c9) (fun _ => ?_)
    refine rr_iconst 0 d_Mo_compare_17 rfl ?_
    exact rr_ireturn d_Mo_compare_18 rfl rfl (Nat.le_of_ble_eq_true rfl) (Nat.le_of_ble_eq_true rfl) (⟨nu3, pa3, y3, cd3, rfl, rfl, h93, fun h => by cases h⟩)
