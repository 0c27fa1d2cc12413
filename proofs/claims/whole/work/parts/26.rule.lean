/-! The reader: tests, effects, rules. -/
theorem co_k_c (f : Nat → Int32) (s : Nat) (L x y : sp_I) (g : Nat) (v : Int32) : upd (co_k (co_k (co_k f s L) (s + L.length) x) (s + L.length + x.length) y) (s + L.length + x.length + y.length) (nI g) = co_k f s (L ++ (x ++ y ++ [(g, v)])) := by
  rw [co_k_app, co_k_app, co_k_app, co_k_1, List.length_append]
  simp only [Nat.add_assoc]
theorem co_v_c (f : Nat → Int32) (s : Nat) (L x y : sp_I) (g : Nat) (v : Int32) : upd (co_v (co_v (co_v f s L) (s + L.length) x) (s + L.length + x.length) y) (s + L.length + x.length + y.length) v = co_v f s (L ++ (x ++ y ++ [(g, v)])) := by
  rw [co_v_app, co_v_app, co_v_app, co_v_1, List.length_append]
  simp only [Nat.add_assoc]
theorem co_l_c (s : Nat) (L x y : sp_I) (q : Nat × Int32) : s + L.length + x.length + y.length + 1 = s + (L ++ (x ++ y ++ [q])).length := by
  simp only [List.length_append, List.length_cons, List.length_nil]
  omega
theorem fl_c_app (ts : List sp_C) (x y : sp_I) (g : Nat) : ts.flatMap fl_c ++ (x ++ y ++ [(g, 0)]) = (ts ++ [(x, y, g)]).flatMap fl_c := by
  rw [List.flatMap_append]
  simp [fl_c]
theorem co_k_f (f : Nat → Int32) (s : Nat) (L x : sp_I) (g : Nat) (v : Int32) : upd (co_k (co_k f s L) (s + L.length) x) (s + L.length + x.length) (nI g) = co_k f s (L ++ (x ++ [(g, v)])) := by
  rw [co_k_app, co_k_app, co_k_1]
theorem fl_f_app (es : List sp_F) (e : sp_F) : es.flatMap fl_f ++ fl_f e = (es ++ [e]).flatMap fl_f := by
  rw [List.flatMap_append]
  simp

set_option maxRecDepth 100000 in
set_option maxHeartbeats 4000000 in
theorem l_Re_readTest {x0 x1 x2 x7 : va_E} {g : rr_H} {K : Nat → Nat} {V : Nat → Int32} {M : Nat} {sz rl : Int32} {fk fv : Nat → Int32} {p0 s : Nat} {ck cv : Nat → Int32} (ht : tq K V M fk fv) (hs : s ≤ 2 * p0) : ∀ (n a p : Nat) (ts : List sp_C), n ≤ 80 → a ≤ M → p ≤ 80 → p0 ≤ p → (ts.flatMap fl_c).length ≤ 2 * (p - p0) → rr_A R_Re c_Re_readTest 3 (some .boolean) (false, none) { frames := 24, cells := 0, slots := 0, locals := 24 * 64 } (re_Q M ((sp_test K V n a p ts).1, (sp_test K V n a p ts).2.1, (sp_test K V n a p ts).2.2.1, (sp_test K V n a p ts).2.2.2.flatMap fl_c) s ck cv (fun a p s ck cv => x0 :: x1 :: x2 :: .inr (2, [.ref 4, .ref 8, .int (nI a), .int (nI p)]) :: .inr (4, [.ref 5, .ref 6, .ref 7, .int sz]) :: .inl (0, 401, .inl fk) :: .inl (0, 401, .inl fv) :: x7 :: .inr (0, [.ref 9, .ref 10, .ref 11, .int (nI s), .int rl]) :: .inl (0, 160, .inl (ck)) :: .inl (0, 160, .inl (cv)) :: g)) 0 0 2 [(1, .int (nI (80 - n))), (0, .ref 3)] [] (x0 :: x1 :: x2 :: .inr (2, [.ref 4, .ref 8, .int (nI a), .int (nI p)]) :: .inr (4, [.ref 5, .ref 6, .ref 7, .int sz]) :: .inl (0, 401, .inl fk) :: .inl (0, 401, .inl fv) :: x7 :: .inr (0, [.ref 9, .ref 10, .ref 11, .int (nI (s + (ts.flatMap fl_c).length)), .int rl]) :: .inl (0, 160, .inl (co_k ck s (ts.flatMap fl_c))) :: .inl (0, 160, .inl (co_v cv s (ts.flatMap fl_c))) :: g) := by
  have hM := ht.2.1
  have i20 : ∀ {j k : Nat}, j ≤ M → k ≤ 20 → (fk j = nI k ↔ K j = k) := fun hj hk => tq_k ht hj hk
  intro n
  induction n with
  | zero =>
    intro a p ts hn ha hp hp0 hL
    refine rr_iload_n d_Re_readTest_2 rfl rfl ?_
    refine rr_bipush 80 d_Re_readTest_3 rfl ?_
    refine rr_icmp_ge 108 d_Re_readTest_5 (by decide) (fun _ => ?_) (fun c9 => absurd (by decide) c9)
    refine rr_iconst 0 d_Re_readTest_108 rfl ?_
    exact rr_ireturn d_Re_readTest_109 rfl rfl (Nat.le_of_ble_eq_true rfl) (Nat.le_of_ble_eq_true rfl) (⟨s + (ts.flatMap fl_c).length, _, _, rfl, rfl, by omega, fun h => by cases h⟩)
  | succ n ih =>
    intro a p ts hn ha hp hp0 hL
    obtain ⟨i1, i2⟩ := sp_snd_s (V := V) ht.1 6 a p ha hp
    refine rr_iload_n d_Re_readTest_2 rfl rfl ?_
    refine rr_bipush 80 d_Re_readTest_3 rfl ?_
    refine rr_icmp_ge 108 d_Re_readTest_5 (by decide) (fun c9 => absurd c9 (nI_ge (a := 80 - (n + 1)) (b := 80) (by omega) (by decide))) (fun _ => ?_)
    refine rr_aload_n d_Re_readTest_8 rfl rfl ?_
    refine rr_iconst 0 d_Re_readTest_9 rfl ?_
    refine rr_callV d_Re_readTest_10 il_Re_63 m_Re_readSum (s_sum_all ht 6 0 rfl a p (s + (ts.flatMap fl_c).length) (co_k ck s (ts.flatMap fl_c)) (co_v cv s (ts.flatMap fl_c)) ha hp (by omega)) rfl rfl rfl rfl (Nat.le_of_ble_eq_true rfl) (Nat.le_of_ble_eq_true rfl) (Nat.le_of_ble_eq_true rfl) (Nat.le_of_ble_eq_true rfl) (Nat.le_of_ble_eq_true rfl) (fun r h1 hq => ?_)
    obtain ⟨s2, ck2, cv2, rfl, rfl, hs2, hok⟩ := hq
    unfold sp_test sp_cmp
    by_cases hx : (sp_sum K V 6 a p).1 = true
    · simp only [if_pos hx]
      rw [hx]
      obtain ⟨rfl, rfl, rfl⟩ := hok hx
      obtain ⟨j1, j2, j3⟩ := i2 hx
      refine rr_if_ne 18 d_Re_readTest_13 (by decide) (fun _ => ?_) (fun c9 => absurd c9 (by decide))
      refine rr_aload_n d_Re_readTest_18 rfl rfl ?_
      refine rr_getf d_Re_readTest_19 fl_Re_12 rfl rfl ?_
      refine rr_getf d_Re_readTest_22 fl_Re_66 rfl rfl ?_
      refine rr_aload_n d_Re_readTest_25 rfl rfl ?_
      refine rr_getf d_Re_readTest_26 fl_Re_32 rfl rfl ?_
      refine rr_iald d_Re_readTest_29 rfl (vp_in_nI (n := (sp_sum K V 6 a p).2.1) (by omega) (by decide)) ?_
      refine rr_istore_n d_Re_readTest_30 rfl (by decide) ?_
      refine rr_aload_n d_Re_readTest_31 rfl rfl ?_
      refine rr_bipush 10 d_Re_readTest_32 rfl ?_
      rw [nI_clamp (by omega), (ht.2.2.1 _ i1).1]
      have go : sp_cs (K (sp_sum K V 6 a p).2.1) = true → rr_A R_Re c_Re_readTest 3 (some .boolean) (false, none) { frames := 24, cells := 0, slots := 0, locals := 24 * 64 } (re_Q M ((if (sp_sum K V 6 ((sp_sum K V 6 a p).2.1 + 1) (sp_sum K V 6 a p).2.2.1).1 = true then (if K (sp_sum K V 6 ((sp_sum K V 6 a p).2.1 + 1) (sp_sum K V 6 a p).2.2.1).2.1 = 5 then sp_test K V n ((sp_sum K V 6 ((sp_sum K V 6 a p).2.1 + 1) (sp_sum K V 6 a p).2.2.1).2.1 + 1) (sp_sum K V 6 ((sp_sum K V 6 a p).2.1 + 1) (sp_sum K V 6 a p).2.2.1).2.2.1 (ts ++ [((sp_sum K V 6 a p).2.2.2, (sp_sum K V 6 ((sp_sum K V 6 a p).2.1 + 1) (sp_sum K V 6 a p).2.2.1).2.2.2, K (sp_sum K V 6 a p).2.1)]) else if K (sp_sum K V 6 ((sp_sum K V 6 a p).2.1 + 1) (sp_sum K V 6 a p).2.2.1).2.1 = 3 then (true, (sp_sum K V 6 ((sp_sum K V 6 a p).2.1 + 1) (sp_sum K V 6 a p).2.2.1).2.1 + 1, (sp_sum K V 6 ((sp_sum K V 6 a p).2.1 + 1) (sp_sum K V 6 a p).2.2.1).2.2.1, ts ++ [((sp_sum K V 6 a p).2.2.2, (sp_sum K V 6 ((sp_sum K V 6 a p).2.1 + 1) (sp_sum K V 6 a p).2.2.1).2.2.2, K (sp_sum K V 6 a p).2.1)]) else (false, (sp_sum K V 6 ((sp_sum K V 6 a p).2.1 + 1) (sp_sum K V 6 a p).2.2.1).2.1, (sp_sum K V 6 ((sp_sum K V 6 a p).2.1 + 1) (sp_sum K V 6 a p).2.2.1).2.2.1, ts)) else (false, (sp_sum K V 6 ((sp_sum K V 6 a p).2.1 + 1) (sp_sum K V 6 a p).2.2.1).2.1, (sp_sum K V 6 ((sp_sum K V 6 a p).2.1 + 1) (sp_sum K V 6 a p).2.2.1).2.2.1, ts)).1, (if (sp_sum K V 6 ((sp_sum K V 6 a p).2.1 + 1) (sp_sum K V 6 a p).2.2.1).1 = true then (if K (sp_sum K V 6 ((sp_sum K V 6 a p).2.1 + 1) (sp_sum K V 6 a p).2.2.1).2.1 = 5 then sp_test K V n ((sp_sum K V 6 ((sp_sum K V 6 a p).2.1 + 1) (sp_sum K V 6 a p).2.2.1).2.1 + 1) (sp_sum K V 6 ((sp_sum K V 6 a p).2.1 + 1) (sp_sum K V 6 a p).2.2.1).2.2.1 (ts ++ [((sp_sum K V 6 a p).2.2.2, (sp_sum K V 6 ((sp_sum K V 6 a p).2.1 + 1) (sp_sum K V 6 a p).2.2.1).2.2.2, K (sp_sum K V 6 a p).2.1)]) else if K (sp_sum K V 6 ((sp_sum K V 6 a p).2.1 + 1) (sp_sum K V 6 a p).2.2.1).2.1 = 3 then (true, (sp_sum K V 6 ((sp_sum K V 6 a p).2.1 + 1) (sp_sum K V 6 a p).2.2.1).2.1 + 1, (sp_sum K V 6 ((sp_sum K V 6 a p).2.1 + 1) (sp_sum K V 6 a p).2.2.1).2.2.1, ts ++ [((sp_sum K V 6 a p).2.2.2, (sp_sum K V 6 ((sp_sum K V 6 a p).2.1 + 1) (sp_sum K V 6 a p).2.2.1).2.2.2, K (sp_sum K V 6 a p).2.1)]) else (false, (sp_sum K V 6 ((sp_sum K V 6 a p).2.1 + 1) (sp_sum K V 6 a p).2.2.1).2.1, (sp_sum K V 6 ((sp_sum K V 6 a p).2.1 + 1) (sp_sum K V 6 a p).2.2.1).2.2.1, ts)) else (false, (sp_sum K V 6 ((sp_sum K V 6 a p).2.1 + 1) (sp_sum K V 6 a p).2.2.1).2.1, (sp_sum K V 6 ((sp_sum K V 6 a p).2.1 + 1) (sp_sum K V 6 a p).2.2.1).2.2.1, ts)).2.1, (if (sp_sum K V 6 ((sp_sum K V 6 a p).2.1 + 1) (sp_sum K V 6 a p).2.2.1).1 = true then (if K (sp_sum K V 6 ((sp_sum K V 6 a p).2.1 + 1) (sp_sum K V 6 a p).2.2.1).2.1 = 5 then sp_test K V n ((sp_sum K V 6 ((sp_sum K V 6 a p).2.1 + 1) (sp_sum K V 6 a p).2.2.1).2.1 + 1) (sp_sum K V 6 ((sp_sum K V 6 a p).2.1 + 1) (sp_sum K V 6 a p).2.2.1).2.2.1 (ts ++ [((sp_sum K V 6 a p).2.2.2, (sp_sum K V 6 ((sp_sum K V 6 a p).2.1 + 1) (sp_sum K V 6 a p).2.2.1).2.2.2, K (sp_sum K V 6 a p).2.1)]) else if K (sp_sum K V 6 ((sp_sum K V 6 a p).2.1 + 1) (sp_sum K V 6 a p).2.2.1).2.1 = 3 then (true, (sp_sum K V 6 ((sp_sum K V 6 a p).2.1 + 1) (sp_sum K V 6 a p).2.2.1).2.1 + 1, (sp_sum K V 6 ((sp_sum K V 6 a p).2.1 + 1) (sp_sum K V 6 a p).2.2.1).2.2.1, ts ++ [((sp_sum K V 6 a p).2.2.2, (sp_sum K V 6 ((sp_sum K V 6 a p).2.1 + 1) (sp_sum K V 6 a p).2.2.1).2.2.2, K (sp_sum K V 6 a p).2.1)]) else (false, (sp_sum K V 6 ((sp_sum K V 6 a p).2.1 + 1) (sp_sum K V 6 a p).2.2.1).2.1, (sp_sum K V 6 ((sp_sum K V 6 a p).2.1 + 1) (sp_sum K V 6 a p).2.2.1).2.2.1, ts)) else (false, (sp_sum K V 6 ((sp_sum K V 6 a p).2.1 + 1) (sp_sum K V 6 a p).2.2.1).2.1, (sp_sum K V 6 ((sp_sum K V 6 a p).2.1 + 1) (sp_sum K V 6 a p).2.2.1).2.2.1, ts)).2.2.1, (if (sp_sum K V 6 ((sp_sum K V 6 a p).2.1 + 1) (sp_sum K V 6 a p).2.2.1).1 = true then (if K (sp_sum K V 6 ((sp_sum K V 6 a p).2.1 + 1) (sp_sum K V 6 a p).2.2.1).2.1 = 5 then sp_test K V n ((sp_sum K V 6 ((sp_sum K V 6 a p).2.1 + 1) (sp_sum K V 6 a p).2.2.1).2.1 + 1) (sp_sum K V 6 ((sp_sum K V 6 a p).2.1 + 1) (sp_sum K V 6 a p).2.2.1).2.2.1 (ts ++ [((sp_sum K V 6 a p).2.2.2, (sp_sum K V 6 ((sp_sum K V 6 a p).2.1 + 1) (sp_sum K V 6 a p).2.2.1).2.2.2, K (sp_sum K V 6 a p).2.1)]) else if K (sp_sum K V 6 ((sp_sum K V 6 a p).2.1 + 1) (sp_sum K V 6 a p).2.2.1).2.1 = 3 then (true, (sp_sum K V 6 ((sp_sum K V 6 a p).2.1 + 1) (sp_sum K V 6 a p).2.2.1).2.1 + 1, (sp_sum K V 6 ((sp_sum K V 6 a p).2.1 + 1) (sp_sum K V 6 a p).2.2.1).2.2.1, ts ++ [((sp_sum K V 6 a p).2.2.2, (sp_sum K V 6 ((sp_sum K V 6 a p).2.1 + 1) (sp_sum K V 6 a p).2.2.1).2.2.2, K (sp_sum K V 6 a p).2.1)]) else (false, (sp_sum K V 6 ((sp_sum K V 6 a p).2.1 + 1) (sp_sum K V 6 a p).2.2.1).2.1, (sp_sum K V 6 ((sp_sum K V 6 a p).2.1 + 1) (sp_sum K V 6 a p).2.2.1).2.2.1, ts)) else (false, (sp_sum K V 6 ((sp_sum K V 6 a p).2.1 + 1) (sp_sum K V 6 a p).2.2.1).2.1, (sp_sum K V 6 ((sp_sum K V 6 a p).2.1 + 1) (sp_sum K V 6 a p).2.2.1).2.2.1, ts)).2.2.2.flatMap fl_c) s ck cv (fun a p s ck cv => x0 :: x1 :: x2 :: .inr (2, [.ref 4, .ref 8, .int (nI a), .int (nI p)]) :: .inr (4, [.ref 5, .ref 6, .ref 7, .int sz]) :: .inl (0, 401, .inl fk) :: .inl (0, 401, .inl fv) :: x7 :: .inr (0, [.ref 9, .ref 10, .ref 11, .int (nI s), .int rl]) :: .inl (0, 160, .inl (ck)) :: .inl (0, 160, .inl (cv)) :: g)) 0 0 69 [(2, .int (nI (K (sp_sum K V 6 a p).2.1))), (1, .int (nI (80 - (n + 1)))), (0, .ref 3)] [] (x0 :: x1 :: x2 :: .inr (2, [.ref 4, .ref 8, .int (nI ((sp_sum K V 6 a p).2.1 + 1)), .int (nI (sp_sum K V 6 a p).2.2.1)]) :: .inr (4, [.ref 5, .ref 6, .ref 7, .int sz]) :: .inl (0, 401, .inl fk) :: .inl (0, 401, .inl fv) :: x7 :: .inr (0, [.ref 9, .ref 10, .ref 11, .int (nI (s + (ts.flatMap fl_c).length + (sp_sum K V 6 a p).2.2.2.length)), .int rl]) :: .inl (0, 160, .inl (co_k (co_k ck s (ts.flatMap fl_c)) (s + (ts.flatMap fl_c).length) (sp_sum K V 6 a p).2.2.2)) :: .inl (0, 160, .inl (co_v (co_v cv s (ts.flatMap fl_c)) (s + (ts.flatMap fl_c).length) (sp_sum K V 6 a p).2.2.2)) :: g) := by
        intro hcs
        have hl : (sp_sum K V 6 a p).2.1 < M := by
          rcases Nat.lt_or_ge (sp_sum K V 6 a p).2.1 M with q | q
          · exact q
          · rw [show (sp_sum K V 6 a p).2.1 = M by omega, ht.1] at hcs
            cases hcs
        obtain ⟨y1, y2⟩ := sp_snd_s (V := V) ht.1 6 ((sp_sum K V 6 a p).2.1 + 1) (sp_sum K V 6 a p).2.2.1 hl j2
        refine rr_aload_n d_Re_readTest_69 rfl rfl ?_
        refine rr_iconst 0 d_Re_readTest_70 rfl ?_
        refine rr_callV d_Re_readTest_71 il_Re_63 m_Re_readSum (s_sum_all ht 6 0 rfl ((sp_sum K V 6 a p).2.1 + 1) (sp_sum K V 6 a p).2.2.1 _ _ _ hl j2 (by omega)) rfl rfl rfl rfl (Nat.le_of_ble_eq_true rfl) (Nat.le_of_ble_eq_true rfl) (Nat.le_of_ble_eq_true rfl) (Nat.le_of_ble_eq_true rfl) (Nat.le_of_ble_eq_true rfl) (fun r h1 hq => ?_)
        obtain ⟨s3, ck3, cv3, rfl, rfl, hs3, hok3⟩ := hq
        by_cases hy : (sp_sum K V 6 ((sp_sum K V 6 a p).2.1 + 1) (sp_sum K V 6 a p).2.2.1).1 = true
        · simp only [if_pos hy]
          rw [hy]
          obtain ⟨rfl, rfl, rfl⟩ := hok3 hy
          obtain ⟨z1, z2, z3⟩ := y2 hy
          refine rr_if_ne 79 d_Re_readTest_74 (by decide) (fun _ => ?_) (fun c9 => absurd c9 (by decide))
          refine rr_aload_n d_Re_readTest_79 rfl rfl ?_
          refine rr_getf d_Re_readTest_80 fl_Re_21 rfl rfl ?_
          refine rr_iload_n d_Re_readTest_83 rfl rfl ?_
          refine rr_iconst 0 d_Re_readTest_84 rfl ?_
          refine rr_callV d_Re_readTest_85 il_Re_69 m_Co_add (s_Co_add (by omega)) rfl rfl rfl rfl (Nat.le_of_ble_eq_true rfl) (Nat.le_of_ble_eq_true rfl) (Nat.le_of_ble_eq_true rfl) (Nat.le_of_ble_eq_true rfl) (Nat.le_of_ble_eq_true rfl) (fun r h1 hq => ?_)
          obtain ⟨rfl, rfl⟩ := hq
          rw [co_k_c ck s (ts.flatMap fl_c) (sp_sum K V 6 a p).2.2.2 (sp_sum K V 6 ((sp_sum K V 6 a p).2.1 + 1) (sp_sum K V 6 a p).2.2.1).2.2.2 (K (sp_sum K V 6 a p).2.1) 0, co_v_c cv s (ts.flatMap fl_c) (sp_sum K V 6 a p).2.2.2 (sp_sum K V 6 ((sp_sum K V 6 a p).2.1 + 1) (sp_sum K V 6 a p).2.2.1).2.2.2 (K (sp_sum K V 6 a p).2.1) 0, co_l_c s (ts.flatMap fl_c) (sp_sum K V 6 a p).2.2.2 (sp_sum K V 6 ((sp_sum K V 6 a p).2.1 + 1) (sp_sum K V 6 a p).2.2.1).2.2.2 (K (sp_sum K V 6 a p).2.1, 0), fl_c_app]
          have hLn : ((ts ++ [((sp_sum K V 6 a p).2.2.2, (sp_sum K V 6 ((sp_sum K V 6 a p).2.1 + 1) (sp_sum K V 6 a p).2.2.1).2.2.2, K (sp_sum K V 6 a p).2.1)]).flatMap fl_c).length ≤ 2 * ((sp_sum K V 6 ((sp_sum K V 6 a p).2.1 + 1) (sp_sum K V 6 a p).2.2.1).2.2.1 - p0) := by
            rw [← fl_c_app, List.length_append]
            simp only [List.length_append, List.length_cons, List.length_nil]
            omega
          refine rr_aload_n d_Re_readTest_88 rfl rfl ?_
          refine rr_iconst 5 d_Re_readTest_89 rfl ?_
          by_cases k5 : K (sp_sum K V 6 ((sp_sum K V 6 a p).2.1 + 1) (sp_sum K V 6 a p).2.2.1).2.1 = 5
          · simp only [if_pos k5]
            have e5 : fk (sp_sum K V 6 ((sp_sum K V 6 a p).2.1 + 1) (sp_sum K V 6 a p).2.2.1).2.1 = 5 := (i20 (k := 5) y1 (by decide)).mpr k5
            have l5 := sp_lt ht.1 y1 k5 (by decide)
            refine rr_callV d_Re_readTest_90 il_Re_50 m_Re_pass (s_Re_pass_t (by omega) e5) rfl rfl rfl rfl (Nat.le_of_ble_eq_true rfl) (Nat.le_of_ble_eq_true rfl) (Nat.le_of_ble_eq_true rfl) (Nat.le_of_ble_eq_true rfl) (Nat.le_of_ble_eq_true rfl) (fun r h1 hq => ?_)
            obtain ⟨rfl, rfl⟩ := hq
            refine rr_if_ne 102 d_Re_readTest_93 (by decide) (fun _ => ?_) (fun c9 => absurd c9 (by decide))
            refine rr_iinc 1 d_Re_readTest_102 rfl rfl (by decide) ?_
            refine rr_goto 2 d_Re_readTest_105 (by decide) ?_
            rw [nI_1, show 80 - (n + 1) + 1 = 80 - n by omega]
            exact rr_lvs _ rfl (ih ((sp_sum K V 6 ((sp_sum K V 6 a p).2.1 + 1) (sp_sum K V 6 a p).2.2.1).2.1 + 1) (sp_sum K V 6 ((sp_sum K V 6 a p).2.1 + 1) (sp_sum K V 6 a p).2.2.1).2.2.1 _ (by omega) l5 z2 (by omega) hLn)
          · simp only [if_neg k5]
            have e5 : ¬ fk (sp_sum K V 6 ((sp_sum K V 6 a p).2.1 + 1) (sp_sum K V 6 a p).2.2.1).2.1 = 5 := fun q => k5 ((i20 (k := 5) y1 (by decide)).mp q)
            refine rr_callV d_Re_readTest_90 il_Re_50 m_Re_pass (s_Re_pass_f (by omega) e5) rfl rfl rfl rfl (Nat.le_of_ble_eq_true rfl) (Nat.le_of_ble_eq_true rfl) (Nat.le_of_ble_eq_true rfl) (Nat.le_of_ble_eq_true rfl) (Nat.le_of_ble_eq_true rfl) (fun r h1 hq => ?_)
            obtain ⟨rfl, rfl⟩ := hq
            refine rr_if_ne 102 d_Re_readTest_93 (by decide) (fun c9 => absurd (rfl) c9) (fun _ => ?_)
            refine rr_aload_n d_Re_readTest_96 rfl rfl ?_
            refine rr_iconst 3 d_Re_readTest_97 rfl ?_
            by_cases k3 : K (sp_sum K V 6 ((sp_sum K V 6 a p).2.1 + 1) (sp_sum K V 6 a p).2.2.1).2.1 = 3
            · simp only [if_pos k3]
              have e3 : fk (sp_sum K V 6 ((sp_sum K V 6 a p).2.1 + 1) (sp_sum K V 6 a p).2.2.1).2.1 = 3 := (i20 (k := 3) y1 (by decide)).mpr k3
              refine rr_callV d_Re_readTest_98 il_Re_50 m_Re_pass (s_Re_pass_t (by omega) e3) rfl rfl rfl rfl (Nat.le_of_ble_eq_true rfl) (Nat.le_of_ble_eq_true rfl) (Nat.le_of_ble_eq_true rfl) (Nat.le_of_ble_eq_true rfl) (Nat.le_of_ble_eq_true rfl) (fun r h1 hq => ?_)
              obtain ⟨rfl, rfl⟩ := hq
              exact rr_ireturn d_Re_readTest_101 rfl rfl (Nat.le_of_ble_eq_true rfl) (Nat.le_of_ble_eq_true rfl) (⟨_, _, _, rfl, rfl, by omega, fun _ => ⟨rfl, rfl, rfl⟩⟩)
            · simp only [if_neg k3]
              have e3 : ¬ fk (sp_sum K V 6 ((sp_sum K V 6 a p).2.1 + 1) (sp_sum K V 6 a p).2.2.1).2.1 = 3 := fun q => k3 ((i20 (k := 3) y1 (by decide)).mp q)
              refine rr_callV d_Re_readTest_98 il_Re_50 m_Re_pass (s_Re_pass_f (by omega) e3) rfl rfl rfl rfl (Nat.le_of_ble_eq_true rfl) (Nat.le_of_ble_eq_true rfl) (Nat.le_of_ble_eq_true rfl) (Nat.le_of_ble_eq_true rfl) (Nat.le_of_ble_eq_true rfl) (fun r h1 hq => ?_)
              obtain ⟨rfl, rfl⟩ := hq
              exact rr_ireturn d_Re_readTest_101 rfl rfl (Nat.le_of_ble_eq_true rfl) (Nat.le_of_ble_eq_true rfl) (⟨_, _, _, rfl, rfl, by omega, fun h => by cases h⟩)
        · simp only [if_neg hy]
          rw [(Bool.not_eq_true _).mp hy]
          refine rr_if_ne 79 d_Re_readTest_74 (by decide) (fun c9 => absurd (rfl) c9) (fun _ => ?_)
          refine rr_iconst 0 d_Re_readTest_77 rfl ?_
          exact rr_ireturn d_Re_readTest_78 rfl rfl (Nat.le_of_ble_eq_true rfl) (Nat.le_of_ble_eq_true rfl) (⟨s3, ck3, cv3, rfl, rfl, hs3, fun h => by cases h⟩)
      by_cases k10 : K (sp_sum K V 6 a p).2.1 = 10
      · have hcs : sp_cs (K (sp_sum K V 6 a p).2.1) = true := by rw [k10]; rfl
        simp only [if_pos hcs]
        have ej : fk (sp_sum K V 6 a p).2.1 = 10 := (i20 (k := 10) i1 (by decide)).mpr k10
        refine rr_callV d_Re_readTest_34 il_Re_50 m_Re_pass (s_Re_pass_t (by omega) ej) rfl rfl rfl rfl (Nat.le_of_ble_eq_true rfl) (Nat.le_of_ble_eq_true rfl) (Nat.le_of_ble_eq_true rfl) (Nat.le_of_ble_eq_true rfl) (Nat.le_of_ble_eq_true rfl) (fun r h1 hq => ?_)
        obtain ⟨rfl, rfl⟩ := hq
        refine rr_if_ne 69 d_Re_readTest_37 (by decide) (fun _ => ?_) (fun c9 => absurd c9 (by decide))
        exact rr_lvs _ rfl (go hcs)
      have e10 : ¬ fk (sp_sum K V 6 a p).2.1 = 10 := fun q => k10 ((i20 (k := 10) i1 (by decide)).mp q)
      refine rr_callV d_Re_readTest_34 il_Re_50 m_Re_pass (s_Re_pass_f (by omega) e10) rfl rfl rfl rfl (Nat.le_of_ble_eq_true rfl) (Nat.le_of_ble_eq_true rfl) (Nat.le_of_ble_eq_true rfl) (Nat.le_of_ble_eq_true rfl) (Nat.le_of_ble_eq_true rfl) (fun r h1 hq => ?_)
      obtain ⟨rfl, rfl⟩ := hq
      refine rr_if_ne 69 d_Re_readTest_37 (by decide) (fun c9 => absurd (rfl) c9) (fun _ => ?_)
      refine rr_aload_n d_Re_readTest_40 rfl rfl ?_
      refine rr_bipush 11 d_Re_readTest_41 rfl ?_
      by_cases k11 : K (sp_sum K V 6 a p).2.1 = 11
      · have hcs : sp_cs (K (sp_sum K V 6 a p).2.1) = true := by rw [k11]; rfl
        simp only [if_pos hcs]
        have ej : fk (sp_sum K V 6 a p).2.1 = 11 := (i20 (k := 11) i1 (by decide)).mpr k11
        refine rr_callV d_Re_readTest_43 il_Re_50 m_Re_pass (s_Re_pass_t (by omega) ej) rfl rfl rfl rfl (Nat.le_of_ble_eq_true rfl) (Nat.le_of_ble_eq_true rfl) (Nat.le_of_ble_eq_true rfl) (Nat.le_of_ble_eq_true rfl) (Nat.le_of_ble_eq_true rfl) (fun r h1 hq => ?_)
        obtain ⟨rfl, rfl⟩ := hq
        refine rr_if_ne 69 d_Re_readTest_46 (by decide) (fun _ => ?_) (fun c9 => absurd c9 (by decide))
        exact rr_lvs _ rfl (go hcs)
      have e11 : ¬ fk (sp_sum K V 6 a p).2.1 = 11 := fun q => k11 ((i20 (k := 11) i1 (by decide)).mp q)
      refine rr_callV d_Re_readTest_43 il_Re_50 m_Re_pass (s_Re_pass_f (by omega) e11) rfl rfl rfl rfl (Nat.le_of_ble_eq_true rfl) (Nat.le_of_ble_eq_true rfl) (Nat.le_of_ble_eq_true rfl) (Nat.le_of_ble_eq_true rfl) (Nat.le_of_ble_eq_true rfl) (fun r h1 hq => ?_)
      obtain ⟨rfl, rfl⟩ := hq
      refine rr_if_ne 69 d_Re_readTest_46 (by decide) (fun c9 => absurd (rfl) c9) (fun _ => ?_)
      refine rr_aload_n d_Re_readTest_49 rfl rfl ?_
      refine rr_bipush 12 d_Re_readTest_50 rfl ?_
      by_cases k12 : K (sp_sum K V 6 a p).2.1 = 12
      · have hcs : sp_cs (K (sp_sum K V 6 a p).2.1) = true := by rw [k12]; rfl
        simp only [if_pos hcs]
        have ej : fk (sp_sum K V 6 a p).2.1 = 12 := (i20 (k := 12) i1 (by decide)).mpr k12
        refine rr_callV d_Re_readTest_52 il_Re_50 m_Re_pass (s_Re_pass_t (by omega) ej) rfl rfl rfl rfl (Nat.le_of_ble_eq_true rfl) (Nat.le_of_ble_eq_true rfl) (Nat.le_of_ble_eq_true rfl) (Nat.le_of_ble_eq_true rfl) (Nat.le_of_ble_eq_true rfl) (fun r h1 hq => ?_)
        obtain ⟨rfl, rfl⟩ := hq
        refine rr_if_ne 69 d_Re_readTest_55 (by decide) (fun _ => ?_) (fun c9 => absurd c9 (by decide))
        exact rr_lvs _ rfl (go hcs)
      have e12 : ¬ fk (sp_sum K V 6 a p).2.1 = 12 := fun q => k12 ((i20 (k := 12) i1 (by decide)).mp q)
      refine rr_callV d_Re_readTest_52 il_Re_50 m_Re_pass (s_Re_pass_f (by omega) e12) rfl rfl rfl rfl (Nat.le_of_ble_eq_true rfl) (Nat.le_of_ble_eq_true rfl) (Nat.le_of_ble_eq_true rfl) (Nat.le_of_ble_eq_true rfl) (Nat.le_of_ble_eq_true rfl) (fun r h1 hq => ?_)
      obtain ⟨rfl, rfl⟩ := hq
      refine rr_if_ne 69 d_Re_readTest_55 (by decide) (fun c9 => absurd (rfl) c9) (fun _ => ?_)
      refine rr_aload_n d_Re_readTest_58 rfl rfl ?_
      refine rr_bipush 13 d_Re_readTest_59 rfl ?_
      by_cases k13 : K (sp_sum K V 6 a p).2.1 = 13
      · have hcs : sp_cs (K (sp_sum K V 6 a p).2.1) = true := by rw [k13]; rfl
        simp only [if_pos hcs]
        have ej : fk (sp_sum K V 6 a p).2.1 = 13 := (i20 (k := 13) i1 (by decide)).mpr k13
        refine rr_callV d_Re_readTest_61 il_Re_50 m_Re_pass (s_Re_pass_t (by omega) ej) rfl rfl rfl rfl (Nat.le_of_ble_eq_true rfl) (Nat.le_of_ble_eq_true rfl) (Nat.le_of_ble_eq_true rfl) (Nat.le_of_ble_eq_true rfl) (Nat.le_of_ble_eq_true rfl) (fun r h1 hq => ?_)
        obtain ⟨rfl, rfl⟩ := hq
        refine rr_if_ne 69 d_Re_readTest_64 (by decide) (fun _ => ?_) (fun c9 => absurd c9 (by decide))
        exact rr_lvs _ rfl (go hcs)
      have e13 : ¬ fk (sp_sum K V 6 a p).2.1 = 13 := fun q => k13 ((i20 (k := 13) i1 (by decide)).mp q)
      refine rr_callV d_Re_readTest_61 il_Re_50 m_Re_pass (s_Re_pass_f (by omega) e13) rfl rfl rfl rfl (Nat.le_of_ble_eq_true rfl) (Nat.le_of_ble_eq_true rfl) (Nat.le_of_ble_eq_true rfl) (Nat.le_of_ble_eq_true rfl) (Nat.le_of_ble_eq_true rfl) (fun r h1 hq => ?_)
      obtain ⟨rfl, rfl⟩ := hq
      refine rr_if_ne 69 d_Re_readTest_64 (by decide) (fun c9 => absurd (rfl) c9) (fun _ => ?_)
      refine rr_iconst 0 d_Re_readTest_67 rfl ?_
      have hcs : ¬ sp_cs (K (sp_sum K V 6 a p).2.1) = true := by simp [sp_cs, k10, k11, k12, k13]
      simp only [if_neg hcs]
      exact rr_ireturn d_Re_readTest_68 rfl rfl (Nat.le_of_ble_eq_true rfl) (Nat.le_of_ble_eq_true rfl) (⟨_, _, _, rfl, rfl, hs2, fun h => by cases h⟩)
    · simp only [if_neg hx]
      rw [(Bool.not_eq_true _).mp hx]
      refine rr_if_ne 18 d_Re_readTest_13 (by decide) (fun c9 => absurd (rfl) c9) (fun _ => ?_)
      refine rr_iconst 0 d_Re_readTest_16 rfl ?_
      exact rr_ireturn d_Re_readTest_17 rfl rfl (Nat.le_of_ble_eq_true rfl) (Nat.le_of_ble_eq_true rfl) (⟨s2, ck2, cv2, rfl, rfl, hs2, fun h => by cases h⟩)

set_option maxRecDepth 100000 in
set_option maxHeartbeats 4000000 in
theorem s_Re_readTest {x0 x1 x2 x7 : va_E} {g : rr_H} {K : Nat → Nat} {V : Nat → Int32} {M : Nat} {sz rl : Int32} {fk fv : Nat → Int32} {a p s : Nat} {ck cv : Nat → Int32} (ht : tq K V M fk fv) (ha : a ≤ M) (hp : p ≤ 80) (hs : s ≤ 2 * p) : rr_Spec 24 y_Re_readTest c_Re_readTest 3 (some .boolean) 0 0 [.ref 3] (x0 :: x1 :: x2 :: .inr (2, [.ref 4, .ref 8, .int (nI a), .int (nI p)]) :: .inr (4, [.ref 5, .ref 6, .ref 7, .int sz]) :: .inl (0, 401, .inl fk) :: .inl (0, 401, .inl fv) :: x7 :: .inr (0, [.ref 9, .ref 10, .ref 11, .int (nI s), .int rl]) :: .inl (0, 160, .inl (ck)) :: .inl (0, 160, .inl (cv)) :: g) (re_Q M ((sp_test K V 80 a p []).1, (sp_test K V 80 a p []).2.1, (sp_test K V 80 a p []).2.2.1, (sp_test K V 80 a p []).2.2.2.flatMap fl_c) s ck cv (fun a p s ck cv => x0 :: x1 :: x2 :: .inr (2, [.ref 4, .ref 8, .int (nI a), .int (nI p)]) :: .inr (4, [.ref 5, .ref 6, .ref 7, .int sz]) :: .inl (0, 401, .inl fk) :: .inl (0, 401, .inl fv) :: x7 :: .inr (0, [.ref 9, .ref 10, .ref 11, .int (nI s), .int rl]) :: .inl (0, 160, .inl (ck)) :: .inl (0, 160, .inl (cv)) :: g)) := by
  refine rr_met (own := R_Re) (kd := (false, none)) (by decide +kernel) rfl (fun h => by cases h) rfl (Nat.le_of_ble_eq_true rfl) ?_
  refine rr_iconst 0 d_Re_readTest_0 rfl ?_
  refine rr_istore_n d_Re_readTest_1 rfl (by decide) ?_
  exact rr_lvs _ rfl (l_Re_readTest ht hs 80 a p [] (Nat.le_refl _) ha hp (Nat.le_refl _) (Nat.zero_le _))

set_option maxRecDepth 100000 in
set_option maxHeartbeats 4000000 in
theorem s_Re_readEffect {x0 x1 x2 x7 : va_E} {g : rr_H} {K : Nat → Nat} {V : Nat → Int32} {M : Nat} {sz rl : Int32} {fk fv : Nat → Int32} {a p s : Nat} {ck cv : Nat → Int32} (ht : tq K V M fk fv) (ha : a ≤ M) (hp : p ≤ 80) (hs : s ≤ 2 * p) : rr_Spec 24 y_Re_readEffect c_Re_readEffect 2 (some .boolean) 0 0 [.ref 3] (x0 :: x1 :: x2 :: .inr (2, [.ref 4, .ref 8, .int (nI a), .int (nI p)]) :: .inr (4, [.ref 5, .ref 6, .ref 7, .int sz]) :: .inl (0, 401, .inl fk) :: .inl (0, 401, .inl fv) :: x7 :: .inr (0, [.ref 9, .ref 10, .ref 11, .int (nI s), .int rl]) :: .inl (0, 160, .inl (ck)) :: .inl (0, 160, .inl (cv)) :: g) (re_Q M ((sp_eff K V a p).1, (sp_eff K V a p).2.1, (sp_eff K V a p).2.2.1, fl_f (sp_eff K V a p).2.2.2) s ck cv (fun a p s ck cv => x0 :: x1 :: x2 :: .inr (2, [.ref 4, .ref 8, .int (nI a), .int (nI p)]) :: .inr (4, [.ref 5, .ref 6, .ref 7, .int sz]) :: .inl (0, 401, .inl fk) :: .inl (0, 401, .inl fv) :: x7 :: .inr (0, [.ref 9, .ref 10, .ref 11, .int (nI s), .int rl]) :: .inl (0, 160, .inl (ck)) :: .inl (0, 160, .inl (cv)) :: g)) := by
  have hM := ht.2.1
  have i20 : ∀ {j k : Nat}, j ≤ M → k ≤ 20 → (fk j = nI k ↔ K j = k) := fun hj hk => tq_k ht hj hk
  unfold sp_eff
  refine rr_met (own := R_Re) (kd := (false, none)) (by decide +kernel) rfl (fun h => by cases h) rfl (Nat.le_of_ble_eq_true rfl) ?_
  refine rr_aload_n d_Re_readEffect_0 rfl rfl ?_
  refine rr_bipush 8 d_Re_readEffect_1 rfl ?_
  by_cases k8 : K a = 8
  · simp only [if_pos k8]
    have l8 := sp_lt ht.1 ha k8 (by decide)
    have e8 : fk a = 8 := (i20 (k := 8) ha (by decide)).mpr k8
    refine rr_callV d_Re_readEffect_3 il_Re_50 m_Re_pass (s_Re_pass_t (by omega) e8) rfl rfl rfl rfl (Nat.le_of_ble_eq_true rfl) (Nat.le_of_ble_eq_true rfl) (Nat.le_of_ble_eq_true rfl) (Nat.le_of_ble_eq_true rfl) (Nat.le_of_ble_eq_true rfl) (fun r h1 hq => ?_)
    obtain ⟨rfl, rfl⟩ := hq
    refine rr_if_eq 16 d_Re_readEffect_6 (by decide) (fun c9 => absurd c9 (by decide)) (fun _ => ?_)
    refine rr_aload_n d_Re_readEffect_9 rfl rfl ?_
    by_cases k9 : K (a + 1) = 9 ∧ V (a + 1) < 32
    · simp only [if_pos k9]
      have l9 := sp_lt ht.1 l8 k9.1 (by decide)
      have e9 : fk (a + 1) = 9 ∧ fv (a + 1) < 32 := ⟨(i20 (k := 9) l8 (by decide)).mpr k9.1, by rw [(ht.2.2.1 (a + 1) l8).2]; exact k9.2⟩
      refine rr_callV d_Re_readEffect_10 il_Re_73 m_Re_looksAtCellNumber (s_Re_looksAtCellNumber_t (by omega) e9) rfl rfl rfl rfl (Nat.le_of_ble_eq_true rfl) (Nat.le_of_ble_eq_true rfl) (Nat.le_of_ble_eq_true rfl) (Nat.le_of_ble_eq_true rfl) (Nat.le_of_ble_eq_true rfl) (fun r h1 hq => ?_)
      obtain ⟨rfl, rfl⟩ := hq
      refine rr_if_ne 18 d_Re_readEffect_13 (by decide) (fun _ => ?_) (fun c9 => absurd c9 (by decide))
      refine rr_aload_n d_Re_readEffect_18 rfl rfl ?_
      refine rr_getf d_Re_readEffect_19 fl_Re_12 rfl rfl ?_
      refine rr_getf d_Re_readEffect_22 fl_Re_76 rfl rfl ?_
      refine rr_aload_n d_Re_readEffect_25 rfl rfl ?_
      refine rr_getf d_Re_readEffect_26 fl_Re_32 rfl rfl ?_
      refine rr_iald d_Re_readEffect_29 rfl (vp_in_nI (n := a + 1) (by omega) (by decide)) ?_
      refine rr_istore_n d_Re_readEffect_30 rfl (by decide) ?_
      refine rr_aload_n d_Re_readEffect_31 rfl rfl ?_
      refine rr_dup d_Re_readEffect_32 rfl ?_
      refine rr_getf d_Re_readEffect_33 fl_Re_32 rfl rfl ?_
      refine rr_iconst 1 d_Re_readEffect_36 rfl ?_
      refine rr_iadd d_Re_readEffect_37 ?_
      refine rr_putf d_Re_readEffect_38 fl_Re_32 rfl rfl rfl rfl ?_
      refine rr_aload_n d_Re_readEffect_41 rfl rfl ?_
      refine rr_bipush 17 d_Re_readEffect_42 rfl ?_
      rw [nI_clamp (by omega), (ht.2.2.1 (a + 1) l8).2, nI_1]
      by_cases k17 : K (a + 2) = 17
      · simp only [if_pos k17]
        have l17 := sp_lt ht.1 l9 k17 (by decide)
        have e17 : fk (a + 1 + 1) = 17 := (i20 (k := 17) l9 (by decide)).mpr k17
        obtain ⟨i1, i2⟩ := sp_snd_s (V := V) ht.1 6 (a + 3) p l17 hp
        refine rr_callV d_Re_readEffect_44 il_Re_50 m_Re_pass (s_Re_pass_t (by omega) e17) rfl rfl rfl rfl (Nat.le_of_ble_eq_true rfl) (Nat.le_of_ble_eq_true rfl) (Nat.le_of_ble_eq_true rfl) (Nat.le_of_ble_eq_true rfl) (Nat.le_of_ble_eq_true rfl) (fun r h1 hq => ?_)
        obtain ⟨rfl, rfl⟩ := hq
        refine rr_if_eq 58 d_Re_readEffect_47 (by decide) (fun c9 => absurd c9 (by decide)) (fun _ => ?_)
        refine rr_aload_n d_Re_readEffect_50 rfl rfl ?_
        refine rr_iconst 0 d_Re_readEffect_51 rfl ?_
        refine rr_callV d_Re_readEffect_52 il_Re_63 m_Re_readSum (s_sum_all ht 6 0 rfl (a + 3) p s ck cv l17 hp hs) rfl rfl rfl rfl (Nat.le_of_ble_eq_true rfl) (Nat.le_of_ble_eq_true rfl) (Nat.le_of_ble_eq_true rfl) (Nat.le_of_ble_eq_true rfl) (Nat.le_of_ble_eq_true rfl) (fun r h1 hq => ?_)
        obtain ⟨s2, ck2, cv2, rfl, rfl, hs2, hok⟩ := hq
        by_cases hy : (sp_sum K V 6 (a + 3) p).1 = true
        · rw [hy]
          obtain ⟨rfl, rfl, rfl⟩ := hok hy
          obtain ⟨z1, z2, z3⟩ := i2 hy
          refine rr_if_ne 60 d_Re_readEffect_55 (by decide) (fun _ => ?_) (fun c9 => absurd c9 (by decide))
          refine rr_aload_n d_Re_readEffect_60 rfl rfl ?_
          refine rr_getf d_Re_readEffect_61 fl_Re_21 rfl rfl ?_
          refine rr_bipush 17 d_Re_readEffect_64 rfl ?_
          refine rr_iload_n d_Re_readEffect_66 rfl rfl ?_
          refine rr_callV d_Re_readEffect_67 il_Re_69 m_Co_add (s_Co_add (by omega)) rfl rfl rfl rfl (Nat.le_of_ble_eq_true rfl) (Nat.le_of_ble_eq_true rfl) (Nat.le_of_ble_eq_true rfl) (Nat.le_of_ble_eq_true rfl) (Nat.le_of_ble_eq_true rfl) (fun r h1 hq => ?_)
          obtain ⟨rfl, rfl⟩ := hq
          refine rr_iconst 1 d_Re_readEffect_70 rfl ?_
          exact rr_ireturn d_Re_readEffect_71 rfl rfl (Nat.le_of_ble_eq_true rfl) (Nat.le_of_ble_eq_true rfl) (⟨_, _, _, rfl, rfl, by omega, fun _ => ⟨by show _ = s + (_ ++ [_]).length; rw [List.length_append]; rfl, by show _ = co_k ck s (_ ++ [_]); rw [co_k_app]; rfl, by show _ = co_v cv s (_ ++ [_]); rw [co_v_app]; rfl⟩⟩)
        · rw [(Bool.not_eq_true _).mp hy]
          refine rr_if_ne 60 d_Re_readEffect_55 (by decide) (fun c9 => absurd (rfl) c9) (fun _ => ?_)
          refine rr_iconst 0 d_Re_readEffect_58 rfl ?_
          exact rr_ireturn d_Re_readEffect_59 rfl rfl (Nat.le_of_ble_eq_true rfl) (Nat.le_of_ble_eq_true rfl) (⟨s2, ck2, cv2, rfl, rfl, hs2, fun h => by cases h⟩)
      · simp only [if_neg k17]
        have e17 : ¬ fk (a + 1 + 1) = 17 := fun q => k17 ((i20 (k := 17) l9 (by decide)).mp q)
        refine rr_callV d_Re_readEffect_44 il_Re_50 m_Re_pass (s_Re_pass_f (by omega) e17) rfl rfl rfl rfl (Nat.le_of_ble_eq_true rfl) (Nat.le_of_ble_eq_true rfl) (Nat.le_of_ble_eq_true rfl) (Nat.le_of_ble_eq_true rfl) (Nat.le_of_ble_eq_true rfl) (fun r h1 hq => ?_)
        obtain ⟨rfl, rfl⟩ := hq
        refine rr_if_eq 58 d_Re_readEffect_47 (by decide) (fun _ => ?_) (fun c9 => absurd (rfl) c9)
        refine rr_iconst 0 d_Re_readEffect_58 rfl ?_
        exact rr_ireturn d_Re_readEffect_59 rfl rfl (Nat.le_of_ble_eq_true rfl) (Nat.le_of_ble_eq_true rfl) (⟨s, ck, cv, rfl, rfl, by omega, fun h => by cases h⟩)
    · simp only [if_neg k9]
      have e9 : ¬ (fk (a + 1) = 9 ∧ fv (a + 1) < 32) := fun q => k9 ⟨(i20 (k := 9) l8 (by decide)).mp q.1, by rw [← (ht.2.2.1 (a + 1) l8).2]; exact q.2⟩
      refine rr_callV d_Re_readEffect_10 il_Re_73 m_Re_looksAtCellNumber (s_Re_looksAtCellNumber_f (by omega) e9) rfl rfl rfl rfl (Nat.le_of_ble_eq_true rfl) (Nat.le_of_ble_eq_true rfl) (Nat.le_of_ble_eq_true rfl) (Nat.le_of_ble_eq_true rfl) (Nat.le_of_ble_eq_true rfl) (fun r h1 hq => ?_)
      obtain ⟨rfl, rfl⟩ := hq
      refine rr_if_ne 18 d_Re_readEffect_13 (by decide) (fun c9 => absurd (rfl) c9) (fun _ => ?_)
      refine rr_iconst 0 d_Re_readEffect_16 rfl ?_
      exact rr_ireturn d_Re_readEffect_17 rfl rfl (Nat.le_of_ble_eq_true rfl) (Nat.le_of_ble_eq_true rfl) (⟨s, ck, cv, rfl, rfl, by omega, fun h => by cases h⟩)
  · simp only [if_neg k8]
    have e8 : ¬ fk a = 8 := fun q => k8 ((i20 (k := 8) ha (by decide)).mp q)
    refine rr_callV d_Re_readEffect_3 il_Re_50 m_Re_pass (s_Re_pass_f (by omega) e8) rfl rfl rfl rfl (Nat.le_of_ble_eq_true rfl) (Nat.le_of_ble_eq_true rfl) (Nat.le_of_ble_eq_true rfl) (Nat.le_of_ble_eq_true rfl) (Nat.le_of_ble_eq_true rfl) (fun r h1 hq => ?_)
    obtain ⟨rfl, rfl⟩ := hq
    refine rr_if_eq 16 d_Re_readEffect_6 (by decide) (fun _ => ?_) (fun c9 => absurd (rfl) c9)
    refine rr_iconst 0 d_Re_readEffect_16 rfl ?_
    exact rr_ireturn d_Re_readEffect_17 rfl rfl (Nat.le_of_ble_eq_true rfl) (Nat.le_of_ble_eq_true rfl) (⟨s, ck, cv, rfl, rfl, by omega, fun h => by cases h⟩)

set_option maxRecDepth 100000 in
set_option maxHeartbeats 4000000 in
theorem l_Re_readRule {x0 x1 x2 x7 : va_E} {g : rr_H} {K : Nat → Nat} {V : Nat → Int32} {M : Nat} {sz rl : Int32} {fk fv : Nat → Int32} {p0 s : Nat} {ck cv : Nat → Int32} (ht : tq K V M fk fv) (hs : s ≤ 2 * p0) (L0 : sp_I) : ∀ (n a p : Nat) (es : List sp_F) (Lx : sp_I), Lx = L0 ++ es.flatMap fl_f → n ≤ 8 → a ≤ M → p ≤ 80 → p0 ≤ p → L0.length + (es.flatMap fl_f).length ≤ 2 * (p - p0) → rr_A R_Re c_Re_readRule 2 (some .boolean) (false, none) { frames := 25, cells := 0, slots := 0, locals := 25 * 64 } (re_Q M ((sp_effs K V n a p es).1, (sp_effs K V n a p es).2.1, (sp_effs K V n a p es).2.2.1, L0 ++ (sp_effs K V n a p es).2.2.2.flatMap fl_f) s ck cv (fun a p s ck cv => x0 :: x1 :: x2 :: .inr (2, [.ref 4, .ref 8, .int (nI a), .int (nI p)]) :: .inr (4, [.ref 5, .ref 6, .ref 7, .int sz]) :: .inl (0, 401, .inl fk) :: .inl (0, 401, .inl fv) :: x7 :: .inr (0, [.ref 9, .ref 10, .ref 11, .int (nI s), .int rl]) :: .inl (0, 160, .inl (ck)) :: .inl (0, 160, .inl (cv)) :: g)) 0 0 19 [(1, .int (nI (8 - n))), (0, .ref 3)] [] (x0 :: x1 :: x2 :: .inr (2, [.ref 4, .ref 8, .int (nI a), .int (nI p)]) :: .inr (4, [.ref 5, .ref 6, .ref 7, .int sz]) :: .inl (0, 401, .inl fk) :: .inl (0, 401, .inl fv) :: x7 :: .inr (0, [.ref 9, .ref 10, .ref 11, .int (nI (s + Lx.length)), .int rl]) :: .inl (0, 160, .inl (co_k ck s Lx)) :: .inl (0, 160, .inl (co_v cv s Lx)) :: g) := by
  have hM := ht.2.1
  have i20 : ∀ {j k : Nat}, j ≤ M → k ≤ 20 → (fk j = nI k ↔ K j = k) := fun hj hk => tq_k ht hj hk
  intro n
  induction n with
  | zero =>
    intro a p es Lx hLx hn ha hp hp0 hL
    subst hLx
    have hLL : (L0 ++ es.flatMap fl_f).length ≤ 2 * (p - p0) := by rw [List.length_append]; exact hL
    refine rr_iload_n d_Re_readRule_19 rfl rfl ?_
    refine rr_bipush 8 d_Re_readRule_20 rfl ?_
    refine rr_icmp_ge 51 d_Re_readRule_22 (by decide) (fun _ => ?_) (fun c9 => absurd (by decide) c9)
    refine rr_iconst 0 d_Re_readRule_51 rfl ?_
    exact rr_ireturn d_Re_readRule_52 rfl rfl (Nat.le_of_ble_eq_true rfl) (Nat.le_of_ble_eq_true rfl) (⟨_, _, _, rfl, rfl, by omega, fun h => by cases h⟩)
  | succ n ih =>
    intro a p es Lx hLx hn ha hp hp0 hL
    subst hLx
    have hLL : (L0 ++ es.flatMap fl_f).length ≤ 2 * (p - p0) := by rw [List.length_append]; exact hL
    obtain ⟨i1, i2⟩ := sp_snd_eff (V := V) ht.1 ha hp
    refine rr_iload_n d_Re_readRule_19 rfl rfl ?_
    refine rr_bipush 8 d_Re_readRule_20 rfl ?_
    refine rr_icmp_ge 51 d_Re_readRule_22 (by decide) (fun c9 => absurd c9 (nI_ge (a := 8 - (n + 1)) (b := 8) (by omega) (by decide))) (fun _ => ?_)
    refine rr_aload_n d_Re_readRule_25 rfl rfl ?_
    refine rr_callV d_Re_readRule_26 il_Re_60 m_Re_readEffect (s_Re_readEffect (a := a) (p := p) (s := s + (L0 ++ es.flatMap fl_f).length) (ck := co_k ck s (L0 ++ es.flatMap fl_f)) (cv := co_v cv s (L0 ++ es.flatMap fl_f)) ht ha hp (by omega)) rfl rfl rfl rfl (Nat.le_of_ble_eq_true rfl) (Nat.le_of_ble_eq_true rfl) (Nat.le_of_ble_eq_true rfl) (Nat.le_of_ble_eq_true rfl) (Nat.le_of_ble_eq_true rfl) (fun r h1 hq => ?_)
    obtain ⟨s2, ck2, cv2, rfl, rfl, hs2, hok⟩ := hq
    unfold sp_effs
    by_cases hx : (sp_eff K V a p).1 = true
    · simp only [if_pos hx]
      rw [hx]
      obtain ⟨rfl, rfl, rfl⟩ := hok hx
      obtain ⟨j1, j2, j3⟩ := i2 hx
      dsimp only
      rw [show s + (L0 ++ es.flatMap fl_f).length + (fl_f (sp_eff K V a p).2.2.2).length = s + (L0 ++ (es ++ [(sp_eff K V a p).2.2.2]).flatMap fl_f).length by simp only [← fl_f_app, List.length_append]; omega]
      rw [← co_k_app, ← co_v_app, List.append_assoc, fl_f_app]
      have hLn : L0.length + ((es ++ [(sp_eff K V a p).2.2.2]).flatMap fl_f).length ≤ 2 * ((sp_eff K V a p).2.2.1 - p0) := by
        rw [← fl_f_app, List.length_append]
        omega
      have hLm : (L0 ++ (es ++ [(sp_eff K V a p).2.2.2]).flatMap fl_f).length ≤ 2 * ((sp_eff K V a p).2.2.1 - p0) := by rw [List.length_append]; exact hLn
      refine rr_if_ne 34 d_Re_readRule_29 (by decide) (fun _ => ?_) (fun c9 => absurd c9 (by decide))
      refine rr_aload_n d_Re_readRule_34 rfl rfl ?_
      refine rr_bipush 18 d_Re_readRule_35 rfl ?_
      by_cases k18 : K (sp_eff K V a p).2.1 = 18
      · simp only [if_pos k18]
        have l18 := sp_lt ht.1 i1 k18 (by decide)
        have e18 : fk (sp_eff K V a p).2.1 = 18 := (i20 (k := 18) i1 (by decide)).mpr k18
        refine rr_callV d_Re_readRule_37 il_Re_50 m_Re_pass (s_Re_pass_t (by omega) e18) rfl rfl rfl rfl (Nat.le_of_ble_eq_true rfl) (Nat.le_of_ble_eq_true rfl) (Nat.le_of_ble_eq_true rfl) (Nat.le_of_ble_eq_true rfl) (Nat.le_of_ble_eq_true rfl) (fun r h1 hq => ?_)
        obtain ⟨rfl, rfl⟩ := hq
        refine rr_if_ne 45 d_Re_readRule_40 (by decide) (fun _ => ?_) (fun c9 => absurd c9 (by decide))
        refine rr_iinc 1 d_Re_readRule_45 rfl rfl (by decide) ?_
        refine rr_goto 19 d_Re_readRule_48 (by decide) ?_
        rw [nI_1, show 8 - (n + 1) + 1 = 8 - n by omega]
        exact rr_lvs _ rfl (ih ((sp_eff K V a p).2.1 + 1) (sp_eff K V a p).2.2.1 (es ++ [(sp_eff K V a p).2.2.2]) _ rfl (by omega) l18 j2 (by omega) hLn)
      · simp only [if_neg k18]
        have e18 : ¬ fk (sp_eff K V a p).2.1 = 18 := fun q => k18 ((i20 (k := 18) i1 (by decide)).mp q)
        refine rr_callV d_Re_readRule_37 il_Re_50 m_Re_pass (s_Re_pass_f (by omega) e18) rfl rfl rfl rfl (Nat.le_of_ble_eq_true rfl) (Nat.le_of_ble_eq_true rfl) (Nat.le_of_ble_eq_true rfl) (Nat.le_of_ble_eq_true rfl) (Nat.le_of_ble_eq_true rfl) (fun r h1 hq => ?_)
        obtain ⟨rfl, rfl⟩ := hq
        refine rr_if_ne 45 d_Re_readRule_40 (by decide) (fun c9 => absurd (rfl) c9) (fun _ => ?_)
        refine rr_iconst 1 d_Re_readRule_43 rfl ?_
        exact rr_ireturn d_Re_readRule_44 rfl rfl (Nat.le_of_ble_eq_true rfl) (Nat.le_of_ble_eq_true rfl) (⟨_, _, _, rfl, rfl, by omega, fun _ => ⟨rfl, rfl, rfl⟩⟩)
    · simp only [if_neg hx]
      rw [(Bool.not_eq_true _).mp hx]
      refine rr_if_ne 34 d_Re_readRule_29 (by decide) (fun c9 => absurd (rfl) c9) (fun _ => ?_)
      refine rr_iconst 0 d_Re_readRule_32 rfl ?_
      exact rr_ireturn d_Re_readRule_33 rfl rfl (Nat.le_of_ble_eq_true rfl) (Nat.le_of_ble_eq_true rfl) (⟨s2, ck2, cv2, rfl, rfl, hs2, fun h => by cases h⟩)

set_option maxRecDepth 100000 in
set_option maxHeartbeats 4000000 in
theorem s_Re_readRule {x0 x1 x2 x7 : va_E} {g : rr_H} {K : Nat → Nat} {V : Nat → Int32} {M : Nat} {sz rl : Int32} {fk fv : Nat → Int32} {a p s : Nat} {ck cv : Nat → Int32} (ht : tq K V M fk fv) (ha : a ≤ M) (hp : p ≤ 80) (hs : s ≤ 2 * p) : rr_Spec 25 y_Re_readRule c_Re_readRule 2 (some .boolean) 0 0 [.ref 3] (x0 :: x1 :: x2 :: .inr (2, [.ref 4, .ref 8, .int (nI a), .int (nI p)]) :: .inr (4, [.ref 5, .ref 6, .ref 7, .int sz]) :: .inl (0, 401, .inl fk) :: .inl (0, 401, .inl fv) :: x7 :: .inr (0, [.ref 9, .ref 10, .ref 11, .int (nI s), .int rl]) :: .inl (0, 160, .inl (ck)) :: .inl (0, 160, .inl (cv)) :: g) (re_Q M ((sp_rule K V a p).1, (sp_rule K V a p).2.1, (sp_rule K V a p).2.2.1, fl_u (sp_rule K V a p).2.2.2) s ck cv (fun a p s ck cv => x0 :: x1 :: x2 :: .inr (2, [.ref 4, .ref 8, .int (nI a), .int (nI p)]) :: .inr (4, [.ref 5, .ref 6, .ref 7, .int sz]) :: .inl (0, 401, .inl fk) :: .inl (0, 401, .inl fv) :: x7 :: .inr (0, [.ref 9, .ref 10, .ref 11, .int (nI s), .int rl]) :: .inl (0, 160, .inl (ck)) :: .inl (0, 160, .inl (cv)) :: g)) := by
  have hM := ht.2.1
  have i20 : ∀ {j k : Nat}, j ≤ M → k ≤ 20 → (fk j = nI k ↔ K j = k) := fun hj hk => tq_k ht hj hk
  unfold sp_rule
  refine rr_met (own := R_Re) (kd := (false, none)) (by decide +kernel) rfl (fun h => by cases h) rfl (Nat.le_of_ble_eq_true rfl) ?_
  refine rr_aload_n d_Re_readRule_0 rfl rfl ?_
  refine rr_iconst 2 d_Re_readRule_1 rfl ?_
  by_cases k2 : K a = 2
  · simp only [if_pos k2]
    have l2 := sp_lt ht.1 ha k2 (by decide)
    have e2 : fk a = 2 := (i20 (k := 2) ha (by decide)).mpr k2
    obtain ⟨i1, i2⟩ := sp_snd_test (V := V) ht.1 p 80 (a + 1) p [] l2 hp (Nat.le_refl _) (Nat.zero_le _)
    refine rr_callV d_Re_readRule_2 il_Re_50 m_Re_pass (s_Re_pass_t (by omega) e2) rfl rfl rfl rfl (Nat.le_of_ble_eq_true rfl) (Nat.le_of_ble_eq_true rfl) (Nat.le_of_ble_eq_true rfl) (Nat.le_of_ble_eq_true rfl) (Nat.le_of_ble_eq_true rfl) (fun r h1 hq => ?_)
    obtain ⟨rfl, rfl⟩ := hq
    refine rr_if_eq 17 d_Re_readRule_5 (by decide) (fun c9 => absurd c9 (by decide)) (fun _ => ?_)
    refine rr_aload_n d_Re_readRule_8 rfl rfl ?_
    refine rr_callV d_Re_readRule_9 il_Re_57 m_Re_readTest (s_Re_readTest ht l2 hp hs) rfl rfl rfl rfl (Nat.le_of_ble_eq_true rfl) (Nat.le_of_ble_eq_true rfl) (Nat.le_of_ble_eq_true rfl) (Nat.le_of_ble_eq_true rfl) (Nat.le_of_ble_eq_true rfl) (fun r h1 hq => ?_)
    obtain ⟨s2, ck2, cv2, rfl, rfl, hs2, hok⟩ := hq
    by_cases hx : (sp_test K V 80 (a + 1) p []).1 = true
    · simp only [if_pos hx]
      rw [hx]
      obtain ⟨rfl, rfl, rfl⟩ := hok hx
      obtain ⟨j1, j2, j3⟩ := i2 hx
      refine rr_if_ne 17 d_Re_readRule_12 (by decide) (fun _ => ?_) (fun c9 => absurd c9 (by decide))
      refine rr_iconst 0 d_Re_readRule_17 rfl ?_
      refine rr_istore_n d_Re_readRule_18 rfl (by decide) ?_
      exact rr_lvs _ rfl (l_Re_readRule ht hs ((sp_test K V 80 (a + 1) p []).2.2.2.flatMap fl_c) 8 (sp_test K V 80 (a + 1) p []).2.1 (sp_test K V 80 (a + 1) p []).2.2.1 [] _ (by simp) (Nat.le_refl _) i1 j2 j1 (by simp only [List.flatMap_nil, List.length_nil]; omega))
    · simp only [if_neg hx]
      rw [(Bool.not_eq_true _).mp hx]
      refine rr_if_ne 17 d_Re_readRule_12 (by decide) (fun c9 => absurd (rfl) c9) (fun _ => ?_)
      refine rr_iconst 0 d_Re_readRule_15 rfl ?_
      exact rr_ireturn d_Re_readRule_16 rfl rfl (Nat.le_of_ble_eq_true rfl) (Nat.le_of_ble_eq_true rfl) (⟨s2, ck2, cv2, rfl, rfl, hs2, fun h => by cases h⟩)
  · simp only [if_neg k2]
    have e2 : ¬ fk a = 2 := fun q => k2 ((i20 (k := 2) ha (by decide)).mp q)
    refine rr_callV d_Re_readRule_2 il_Re_50 m_Re_pass (s_Re_pass_f (by omega) e2) rfl rfl rfl rfl (Nat.le_of_ble_eq_true rfl) (Nat.le_of_ble_eq_true rfl) (Nat.le_of_ble_eq_true rfl) (Nat.le_of_ble_eq_true rfl) (Nat.le_of_ble_eq_true rfl) (fun r h1 hq => ?_)
    obtain ⟨rfl, rfl⟩ := hq
    refine rr_if_eq 17 d_Re_readRule_5 (by decide) (fun _ => ?_) (fun c9 => absurd (rfl) c9)
    refine rr_iconst 0 d_Re_readRule_17 rfl ?_
    refine rr_istore_n d_Re_readRule_18 rfl (by decide) ?_
    exact rr_lvs _ rfl (l_Re_readRule ht hs [] 8 a p [] [] rfl (Nat.le_refl _) ha hp (Nat.le_refl _) (by simp))
