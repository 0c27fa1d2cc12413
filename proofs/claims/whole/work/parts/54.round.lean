/-! The law: what stands at the loop's head, and a round of it. -/
def lw_Q1 : Option Value → rr_H → Prop := fun r _ => r = some (.int 1)
def lw_In (n r g : Nat) (us : List sp_U) (fc cc cf cb be ck cv re : Nat → Int32) : Prop := n ≤ 400 ∧ r ≤ 200 ∧ LG cc cf cb be r g fc ∧ co_is us ck cv re ∧ ∀ u ∈ us, gu u
def lw_In1 (us : List sp_U) (c : Nat → Int32) : Prop := md_is us c ∧ us.length ≠ 0 ∧ us.length ≤ 6 ∧ mdp us ≤ 1600
theorem lg_cmp_self (x : Int64) : lg_cmp x x = 0 := by
  unfold lg_cmp
  simp

def lw_P0 (L : Nat) (xs : Nat → Int32) (kc ks i : Nat) : Prop := ∀ (n r g : Nat) (us : List sp_U) (f fc fk fv fp ck0 cv0 re0 fs ec ev cc cf cb ck cv re be cd mst fo go : Nat → Int32) (a0 p0 tz s0 u0 hg ef s1 at0 sz kd0 fr0 to0 fa pa my pcv : Int32) (nu : Int64), lw_In n r g us fc cc cf cb be ck cv re → us.length = 0 → rr_A R_La code 4 ret (false, some (L, xs)) room_1 lw_Q1 kc ks 18 [(3, .int (nI i)), (2, .ref 24), (1, .ref 0), (0, .ref (rr_K0 + 200))] [] (.inr (5, [.ref 1, .ref 3, .ref 12, .ref 20]) :: .inr (3, [.ref 2, .int (nI n)]) :: .inl (1, 400, .inl (f)) :: .inr (2, [.ref 4, .ref 8, .int a0, .int p0]) :: .inr (4, [.ref 5, .ref 6, .ref 7, .int tz]) :: .inl (0, 401, .inl (fk)) :: .inl (0, 401, .inl (fv)) :: .inl (0, 401, .inl (fp)) :: .inr (0, [.ref 9, .ref 10, .ref 11, .int s0, .int u0]) :: .inl (0, 160, .inl (ck0)) :: .inl (0, 160, .inl (cv0)) :: .inl (0, 6, .inl (re0)) :: .inr (1, [.ref 13, .ref 14, .int hg, .ref 15, .ref 16, .int ef, .ref 17, .ref 18, .int (nI g), .ref 19, .int (nI r)]) :: .inl (0, 32, .inl (fc)) :: .inl (0, 80, .inl (fs)) :: .inl (0, 8, .inl (ec)) :: .inl (0, 8, .inl (ev)) :: .inl (0, 1600, .inl (cc)) :: .inl (0, 1600, .inl (cf)) :: .inl (0, 200, .inl (cb)) :: .inr (0, [.ref 21, .ref 22, .ref 23, .int s1, .int (nI us.length)]) :: .inl (0, 160, .inl (ck)) :: .inl (0, 160, .inl (cv)) :: .inl (0, 6, .inl (re)) :: .inr (6, [.ref 25, .int (nI n), .null, .ref 26, .int (nI r), .int at0, .int sz, .int kd0, .int fr0, .int to0, .int fa, .int pa, .long nu, .ref 27, .int my, .ref 28, .ref 29, .ref 30, .ref 31, .int pcv]) :: .inl (1, 400, .inl (f)) :: .inl (0, 6400, .inl (be)) :: .inl (0, 1600, .inl (cd)) :: .inl (0, 32, .inl (fc)) :: .inl (0, 160, .inl (mst)) :: .inl (0, 8, .inl (fo)) :: .inl (0, 8, .inl (go)) :: [])
def lw_P1 (L : Nat) (xs : Nat → Int32) (kc ks i : Nat) : Prop := ∀ (n r g : Nat) (us : List sp_U) (f fc fk fv fp ck0 cv0 re0 fs ec ev cc cf cb ck cv re be cd mst fo go : Nat → Int32) (a0 p0 tz s0 u0 hg ef s1 at0 sz kd0 fr0 to0 fa pa my pcv : Int32) (nu : Int64) (c : Nat → Int32), lw_In n r g us fc cc cf cb be ck cv re → lw_In1 us c → rr_A R_La code 4 ret (false, some (L, xs)) room_1 lw_Q1 kc ks 18 [(3, .int (nI i)), (2, .ref 24), (1, .ref 0), (0, .ref (rr_K0 + 200))] [] (.inr (5, [.ref 1, .ref 3, .ref 12, .ref 20]) :: .inr (3, [.ref 2, .int (nI n)]) :: .inl (1, 400, .inl (f)) :: .inr (2, [.ref 4, .ref 8, .int a0, .int p0]) :: .inr (4, [.ref 5, .ref 6, .ref 7, .int tz]) :: .inl (0, 401, .inl (fk)) :: .inl (0, 401, .inl (fv)) :: .inl (0, 401, .inl (fp)) :: .inr (0, [.ref 9, .ref 10, .ref 11, .int s0, .int u0]) :: .inl (0, 160, .inl (ck0)) :: .inl (0, 160, .inl (cv0)) :: .inl (0, 6, .inl (re0)) :: .inr (1, [.ref 13, .ref 14, .int hg, .ref 15, .ref 16, .int ef, .ref 17, .ref 18, .int (nI g), .ref 19, .int (nI r)]) :: .inl (0, 32, .inl (fc)) :: .inl (0, 80, .inl (fs)) :: .inl (0, 8, .inl (ec)) :: .inl (0, 8, .inl (ev)) :: .inl (0, 1600, .inl (cc)) :: .inl (0, 1600, .inl (cf)) :: .inl (0, 200, .inl (cb)) :: .inr (0, [.ref 21, .ref 22, .ref 23, .int s1, .int (nI us.length)]) :: .inl (0, 160, .inl (ck)) :: .inl (0, 160, .inl (cv)) :: .inl (0, 6, .inl (re)) :: .inr (6, [.ref 25, .int (nI n), .ref 32, .ref 26, .int (nI r), .int at0, .int sz, .int kd0, .int fr0, .int to0, .int fa, .int pa, .long nu, .ref 27, .int my, .ref 28, .ref 29, .ref 30, .ref 31, .int pcv]) :: .inl (1, 400, .inl (f)) :: .inl (0, 6400, .inl (be)) :: .inl (0, 1600, .inl (cd)) :: .inl (0, 32, .inl (fc)) :: .inl (0, 160, .inl (mst)) :: .inl (0, 8, .inl (fo)) :: .inl (0, 8, .inl (go)) :: .inl (0, mdp us, .inl (c)) :: [])
set_option maxRecDepth 100000 in
set_option maxHeartbeats 4000000 in
theorem lw_n0 {L : Nat} {xs : Nat → Int32} {kc ks kc2 ks2 i : Nat} (k : lw_P0 L xs kc2 ks2 (i + 6)) (h1 : kc ≤ kc2) (h2 : ks ≤ ks2) {n r g : Nat} {us : List sp_U} {f fc fk fv fp ck0 cv0 re0 fs ec ev cc cf cb ck cv re be cd mst fo go : Nat → Int32} {a0 p0 tz s0 u0 hg ef s1 at0 sz kd0 fr0 to0 fa pa my pcv : Int32} {nu : Int64} (hI : lw_In n r g us fc cc cf cb be ck cv re) (hJ : us.length = 0) : rr_A R_La code 4 ret (false, some (L, xs)) room_1 lw_Q1 kc ks 305 [(3, .int (nI i)), (2, .ref 24), (1, .ref 0), (0, .ref (rr_K0 + 200))] [] (.inr (5, [.ref 1, .ref 3, .ref 12, .ref 20]) :: .inr (3, [.ref 2, .int (nI n)]) :: .inl (1, 400, .inl (f)) :: .inr (2, [.ref 4, .ref 8, .int a0, .int p0]) :: .inr (4, [.ref 5, .ref 6, .ref 7, .int tz]) :: .inl (0, 401, .inl (fk)) :: .inl (0, 401, .inl (fv)) :: .inl (0, 401, .inl (fp)) :: .inr (0, [.ref 9, .ref 10, .ref 11, .int s0, .int u0]) :: .inl (0, 160, .inl (ck0)) :: .inl (0, 160, .inl (cv0)) :: .inl (0, 6, .inl (re0)) :: .inr (1, [.ref 13, .ref 14, .int hg, .ref 15, .ref 16, .int ef, .ref 17, .ref 18, .int (nI g), .ref 19, .int (nI r)]) :: .inl (0, 32, .inl (fc)) :: .inl (0, 80, .inl (fs)) :: .inl (0, 8, .inl (ec)) :: .inl (0, 8, .inl (ev)) :: .inl (0, 1600, .inl (cc)) :: .inl (0, 1600, .inl (cf)) :: .inl (0, 200, .inl (cb)) :: .inr (0, [.ref 21, .ref 22, .ref 23, .int s1, .int (nI us.length)]) :: .inl (0, 160, .inl (ck)) :: .inl (0, 160, .inl (cv)) :: .inl (0, 6, .inl (re)) :: .inr (6, [.ref 25, .int (nI n), .null, .ref 26, .int (nI r), .int at0, .int sz, .int kd0, .int fr0, .int to0, .int fa, .int pa, .long nu, .ref 27, .int my, .ref 28, .ref 29, .ref 30, .ref 31, .int pcv]) :: .inl (1, 400, .inl (f)) :: .inl (0, 6400, .inl (be)) :: .inl (0, 1600, .inl (cd)) :: .inl (0, 32, .inl (fc)) :: .inl (0, 160, .inl (mst)) :: .inl (0, 8, .inl (fo)) :: .inl (0, 8, .inl (go)) :: []) := by
  refine rr_iinc 6 d_La_law_305 rfl rfl (by decide) ?_
  refine rr_goto 18 d_La_law_308 (by decide) ?_
  rw [show (nI i + 6 : Int32) = nI (i + 6) from nI_add i 6]
  exact rr_lvs _ rfl (rr_widen h1 h2 (k _ _ _ _ _ _ _ _ _ _ _ _ _ _ _ _ _ _ _ _ _ _ _ _ _ _ _ _ _ _ _ _ _ _ _ _ _ _ _ _ _ _ _ _  hI hJ))

set_option maxRecDepth 100000 in
set_option maxHeartbeats 4000000 in
theorem lw_n1 {L : Nat} {xs : Nat → Int32} {kc ks kc2 ks2 i : Nat} (k : lw_P1 L xs kc2 ks2 (i + 6)) (h1 : kc ≤ kc2) (h2 : ks ≤ ks2) {n r g : Nat} {us : List sp_U} {f fc fk fv fp ck0 cv0 re0 fs ec ev cc cf cb ck cv re be cd mst fo go : Nat → Int32} {a0 p0 tz s0 u0 hg ef s1 at0 sz kd0 fr0 to0 fa pa my pcv : Int32} {nu : Int64} {c : Nat → Int32} (hI : lw_In n r g us fc cc cf cb be ck cv re) (hJ : lw_In1 us c) : rr_A R_La code 4 ret (false, some (L, xs)) room_1 lw_Q1 kc ks 305 [(3, .int (nI i)), (2, .ref 24), (1, .ref 0), (0, .ref (rr_K0 + 200))] [] (.inr (5, [.ref 1, .ref 3, .ref 12, .ref 20]) :: .inr (3, [.ref 2, .int (nI n)]) :: .inl (1, 400, .inl (f)) :: .inr (2, [.ref 4, .ref 8, .int a0, .int p0]) :: .inr (4, [.ref 5, .ref 6, .ref 7, .int tz]) :: .inl (0, 401, .inl (fk)) :: .inl (0, 401, .inl (fv)) :: .inl (0, 401, .inl (fp)) :: .inr (0, [.ref 9, .ref 10, .ref 11, .int s0, .int u0]) :: .inl (0, 160, .inl (ck0)) :: .inl (0, 160, .inl (cv0)) :: .inl (0, 6, .inl (re0)) :: .inr (1, [.ref 13, .ref 14, .int hg, .ref 15, .ref 16, .int ef, .ref 17, .ref 18, .int (nI g), .ref 19, .int (nI r)]) :: .inl (0, 32, .inl (fc)) :: .inl (0, 80, .inl (fs)) :: .inl (0, 8, .inl (ec)) :: .inl (0, 8, .inl (ev)) :: .inl (0, 1600, .inl (cc)) :: .inl (0, 1600, .inl (cf)) :: .inl (0, 200, .inl (cb)) :: .inr (0, [.ref 21, .ref 22, .ref 23, .int s1, .int (nI us.length)]) :: .inl (0, 160, .inl (ck)) :: .inl (0, 160, .inl (cv)) :: .inl (0, 6, .inl (re)) :: .inr (6, [.ref 25, .int (nI n), .ref 32, .ref 26, .int (nI r), .int at0, .int sz, .int kd0, .int fr0, .int to0, .int fa, .int pa, .long nu, .ref 27, .int my, .ref 28, .ref 29, .ref 30, .ref 31, .int pcv]) :: .inl (1, 400, .inl (f)) :: .inl (0, 6400, .inl (be)) :: .inl (0, 1600, .inl (cd)) :: .inl (0, 32, .inl (fc)) :: .inl (0, 160, .inl (mst)) :: .inl (0, 8, .inl (fo)) :: .inl (0, 8, .inl (go)) :: .inl (0, mdp us, .inl (c)) :: []) := by
  refine rr_iinc 6 d_La_law_305 rfl rfl (by decide) ?_
  refine rr_goto 18 d_La_law_308 (by decide) ?_
  rw [show (nI i + 6 : Int32) = nI (i + 6) from nI_add i 6]
  exact rr_lvs _ rfl (rr_widen h1 h2 (k _ _ _ _ _ _ _ _ _ _ _ _ _ _ _ _ _ _ _ _ _ _ _ _ _ _ _ _ _ _ _ _ _ _ _ _ _ _ _ _ _ _ _ _ _ hI hJ))

set_option maxRecDepth 100000 in
set_option maxHeartbeats 4000000 in
theorem lw_feed0 {L : Nat} {xs : Nat → Int32} {it : Nat} (hL : L ≤ 3072) (hi : 6 * it + 6 ≤ L) (k0 : lw_P0 L xs (40 + it + 1) (20000 + 1600 * it + 1600) (6 * it + 6)) (k1 : lw_P1 L xs (40 + it + 1) (20000 + 1600 * it + 1600) (6 * it + 6)) {n r g : Nat} {us : List sp_U} {f fc fk fv fp ck0 cv0 re0 fs ec ev cc cf cb ck cv re be cd mst fo go : Nat → Int32} {a0 p0 tz s0 u0 hg ef s1 at0 sz kd0 fr0 to0 fa pa my pcv : Int32} {nu : Int64} (hI : lw_In n r g us fc cc cf cb be ck cv re) (hJ : us.length = 0) : rr_A R_La code 4 ret (false, some (L, xs)) room_1 lw_Q1 (40 + it) (20000 + 1600 * it) 80 [(3, .int (nI (6 * it))), (2, .ref 24), (1, .ref 0), (0, .ref (rr_K0 + 200))] [] (.inr (5, [.ref 1, .ref 3, .ref 12, .ref 20]) :: .inr (3, [.ref 2, .int (nI n)]) :: .inl (1, 400, .inl (f)) :: .inr (2, [.ref 4, .ref 8, .int a0, .int p0]) :: .inr (4, [.ref 5, .ref 6, .ref 7, .int tz]) :: .inl (0, 401, .inl (fk)) :: .inl (0, 401, .inl (fv)) :: .inl (0, 401, .inl (fp)) :: .inr (0, [.ref 9, .ref 10, .ref 11, .int s0, .int u0]) :: .inl (0, 160, .inl (ck0)) :: .inl (0, 160, .inl (cv0)) :: .inl (0, 6, .inl (re0)) :: .inr (1, [.ref 13, .ref 14, .int hg, .ref 15, .ref 16, .int ef, .ref 17, .ref 18, .int (nI g), .ref 19, .int (nI r)]) :: .inl (0, 32, .inl (fc)) :: .inl (0, 80, .inl (fs)) :: .inl (0, 8, .inl (ec)) :: .inl (0, 8, .inl (ev)) :: .inl (0, 1600, .inl (cc)) :: .inl (0, 1600, .inl (cf)) :: .inl (0, 200, .inl (cb)) :: .inr (0, [.ref 21, .ref 22, .ref 23, .int s1, .int (nI us.length)]) :: .inl (0, 160, .inl (ck)) :: .inl (0, 160, .inl (cv)) :: .inl (0, 6, .inl (re)) :: .inr (6, [.ref 25, .int (nI n), .null, .ref 26, .int (nI r), .int at0, .int sz, .int kd0, .int fr0, .int to0, .int fa, .int pa, .long nu, .ref 27, .int my, .ref 28, .ref 29, .ref 30, .ref 31, .int pcv]) :: .inl (1, 400, .inl (f)) :: .inl (0, 6400, .inl (be)) :: .inl (0, 1600, .inl (cd)) :: .inl (0, 32, .inl (fc)) :: .inl (0, 160, .inl (mst)) :: .inl (0, 8, .inl (fo)) :: .inl (0, 8, .inl (go)) :: []) := by
  obtain ⟨hn, hr, hlg, hco, hgu⟩ := id hI
  have hv1 : vp_in (nI (6 * it) + 1) L := by rw [show (nI (6 * it) + 1 : Int32) = nI ((6 * it) + 1) from nI_add _ 1]; exact vp_in_nI (by omega) (by omega)
  have hv2 : vp_in (nI (6 * it) + 2) L := by rw [show (nI (6 * it) + 2 : Int32) = nI ((6 * it) + 2) from nI_add _ 2]; exact vp_in_nI (by omega) (by omega)
  have hv3 : vp_in (nI (6 * it) + 3) L := by rw [show (nI (6 * it) + 3 : Int32) = nI ((6 * it) + 3) from nI_add _ 3]; exact vp_in_nI (by omega) (by omega)
  have hv4 : vp_in (nI (6 * it) + 4) L := by rw [show (nI (6 * it) + 4 : Int32) = nI ((6 * it) + 4) from nI_add _ 4]; exact vp_in_nI (by omega) (by omega)
  have hv5 : vp_in (nI (6 * it) + 5) L := by rw [show (nI (6 * it) + 5 : Int32) = nI ((6 * it) + 5) from nI_add _ 5]; exact vp_in_nI (by omega) (by omega)
  obtain ⟨x1, hx1⟩ : ∃ x1, xs (nI (6 * it) + 1).toNatClampNeg = x1 := ⟨_, rfl⟩
  obtain ⟨x2, hx2⟩ : ∃ x2, xs (nI (6 * it) + 2).toNatClampNeg = x2 := ⟨_, rfl⟩
  obtain ⟨x3, hx3⟩ : ∃ x3, xs (nI (6 * it) + 3).toNatClampNeg = x3 := ⟨_, rfl⟩
  obtain ⟨x4, hx4⟩ : ∃ x4, xs (nI (6 * it) + 4).toNatClampNeg = x4 := ⟨_, rfl⟩
  obtain ⟨x5, hx5⟩ : ∃ x5, xs (nI (6 * it) + 5).toNatClampNeg = x5 := ⟨_, rfl⟩
  refine rr_aload_n d_La_law_80 rfl rfl ?_
  refine rr_aload_n d_La_law_81 rfl rfl ?_
  refine rr_iload_n d_La_law_82 rfl rfl ?_
  refine rr_iconst 1 d_La_law_83 rfl ?_
  refine rr_iadd d_La_law_84 ?_
  refine rr_sld rfl d_La_law_85 (hv1) ?_
  refine rr_aload_n d_La_law_86 rfl rfl ?_
  refine rr_iload_n d_La_law_87 rfl rfl ?_
  refine rr_iconst 2 d_La_law_88 rfl ?_
  refine rr_iadd d_La_law_89 ?_
  refine rr_sld rfl d_La_law_90 (hv2) ?_
  refine rr_aload_n d_La_law_91 rfl rfl ?_
  refine rr_iload_n d_La_law_92 rfl rfl ?_
  refine rr_iconst 3 d_La_law_93 rfl ?_
  refine rr_iadd d_La_law_94 ?_
  refine rr_sld rfl d_La_law_95 (hv3) ?_
  refine rr_aload_n d_La_law_96 rfl rfl ?_
  refine rr_iload_n d_La_law_97 rfl rfl ?_
  refine rr_iconst 4 d_La_law_98 rfl ?_
  refine rr_iadd d_La_law_99 ?_
  refine rr_sld rfl d_La_law_100 (hv4) ?_
  refine rr_aload_n d_La_law_101 rfl rfl ?_
  refine rr_iload_n d_La_law_102 rfl rfl ?_
  refine rr_iconst 5 d_La_law_103 rfl ?_
  refine rr_iadd d_La_law_104 ?_
  refine rr_sld rfl d_La_law_105 (hv5) ?_
  rw [hx1, hx2, hx3, hx4, hx5]
  by_cases h20 : n + 20 ≤ 400
  · skip
    refine rr_callV d_La_law_106 il_La_13 m_Ru_feed (s_Ru_feed hn) rfl rfl rfl rfl (Nat.le_of_ble_eq_true rfl) (Nat.le_of_ble_eq_true rfl) (Nat.le_of_ble_eq_true rfl) (by show _ + _ ≤ 600000; omega) (by show _ + _ ≤ 7302250; omega) (fun rv9 hp9 hq => ?_)
    rw [if_pos h20] at hq
    obtain ⟨rfl, rfl⟩ := hq
    refine rr_aload_n d_La_law_109 rfl rfl ?_
    refine rr_aload_n d_La_law_110 rfl rfl ?_
    refine rr_iload_n d_La_law_111 rfl rfl ?_
    refine rr_iconst 1 d_La_law_112 rfl ?_
    refine rr_iadd d_La_law_113 ?_
    refine rr_sld rfl d_La_law_114 (hv1) ?_
    refine rr_aload_n d_La_law_115 rfl rfl ?_
    refine rr_iload_n d_La_law_116 rfl rfl ?_
    refine rr_iconst 2 d_La_law_117 rfl ?_
    refine rr_iadd d_La_law_118 ?_
    refine rr_sld rfl d_La_law_119 (hv2) ?_
    refine rr_aload_n d_La_law_120 rfl rfl ?_
    refine rr_iload_n d_La_law_121 rfl rfl ?_
    refine rr_iconst 3 d_La_law_122 rfl ?_
    refine rr_iadd d_La_law_123 ?_
    refine rr_sld rfl d_La_law_124 (hv3) ?_
    refine rr_aload_n d_La_law_125 rfl rfl ?_
    refine rr_iload_n d_La_law_126 rfl rfl ?_
    refine rr_iconst 4 d_La_law_127 rfl ?_
    refine rr_iadd d_La_law_128 ?_
    refine rr_sld rfl d_La_law_129 (hv4) ?_
    refine rr_aload_n d_La_law_130 rfl rfl ?_
    refine rr_iload_n d_La_law_131 rfl rfl ?_
    refine rr_iconst 5 d_La_law_132 rfl ?_
    refine rr_iadd d_La_law_133 ?_
    refine rr_sld rfl d_La_law_134 (hv5) ?_
    rw [hx1, hx2, hx3, hx4, hx5]
    refine rr_callV d_La_law_135 il_La_17 m_Mo_feed (s_Mo_feed_0 hn) rfl rfl rfl rfl (Nat.le_of_ble_eq_true rfl) (Nat.le_of_ble_eq_true rfl) (Nat.le_of_ble_eq_true rfl) (by show _ + _ ≤ 600000; omega) (by show _ + _ ≤ 7302250; omega) (fun rv9 hp9 hq => ?_)
    rw [if_pos h20] at hq
    obtain ⟨rfl, rfl⟩ := hq
    refine rr_icmp_eq 305 d_La_law_138 (by decide) (fun _ => ?_) (fun c9 => absurd (rfl) c9)
    refine rr_view [0, 1, 2, 3, 4, 5, 6, 7, 8, 9, 10, 11, 12, 13, 14, 15, 16, 17, 18, 19, 20, 21, 22, 23, 24, 25, 26, 27, 28, 29, 30, 31] [(3, .int (nI (6 * it))), (2, .ref 24), (1, .ref 0), (0, .ref (rr_K0 + 200))] [] (.inr (5, [.ref 1, .ref 3, .ref 12, .ref 20]) :: .inr (3, [.ref 2, .int (nI (n + 20))]) :: .inl (1, 400, .inl (ta_20 f n x1 x2 x3 x4 x5)) :: .inr (2, [.ref 4, .ref 8, .int a0, .int p0]) :: .inr (4, [.ref 5, .ref 6, .ref 7, .int tz]) :: .inl (0, 401, .inl (fk)) :: .inl (0, 401, .inl (fv)) :: .inl (0, 401, .inl (fp)) :: .inr (0, [.ref 9, .ref 10, .ref 11, .int s0, .int u0]) :: .inl (0, 160, .inl (ck0)) :: .inl (0, 160, .inl (cv0)) :: .inl (0, 6, .inl (re0)) :: .inr (1, [.ref 13, .ref 14, .int hg, .ref 15, .ref 16, .int ef, .ref 17, .ref 18, .int (nI g), .ref 19, .int (nI r)]) :: .inl (0, 32, .inl (fc)) :: .inl (0, 80, .inl (fs)) :: .inl (0, 8, .inl (ec)) :: .inl (0, 8, .inl (ev)) :: .inl (0, 1600, .inl (cc)) :: .inl (0, 1600, .inl (cf)) :: .inl (0, 200, .inl (cb)) :: .inr (0, [.ref 21, .ref 22, .ref 23, .int s1, .int (nI us.length)]) :: .inl (0, 160, .inl (ck)) :: .inl (0, 160, .inl (cv)) :: .inl (0, 6, .inl (re)) :: .inr (6, [.ref 25, .int (nI (n + 20)), .null, .ref 26, .int (nI r), .int at0, .int sz, .int kd0, .int fr0, .int to0, .int fa, .int pa, .long nu, .ref 27, .int my, .ref 28, .ref 29, .ref 30, .ref 31, .int pcv]) :: .inl (1, 400, .inl (ta_20 f n x1 x2 x3 x4 x5)) :: .inl (0, 6400, .inl (be)) :: .inl (0, 1600, .inl (cd)) :: .inl (0, 32, .inl (fc)) :: .inl (0, 160, .inl (mst)) :: .inl (0, 8, .inl (fo)) :: .inl (0, 8, .inl (go)) :: []) rfl (by decide) rfl rfl rfl rfl ?_
    exact lw_n0 k0 (by omega) (by omega) (⟨h20, hr, hlg, hco, hgu⟩) (hJ)
  · skip
    refine rr_callV d_La_law_106 il_La_13 m_Ru_feed (s_Ru_feed hn) rfl rfl rfl rfl (Nat.le_of_ble_eq_true rfl) (Nat.le_of_ble_eq_true rfl) (Nat.le_of_ble_eq_true rfl) (by show _ + _ ≤ 600000; omega) (by show _ + _ ≤ 7302250; omega) (fun rv9 hp9 hq => ?_)
    rw [if_neg h20] at hq
    obtain ⟨rfl, rfl⟩ := hq
    refine rr_aload_n d_La_law_109 rfl rfl ?_
    refine rr_aload_n d_La_law_110 rfl rfl ?_
    refine rr_iload_n d_La_law_111 rfl rfl ?_
    refine rr_iconst 1 d_La_law_112 rfl ?_
    refine rr_iadd d_La_law_113 ?_
    refine rr_sld rfl d_La_law_114 (hv1) ?_
    refine rr_aload_n d_La_law_115 rfl rfl ?_
    refine rr_iload_n d_La_law_116 rfl rfl ?_
    refine rr_iconst 2 d_La_law_117 rfl ?_
    refine rr_iadd d_La_law_118 ?_
    refine rr_sld rfl d_La_law_119 (hv2) ?_
    refine rr_aload_n d_La_law_120 rfl rfl ?_
    refine rr_iload_n d_La_law_121 rfl rfl ?_
    refine rr_iconst 3 d_La_law_122 rfl ?_
    refine rr_iadd d_La_law_123 ?_
    refine rr_sld rfl d_La_law_124 (hv3) ?_
    refine rr_aload_n d_La_law_125 rfl rfl ?_
    refine rr_iload_n d_La_law_126 rfl rfl ?_
    refine rr_iconst 4 d_La_law_127 rfl ?_
    refine rr_iadd d_La_law_128 ?_
    refine rr_sld rfl d_La_law_129 (hv4) ?_
    refine rr_aload_n d_La_law_130 rfl rfl ?_
    refine rr_iload_n d_La_law_131 rfl rfl ?_
    refine rr_iconst 5 d_La_law_132 rfl ?_
    refine rr_iadd d_La_law_133 ?_
    refine rr_sld rfl d_La_law_134 (hv5) ?_
    rw [hx1, hx2, hx3, hx4, hx5]
    refine rr_callV d_La_law_135 il_La_17 m_Mo_feed (s_Mo_feed_0 hn) rfl rfl rfl rfl (Nat.le_of_ble_eq_true rfl) (Nat.le_of_ble_eq_true rfl) (Nat.le_of_ble_eq_true rfl) (by show _ + _ ≤ 600000; omega) (by show _ + _ ≤ 7302250; omega) (fun rv9 hp9 hq => ?_)
    rw [if_neg h20] at hq
    obtain ⟨rfl, rfl⟩ := hq
    refine rr_icmp_eq 305 d_La_law_138 (by decide) (fun _ => ?_) (fun c9 => absurd (rfl) c9)
    exact lw_n0 k0 (by omega) (by omega) (hI) (hJ)

set_option maxRecDepth 100000 in
set_option maxHeartbeats 4000000 in
theorem lw_end0 {L : Nat} {xs : Nat → Int32} {it : Nat} (hL : L ≤ 3072) (hi : 6 * it + 6 ≤ L) (k0 : lw_P0 L xs (40 + it + 1) (20000 + 1600 * it + 1600) (6 * it + 6)) (k1 : lw_P1 L xs (40 + it + 1) (20000 + 1600 * it + 1600) (6 * it + 6)) {n r g : Nat} {us : List sp_U} {f fc fk fv fp ck0 cv0 re0 fs ec ev cc cf cb ck cv re be cd mst fo go : Nat → Int32} {a0 p0 tz s0 u0 hg ef s1 at0 sz kd0 fr0 to0 fa pa my pcv : Int32} {nu : Int64} (hI : lw_In n r g us fc cc cf cb be ck cv re) (hJ : us.length = 0) : rr_A R_La code 4 ret (false, some (L, xs)) room_1 lw_Q1 (40 + it) (20000 + 1600 * it) 143 [(3, .int (nI (6 * it))), (2, .ref 24), (1, .ref 0), (0, .ref (rr_K0 + 200))] [] (.inr (5, [.ref 1, .ref 3, .ref 12, .ref 20]) :: .inr (3, [.ref 2, .int (nI n)]) :: .inl (1, 400, .inl (f)) :: .inr (2, [.ref 4, .ref 8, .int a0, .int p0]) :: .inr (4, [.ref 5, .ref 6, .ref 7, .int tz]) :: .inl (0, 401, .inl (fk)) :: .inl (0, 401, .inl (fv)) :: .inl (0, 401, .inl (fp)) :: .inr (0, [.ref 9, .ref 10, .ref 11, .int s0, .int u0]) :: .inl (0, 160, .inl (ck0)) :: .inl (0, 160, .inl (cv0)) :: .inl (0, 6, .inl (re0)) :: .inr (1, [.ref 13, .ref 14, .int hg, .ref 15, .ref 16, .int ef, .ref 17, .ref 18, .int (nI g), .ref 19, .int (nI r)]) :: .inl (0, 32, .inl (fc)) :: .inl (0, 80, .inl (fs)) :: .inl (0, 8, .inl (ec)) :: .inl (0, 8, .inl (ev)) :: .inl (0, 1600, .inl (cc)) :: .inl (0, 1600, .inl (cf)) :: .inl (0, 200, .inl (cb)) :: .inr (0, [.ref 21, .ref 22, .ref 23, .int s1, .int (nI us.length)]) :: .inl (0, 160, .inl (ck)) :: .inl (0, 160, .inl (cv)) :: .inl (0, 6, .inl (re)) :: .inr (6, [.ref 25, .int (nI n), .null, .ref 26, .int (nI r), .int at0, .int sz, .int kd0, .int fr0, .int to0, .int fa, .int pa, .long nu, .ref 27, .int my, .ref 28, .ref 29, .ref 30, .ref 31, .int pcv]) :: .inl (1, 400, .inl (f)) :: .inl (0, 6400, .inl (be)) :: .inl (0, 1600, .inl (cd)) :: .inl (0, 32, .inl (fc)) :: .inl (0, 160, .inl (mst)) :: .inl (0, 8, .inl (fo)) :: .inl (0, 8, .inl (go)) :: []) := by
  obtain ⟨hn, hr, hlg, hco, hgu⟩ := id hI
  have hv1 : vp_in (nI (6 * it) + 1) L := by rw [show (nI (6 * it) + 1 : Int32) = nI ((6 * it) + 1) from nI_add _ 1]; exact vp_in_nI (by omega) (by omega)
  obtain ⟨x1, hx1⟩ : ∃ x1, xs (nI (6 * it) + 1).toNatClampNeg = x1 := ⟨_, rfl⟩
  refine rr_aload_n d_La_law_143 rfl rfl ?_
  refine rr_aload_n d_La_law_144 rfl rfl ?_
  refine rr_iload_n d_La_law_145 rfl rfl ?_
  refine rr_iconst 1 d_La_law_146 rfl ?_
  refine rr_iadd d_La_law_147 ?_
  refine rr_sld rfl d_La_law_148 (hv1) ?_
  rw [hx1]
  refine rr_callV d_La_law_149 il_La_18 m_Ru_end (s_Ru_end hn) rfl rfl rfl rfl (Nat.le_of_ble_eq_true rfl) (Nat.le_of_ble_eq_true rfl) (Nat.le_of_ble_eq_true rfl) (by show _ + _ ≤ 600000; omega) (by show _ + _ ≤ 7302250; omega) (fun rv9 hp9 hq => ?_)
  obtain ⟨k, hk, rfl, rfl, rfl⟩ | ⟨hn2, rfl, rfl⟩ := hq
  · skip
    refine rr_aload_n d_La_law_152 rfl rfl ?_
    refine rr_aload_n d_La_law_153 rfl rfl ?_
    refine rr_iload_n d_La_law_154 rfl rfl ?_
    refine rr_iconst 1 d_La_law_155 rfl ?_
    refine rr_iadd d_La_law_156 ?_
    refine rr_sld rfl d_La_law_157 (hv1) ?_
    rw [hx1]
    refine rr_callV d_La_law_158 il_La_22 m_Mo_end (s_Mo_end) rfl rfl rfl rfl (Nat.le_of_ble_eq_true rfl) (Nat.le_of_ble_eq_true rfl) (Nat.le_of_ble_eq_true rfl) (by show _ + _ ≤ 600000; omega) (by show _ + _ ≤ 7302250; omega) (fun rv9 hp9 hq => ?_)
    rw [if_pos ⟨nI_pos' (by omega), nI_le hk (by omega)⟩] at hq
    obtain ⟨rfl, rfl⟩ := hq
    refine rr_icmp_eq 305 d_La_law_161 (by decide) (fun _ => ?_) (fun c9 => absurd (rfl) c9)
    exact lw_n0 k0 (by omega) (by omega) (⟨by omega, hr, hlg, hco, hgu⟩) (hJ)
  · skip
    refine rr_aload_n d_La_law_152 rfl rfl ?_
    refine rr_aload_n d_La_law_153 rfl rfl ?_
    refine rr_iload_n d_La_law_154 rfl rfl ?_
    refine rr_iconst 1 d_La_law_155 rfl ?_
    refine rr_iadd d_La_law_156 ?_
    refine rr_sld rfl d_La_law_157 (hv1) ?_
    rw [hx1]
    refine rr_callV d_La_law_158 il_La_22 m_Mo_end (s_Mo_end) rfl rfl rfl rfl (Nat.le_of_ble_eq_true rfl) (Nat.le_of_ble_eq_true rfl) (Nat.le_of_ble_eq_true rfl) (by show _ + _ ≤ 600000; omega) (by show _ + _ ≤ 7302250; omega) (fun rv9 hp9 hq => ?_)
    rw [if_neg (fun q => hn2.elim (fun a => Int32.not_lt.mpr q.1 a) (fun a => a q.2))] at hq
    obtain ⟨rfl, rfl⟩ := hq
    refine rr_icmp_eq 305 d_La_law_161 (by decide) (fun _ => ?_) (fun c9 => absurd (rfl) c9)
    exact lw_n0 k0 (by omega) (by omega) (hI) (hJ)

set_option maxRecDepth 100000 in
set_option maxHeartbeats 4000000 in
theorem lw_prog0 {L : Nat} {xs : Nat → Int32} {it : Nat} (hL : L ≤ 3072) (hi : 6 * it + 6 ≤ L) (k0 : lw_P0 L xs (40 + it + 1) (20000 + 1600 * it + 1600) (6 * it + 6)) (k1 : lw_P1 L xs (40 + it + 1) (20000 + 1600 * it + 1600) (6 * it + 6)) {n r g : Nat} {us : List sp_U} {f fc fk fv fp ck0 cv0 re0 fs ec ev cc cf cb ck cv re be cd mst fo go : Nat → Int32} {a0 p0 tz s0 u0 hg ef s1 at0 sz kd0 fr0 to0 fa pa my pcv : Int32} {nu : Int64} (hI : lw_In n r g us fc cc cf cb be ck cv re) (hJ : us.length = 0) : rr_A R_La code 4 ret (false, some (L, xs)) room_1 lw_Q1 (40 + it) (20000 + 1600 * it) 166 [(3, .int (nI (6 * it))), (2, .ref 24), (1, .ref 0), (0, .ref (rr_K0 + 200))] [] (.inr (5, [.ref 1, .ref 3, .ref 12, .ref 20]) :: .inr (3, [.ref 2, .int (nI n)]) :: .inl (1, 400, .inl (f)) :: .inr (2, [.ref 4, .ref 8, .int a0, .int p0]) :: .inr (4, [.ref 5, .ref 6, .ref 7, .int tz]) :: .inl (0, 401, .inl (fk)) :: .inl (0, 401, .inl (fv)) :: .inl (0, 401, .inl (fp)) :: .inr (0, [.ref 9, .ref 10, .ref 11, .int s0, .int u0]) :: .inl (0, 160, .inl (ck0)) :: .inl (0, 160, .inl (cv0)) :: .inl (0, 6, .inl (re0)) :: .inr (1, [.ref 13, .ref 14, .int hg, .ref 15, .ref 16, .int ef, .ref 17, .ref 18, .int (nI g), .ref 19, .int (nI r)]) :: .inl (0, 32, .inl (fc)) :: .inl (0, 80, .inl (fs)) :: .inl (0, 8, .inl (ec)) :: .inl (0, 8, .inl (ev)) :: .inl (0, 1600, .inl (cc)) :: .inl (0, 1600, .inl (cf)) :: .inl (0, 200, .inl (cb)) :: .inr (0, [.ref 21, .ref 22, .ref 23, .int s1, .int (nI us.length)]) :: .inl (0, 160, .inl (ck)) :: .inl (0, 160, .inl (cv)) :: .inl (0, 6, .inl (re)) :: .inr (6, [.ref 25, .int (nI n), .null, .ref 26, .int (nI r), .int at0, .int sz, .int kd0, .int fr0, .int to0, .int fa, .int pa, .long nu, .ref 27, .int my, .ref 28, .ref 29, .ref 30, .ref 31, .int pcv]) :: .inl (1, 400, .inl (f)) :: .inl (0, 6400, .inl (be)) :: .inl (0, 1600, .inl (cd)) :: .inl (0, 32, .inl (fc)) :: .inl (0, 160, .inl (mst)) :: .inl (0, 8, .inl (fo)) :: .inl (0, 8, .inl (go)) :: []) := by
  obtain ⟨hn, hr, hlg, hco, hgu⟩ := id hI
  refine rr_aload_n d_La_law_166 rfl rfl ?_
  refine rr_callV d_La_law_167 il_La_23 m_Ru_program (s_Ru_program hn) rfl rfl rfl rfl (Nat.le_of_ble_eq_true rfl) (Nat.le_of_ble_eq_true rfl) (Nat.le_of_ble_eq_true rfl) (by show _ + _ ≤ 600000; omega) (by show _ + _ ≤ 7302250; omega) (fun rv9 hp9 hq => ?_)
  obtain ⟨a2, p2, z2, s2, u2, gk, gv, gp, ck2, cv2, re2, hq⟩ := hq
  by_cases hp : (sp_pr f n).1 = true
  · rw [if_pos hp] at hq
    obtain ⟨rfl, rfl, rfl, hco2⟩ := hq
    obtain ⟨g1, g2, g3, g4⟩ := gu_pr hp
    refine rr_aload_n d_La_law_170 rfl rfl ?_
    refine rr_callV d_La_law_171 il_La_27 m_Mo_program (s_Mo_program_0 hn) rfl rfl rfl rfl (Nat.le_of_ble_eq_true rfl) (Nat.le_of_ble_eq_true rfl) (Nat.le_of_ble_eq_true rfl) (by show _ + _ ≤ 600000; omega) (by show _ + _ ≤ 7302250; omega) (fun rv9 hp9 hq => ?_)
    obtain ⟨at2, sz2, kd2, fr2, to2, fa2, pa2, my2, nu2, cd2, hq⟩ := hq
    rw [if_pos hp] at hq
    obtain ⟨c2, rfl, rfl, hmd⟩ := hq
    refine rr_icmp_eq 305 d_La_law_174 (by decide) (fun _ => ?_) (fun c9 => absurd (rfl) c9)
    refine rr_view [0, 1, 2, 3, 4, 5, 6, 7, 20, 21, 22, 23, 12, 13, 14, 15, 16, 17, 18, 19, 8, 9, 10, 11, 24, 25, 26, 27, 28, 29, 30, 31, 32] [(3, .int (nI (6 * it))), (2, .ref 24), (1, .ref 0), (0, .ref (rr_K0 + 200))] [] (.inr (5, [.ref 1, .ref 3, .ref 12, .ref 20]) :: .inr (3, [.ref 2, .int 0]) :: .inl (1, 400, .inl (f)) :: .inr (2, [.ref 4, .ref 8, .int a2, .int p2]) :: .inr (4, [.ref 5, .ref 6, .ref 7, .int z2]) :: .inl (0, 401, .inl (gk)) :: .inl (0, 401, .inl (gv)) :: .inl (0, 401, .inl (gp)) :: .inr (0, [.ref 9, .ref 10, .ref 11, .int s1, .int (nI us.length)]) :: .inl (0, 160, .inl (ck)) :: .inl (0, 160, .inl (cv)) :: .inl (0, 6, .inl (re)) :: .inr (1, [.ref 13, .ref 14, .int hg, .ref 15, .ref 16, .int ef, .ref 17, .ref 18, .int (nI g), .ref 19, .int (nI r)]) :: .inl (0, 32, .inl (fc)) :: .inl (0, 80, .inl (fs)) :: .inl (0, 8, .inl (ec)) :: .inl (0, 8, .inl (ev)) :: .inl (0, 1600, .inl (cc)) :: .inl (0, 1600, .inl (cf)) :: .inl (0, 200, .inl (cb)) :: .inr (0, [.ref 21, .ref 22, .ref 23, .int s2, .int (nI (sp_pr f n).2.2.length)]) :: .inl (0, 160, .inl (ck2)) :: .inl (0, 160, .inl (cv2)) :: .inl (0, 6, .inl (re2)) :: .inr (6, [.ref 25, .int 0, .ref 32, .ref 26, .int (nI r), .int at2, .int sz2, .int kd2, .int fr2, .int to2, .int fa2, .int pa2, .long nu2, .ref 27, .int my2, .ref 28, .ref 29, .ref 30, .ref 31, .int pcv]) :: .inl (1, 400, .inl (f)) :: .inl (0, 6400, .inl (be)) :: .inl (0, 1600, .inl (cd2)) :: .inl (0, 32, .inl (fc)) :: .inl (0, 160, .inl (mst)) :: .inl (0, 8, .inl (fo)) :: .inl (0, 8, .inl (go)) :: .inl (0, mdp (sp_pr f n).2.2, .inl (c2)) :: []) rfl (by decide) rfl rfl rfl rfl ?_
    exact lw_n1 k1 (by omega) (by omega) (n := 0) (⟨Nat.zero_le _, hr, hlg, hco2, g1⟩) (⟨hmd, g2, g3, g4⟩)
  · rw [if_neg hp] at hq
    obtain ⟨rfl, rfl⟩ := hq
    refine rr_aload_n d_La_law_170 rfl rfl ?_
    refine rr_callV d_La_law_171 il_La_27 m_Mo_program (s_Mo_program_0 hn) rfl rfl rfl rfl (Nat.le_of_ble_eq_true rfl) (Nat.le_of_ble_eq_true rfl) (Nat.le_of_ble_eq_true rfl) (by show _ + _ ≤ 600000; omega) (by show _ + _ ≤ 7302250; omega) (fun rv9 hp9 hq => ?_)
    obtain ⟨at2, sz2, kd2, fr2, to2, fa2, pa2, my2, nu2, cd2, hq⟩ := hq
    rw [if_neg hp] at hq
    obtain ⟨rfl, rfl⟩ := hq
    refine rr_icmp_eq 305 d_La_law_174 (by decide) (fun _ => ?_) (fun c9 => absurd (rfl) c9)
    exact lw_n0 k0 (by omega) (by omega) (n := 0) (⟨Nat.zero_le _, hr, hlg, hco, hgu⟩) (hJ)

set_option maxRecDepth 100000 in
set_option maxHeartbeats 4000000 in
theorem lw_run0 {L : Nat} {xs : Nat → Int32} {it : Nat} (hL : L ≤ 3072) (hi : 6 * it + 6 ≤ L) (k0 : lw_P0 L xs (40 + it + 1) (20000 + 1600 * it + 1600) (6 * it + 6)) (k1 : lw_P1 L xs (40 + it + 1) (20000 + 1600 * it + 1600) (6 * it + 6)) {n r g : Nat} {us : List sp_U} {f fc fk fv fp ck0 cv0 re0 fs ec ev cc cf cb ck cv re be cd mst fo go : Nat → Int32} {a0 p0 tz s0 u0 hg ef s1 at0 sz kd0 fr0 to0 fa pa my pcv : Int32} {nu : Int64} (hI : lw_In n r g us fc cc cf cb be ck cv re) (hJ : us.length = 0) : rr_A R_La code 4 ret (false, some (L, xs)) room_1 lw_Q1 (40 + it) (20000 + 1600 * it) 179 [(3, .int (nI (6 * it))), (2, .ref 24), (1, .ref 0), (0, .ref (rr_K0 + 200))] [] (.inr (5, [.ref 1, .ref 3, .ref 12, .ref 20]) :: .inr (3, [.ref 2, .int (nI n)]) :: .inl (1, 400, .inl (f)) :: .inr (2, [.ref 4, .ref 8, .int a0, .int p0]) :: .inr (4, [.ref 5, .ref 6, .ref 7, .int tz]) :: .inl (0, 401, .inl (fk)) :: .inl (0, 401, .inl (fv)) :: .inl (0, 401, .inl (fp)) :: .inr (0, [.ref 9, .ref 10, .ref 11, .int s0, .int u0]) :: .inl (0, 160, .inl (ck0)) :: .inl (0, 160, .inl (cv0)) :: .inl (0, 6, .inl (re0)) :: .inr (1, [.ref 13, .ref 14, .int hg, .ref 15, .ref 16, .int ef, .ref 17, .ref 18, .int (nI g), .ref 19, .int (nI r)]) :: .inl (0, 32, .inl (fc)) :: .inl (0, 80, .inl (fs)) :: .inl (0, 8, .inl (ec)) :: .inl (0, 8, .inl (ev)) :: .inl (0, 1600, .inl (cc)) :: .inl (0, 1600, .inl (cf)) :: .inl (0, 200, .inl (cb)) :: .inr (0, [.ref 21, .ref 22, .ref 23, .int s1, .int (nI us.length)]) :: .inl (0, 160, .inl (ck)) :: .inl (0, 160, .inl (cv)) :: .inl (0, 6, .inl (re)) :: .inr (6, [.ref 25, .int (nI n), .null, .ref 26, .int (nI r), .int at0, .int sz, .int kd0, .int fr0, .int to0, .int fa, .int pa, .long nu, .ref 27, .int my, .ref 28, .ref 29, .ref 30, .ref 31, .int pcv]) :: .inl (1, 400, .inl (f)) :: .inl (0, 6400, .inl (be)) :: .inl (0, 1600, .inl (cd)) :: .inl (0, 32, .inl (fc)) :: .inl (0, 160, .inl (mst)) :: .inl (0, 8, .inl (fo)) :: .inl (0, 8, .inl (go)) :: []) := by
  obtain ⟨hn, hr, hlg, hco, hgu⟩ := id hI
  have hv1 : vp_in (nI (6 * it) + 1) L := by rw [show (nI (6 * it) + 1 : Int32) = nI ((6 * it) + 1) from nI_add _ 1]; exact vp_in_nI (by omega) (by omega)
  have hv2 : vp_in (nI (6 * it) + 2) L := by rw [show (nI (6 * it) + 2 : Int32) = nI ((6 * it) + 2) from nI_add _ 2]; exact vp_in_nI (by omega) (by omega)
  obtain ⟨x1, hx1⟩ : ∃ x1, xs (nI (6 * it) + 1).toNatClampNeg = x1 := ⟨_, rfl⟩
  obtain ⟨x2, hx2⟩ : ∃ x2, xs (nI (6 * it) + 2).toNatClampNeg = x2 := ⟨_, rfl⟩
  have hg8 := hlg.le
  refine rr_aload_n d_La_law_179 rfl rfl ?_
  refine rr_aload_n d_La_law_180 rfl rfl ?_
  refine rr_iload_n d_La_law_181 rfl rfl ?_
  refine rr_iconst 1 d_La_law_182 rfl ?_
  refine rr_iadd d_La_law_183 ?_
  refine rr_sld rfl d_La_law_184 (hv1) ?_
  refine rr_aload_n d_La_law_185 rfl rfl ?_
  refine rr_iload_n d_La_law_186 rfl rfl ?_
  refine rr_iconst 2 d_La_law_187 rfl ?_
  refine rr_iadd d_La_law_188 ?_
  refine rr_sld rfl d_La_law_189 (hv2) ?_
  rw [hx1, hx2]
  refine rr_callV d_La_law_190 il_La_28 m_Ru_run (s_Ru_run hco hgu hr (fun _ => by omega)) rfl rfl rfl rfl (Nat.le_of_ble_eq_true rfl) (Nat.le_of_ble_eq_true rfl) (Nat.le_of_ble_eq_true rfl) (by show _ + _ ≤ 600000; omega) (by show _ + _ ≤ 7302250; omega) (fun rv9 hp9 hq => ?_)
  rw [if_pos hJ] at hq
  obtain ⟨rfl, rfl⟩ := hq
  refine rr_aload_n d_La_law_193 rfl rfl ?_
  refine rr_aload_n d_La_law_194 rfl rfl ?_
  refine rr_iload_n d_La_law_195 rfl rfl ?_
  refine rr_iconst 1 d_La_law_196 rfl ?_
  refine rr_iadd d_La_law_197 ?_
  refine rr_sld rfl d_La_law_198 (hv1) ?_
  refine rr_aload_n d_La_law_199 rfl rfl ?_
  refine rr_iload_n d_La_law_200 rfl rfl ?_
  refine rr_iconst 2 d_La_law_201 rfl ?_
  refine rr_iadd d_La_law_202 ?_
  refine rr_sld rfl d_La_law_203 (hv2) ?_
  rw [hx1, hx2]
  refine rr_callV d_La_law_204 il_La_32 m_Mo_run (s_Mo_run_0) rfl rfl rfl rfl (Nat.le_of_ble_eq_true rfl) (Nat.le_of_ble_eq_true rfl) (Nat.le_of_ble_eq_true rfl) (by show _ + _ ≤ 600000; omega) (by show _ + _ ≤ 7302250; omega) (fun rv9 hp9 hq => ?_)
  obtain ⟨rfl, rfl⟩ := hq
  refine rr_icmp_eq 305 d_La_law_207 (by decide) (fun _ => ?_) (fun c9 => absurd (rfl) c9)
  exact lw_n0 k0 (by omega) (by omega) (hI) (hJ)

set_option maxRecDepth 100000 in
set_option maxHeartbeats 4000000 in
theorem lw_undo0 {L : Nat} {xs : Nat → Int32} {it : Nat} (hL : L ≤ 3072) (hi : 6 * it + 6 ≤ L) (k0 : lw_P0 L xs (40 + it + 1) (20000 + 1600 * it + 1600) (6 * it + 6)) (k1 : lw_P1 L xs (40 + it + 1) (20000 + 1600 * it + 1600) (6 * it + 6)) {n r g : Nat} {us : List sp_U} {f fc fk fv fp ck0 cv0 re0 fs ec ev cc cf cb ck cv re be cd mst fo go : Nat → Int32} {a0 p0 tz s0 u0 hg ef s1 at0 sz kd0 fr0 to0 fa pa my pcv : Int32} {nu : Int64} (hI : lw_In n r g us fc cc cf cb be ck cv re) (hJ : us.length = 0) : rr_A R_La code 4 ret (false, some (L, xs)) room_1 lw_Q1 (40 + it) (20000 + 1600 * it) 212 [(3, .int (nI (6 * it))), (2, .ref 24), (1, .ref 0), (0, .ref (rr_K0 + 200))] [] (.inr (5, [.ref 1, .ref 3, .ref 12, .ref 20]) :: .inr (3, [.ref 2, .int (nI n)]) :: .inl (1, 400, .inl (f)) :: .inr (2, [.ref 4, .ref 8, .int a0, .int p0]) :: .inr (4, [.ref 5, .ref 6, .ref 7, .int tz]) :: .inl (0, 401, .inl (fk)) :: .inl (0, 401, .inl (fv)) :: .inl (0, 401, .inl (fp)) :: .inr (0, [.ref 9, .ref 10, .ref 11, .int s0, .int u0]) :: .inl (0, 160, .inl (ck0)) :: .inl (0, 160, .inl (cv0)) :: .inl (0, 6, .inl (re0)) :: .inr (1, [.ref 13, .ref 14, .int hg, .ref 15, .ref 16, .int ef, .ref 17, .ref 18, .int (nI g), .ref 19, .int (nI r)]) :: .inl (0, 32, .inl (fc)) :: .inl (0, 80, .inl (fs)) :: .inl (0, 8, .inl (ec)) :: .inl (0, 8, .inl (ev)) :: .inl (0, 1600, .inl (cc)) :: .inl (0, 1600, .inl (cf)) :: .inl (0, 200, .inl (cb)) :: .inr (0, [.ref 21, .ref 22, .ref 23, .int s1, .int (nI us.length)]) :: .inl (0, 160, .inl (ck)) :: .inl (0, 160, .inl (cv)) :: .inl (0, 6, .inl (re)) :: .inr (6, [.ref 25, .int (nI n), .null, .ref 26, .int (nI r), .int at0, .int sz, .int kd0, .int fr0, .int to0, .int fa, .int pa, .long nu, .ref 27, .int my, .ref 28, .ref 29, .ref 30, .ref 31, .int pcv]) :: .inl (1, 400, .inl (f)) :: .inl (0, 6400, .inl (be)) :: .inl (0, 1600, .inl (cd)) :: .inl (0, 32, .inl (fc)) :: .inl (0, 160, .inl (mst)) :: .inl (0, 8, .inl (fo)) :: .inl (0, 8, .inl (go)) :: []) := by
  obtain ⟨hn, hr, hlg, hco, hgu⟩ := id hI
  have hg8 := hlg.le
  refine rr_aload_n d_La_law_212 rfl rfl ?_
  cases r with
  | zero =>
    refine rr_callV d_La_law_213 il_La_33 m_Ru_undo (s_Ru_undo (lo := 0) hr (fun q => absurd q (by decide)) hlg.cells (by omega)) rfl rfl rfl rfl (Nat.le_of_ble_eq_true rfl) (Nat.le_of_ble_eq_true rfl) (Nat.le_of_ble_eq_true rfl) (by show _ + _ ≤ 600000; omega) (by show _ + _ ≤ 7302250; omega) (fun rv9 hp9 hq => ?_)
    rw [if_pos rfl] at hq
    obtain ⟨rfl, rfl⟩ := hq
    refine rr_aload_n d_La_law_216 rfl rfl ?_
    refine rr_callV d_La_law_217 il_La_36 m_Mo_undo (s_Mo_undo hr) rfl rfl rfl rfl (Nat.le_of_ble_eq_true rfl) (Nat.le_of_ble_eq_true rfl) (Nat.le_of_ble_eq_true rfl) (by show _ + _ ≤ 600000; omega) (by show _ + _ ≤ 7302250; omega) (fun rv9 hp9 hq => ?_)
    rw [if_pos rfl] at hq
    obtain ⟨rfl, rfl⟩ := hq
    refine rr_icmp_eq 305 d_La_law_220 (by decide) (fun _ => ?_) (fun c9 => absurd (rfl) c9)
    exact lw_n0 k0 (by omega) (by omega) (hI) (hJ)
  | succ r =>
    obtain ⟨lo, b1, b2, b3, b4⟩ := hlg.back
    have hl8 := b4.le
    refine rr_callV d_La_law_213 il_La_33 m_Ru_undo (s_Ru_undo (lo := lo) hr (fun _ => ⟨b1, b2⟩) hlg.cells (by omega)) rfl rfl rfl rfl (Nat.le_of_ble_eq_true rfl) (Nat.le_of_ble_eq_true rfl) (Nat.le_of_ble_eq_true rfl) (by show _ + _ ≤ 600000; omega) (by show _ + _ ≤ 7302250; omega) (fun rv9 hp9 hq => ?_)
    rw [if_neg (Nat.succ_ne_zero r), Nat.add_sub_cancel, b3] at hq
    obtain ⟨rfl, rfl⟩ := hq
    rw [b3] at b4
    refine rr_aload_n d_La_law_216 rfl rfl ?_
    refine rr_callV d_La_law_217 il_La_36 m_Mo_undo (s_Mo_undo hr) rfl rfl rfl rfl (Nat.le_of_ble_eq_true rfl) (Nat.le_of_ble_eq_true rfl) (Nat.le_of_ble_eq_true rfl) (by show _ + _ ≤ 600000; omega) (by show _ + _ ≤ 7302250; omega) (fun rv9 hp9 hq => ?_)
    rw [if_neg (Nat.succ_ne_zero r), Nat.add_sub_cancel] at hq
    obtain ⟨rfl, rfl⟩ := hq
    refine rr_icmp_eq 305 d_La_law_220 (by decide) (fun _ => ?_) (fun c9 => absurd (rfl) c9)
    exact lw_n0 k0 (by omega) (by omega) (⟨hn, by omega, b4, hco, hgu⟩) (hJ)

set_option maxRecDepth 100000 in
set_option maxHeartbeats 4000000 in
theorem lw_cell0 {L : Nat} {xs : Nat → Int32} {it : Nat} (hL : L ≤ 3072) (hi : 6 * it + 6 ≤ L) (k0 : lw_P0 L xs (40 + it + 1) (20000 + 1600 * it + 1600) (6 * it + 6)) (k1 : lw_P1 L xs (40 + it + 1) (20000 + 1600 * it + 1600) (6 * it + 6)) {n r g : Nat} {us : List sp_U} {f fc fk fv fp ck0 cv0 re0 fs ec ev cc cf cb ck cv re be cd mst fo go : Nat → Int32} {a0 p0 tz s0 u0 hg ef s1 at0 sz kd0 fr0 to0 fa pa my pcv : Int32} {nu : Int64} (hI : lw_In n r g us fc cc cf cb be ck cv re) (hJ : us.length = 0) : rr_A R_La code 4 ret (false, some (L, xs)) room_1 lw_Q1 (40 + it) (20000 + 1600 * it) 225 [(3, .int (nI (6 * it))), (2, .ref 24), (1, .ref 0), (0, .ref (rr_K0 + 200))] [] (.inr (5, [.ref 1, .ref 3, .ref 12, .ref 20]) :: .inr (3, [.ref 2, .int (nI n)]) :: .inl (1, 400, .inl (f)) :: .inr (2, [.ref 4, .ref 8, .int a0, .int p0]) :: .inr (4, [.ref 5, .ref 6, .ref 7, .int tz]) :: .inl (0, 401, .inl (fk)) :: .inl (0, 401, .inl (fv)) :: .inl (0, 401, .inl (fp)) :: .inr (0, [.ref 9, .ref 10, .ref 11, .int s0, .int u0]) :: .inl (0, 160, .inl (ck0)) :: .inl (0, 160, .inl (cv0)) :: .inl (0, 6, .inl (re0)) :: .inr (1, [.ref 13, .ref 14, .int hg, .ref 15, .ref 16, .int ef, .ref 17, .ref 18, .int (nI g), .ref 19, .int (nI r)]) :: .inl (0, 32, .inl (fc)) :: .inl (0, 80, .inl (fs)) :: .inl (0, 8, .inl (ec)) :: .inl (0, 8, .inl (ev)) :: .inl (0, 1600, .inl (cc)) :: .inl (0, 1600, .inl (cf)) :: .inl (0, 200, .inl (cb)) :: .inr (0, [.ref 21, .ref 22, .ref 23, .int s1, .int (nI us.length)]) :: .inl (0, 160, .inl (ck)) :: .inl (0, 160, .inl (cv)) :: .inl (0, 6, .inl (re)) :: .inr (6, [.ref 25, .int (nI n), .null, .ref 26, .int (nI r), .int at0, .int sz, .int kd0, .int fr0, .int to0, .int fa, .int pa, .long nu, .ref 27, .int my, .ref 28, .ref 29, .ref 30, .ref 31, .int pcv]) :: .inl (1, 400, .inl (f)) :: .inl (0, 6400, .inl (be)) :: .inl (0, 1600, .inl (cd)) :: .inl (0, 32, .inl (fc)) :: .inl (0, 160, .inl (mst)) :: .inl (0, 8, .inl (fo)) :: .inl (0, 8, .inl (go)) :: []) := by
  obtain ⟨hn, hr, hlg, hco, hgu⟩ := id hI
  have hv1 : vp_in (nI (6 * it) + 1) L := by rw [show (nI (6 * it) + 1 : Int32) = nI ((6 * it) + 1) from nI_add _ 1]; exact vp_in_nI (by omega) (by omega)
  obtain ⟨x1, hx1⟩ : ∃ x1, xs (nI (6 * it) + 1).toNatClampNeg = x1 := ⟨_, rfl⟩
  refine rr_aload_n d_La_law_225 rfl rfl ?_
  refine rr_aload_n d_La_law_226 rfl rfl ?_
  refine rr_iload_n d_La_law_227 rfl rfl ?_
  refine rr_iconst 1 d_La_law_228 rfl ?_
  refine rr_iadd d_La_law_229 ?_
  refine rr_sld rfl d_La_law_230 (hv1) ?_
  rw [hx1]
  refine rr_callV d_La_law_231 il_La_37 m_Ru_cell (s_Ru_cell) rfl rfl rfl rfl (Nat.le_of_ble_eq_true rfl) (Nat.le_of_ble_eq_true rfl) (Nat.le_of_ble_eq_true rfl) (by show _ + _ ≤ 600000; omega) (by show _ + _ ≤ 7302250; omega) (fun rv9 hp9 hq => ?_)
  obtain ⟨rfl, rfl⟩ := hq
  refine rr_aload_n d_La_law_234 rfl rfl ?_
  refine rr_aload_n d_La_law_235 rfl rfl ?_
  refine rr_iload_n d_La_law_236 rfl rfl ?_
  refine rr_iconst 1 d_La_law_237 rfl ?_
  refine rr_iadd d_La_law_238 ?_
  refine rr_sld rfl d_La_law_239 (hv1) ?_
  rw [hx1]
  refine rr_callV d_La_law_240 il_La_41 m_Mo_cell (s_Mo_cell) rfl rfl rfl rfl (Nat.le_of_ble_eq_true rfl) (Nat.le_of_ble_eq_true rfl) (Nat.le_of_ble_eq_true rfl) (by show _ + _ ≤ 600000; omega) (by show _ + _ ≤ 7302250; omega) (fun rv9 hp9 hq => ?_)
  obtain ⟨rfl, rfl⟩ := hq
  refine rr_lcmp d_La_law_243 ?_
  refine rr_if_eq 305 d_La_law_244 (by decide) (fun _ => ?_) (fun c9 => absurd (lg_cmp_self _) c9)
  exact lw_n0 k0 (by omega) (by omega) (hI) (hJ)

set_option maxRecDepth 100000 in
set_option maxHeartbeats 4000000 in
theorem lw_set0 {L : Nat} {xs : Nat → Int32} {it : Nat} (hL : L ≤ 3072) (hi : 6 * it + 6 ≤ L) (k0 : lw_P0 L xs (40 + it + 1) (20000 + 1600 * it + 1600) (6 * it + 6)) (k1 : lw_P1 L xs (40 + it + 1) (20000 + 1600 * it + 1600) (6 * it + 6)) {n r g : Nat} {us : List sp_U} {f fc fk fv fp ck0 cv0 re0 fs ec ev cc cf cb ck cv re be cd mst fo go : Nat → Int32} {a0 p0 tz s0 u0 hg ef s1 at0 sz kd0 fr0 to0 fa pa my pcv : Int32} {nu : Int64} (hI : lw_In n r g us fc cc cf cb be ck cv re) (hJ : us.length = 0) : rr_A R_La code 4 ret (false, some (L, xs)) room_1 lw_Q1 (40 + it) (20000 + 1600 * it) 249 [(3, .int (nI (6 * it))), (2, .ref 24), (1, .ref 0), (0, .ref (rr_K0 + 200))] [] (.inr (5, [.ref 1, .ref 3, .ref 12, .ref 20]) :: .inr (3, [.ref 2, .int (nI n)]) :: .inl (1, 400, .inl (f)) :: .inr (2, [.ref 4, .ref 8, .int a0, .int p0]) :: .inr (4, [.ref 5, .ref 6, .ref 7, .int tz]) :: .inl (0, 401, .inl (fk)) :: .inl (0, 401, .inl (fv)) :: .inl (0, 401, .inl (fp)) :: .inr (0, [.ref 9, .ref 10, .ref 11, .int s0, .int u0]) :: .inl (0, 160, .inl (ck0)) :: .inl (0, 160, .inl (cv0)) :: .inl (0, 6, .inl (re0)) :: .inr (1, [.ref 13, .ref 14, .int hg, .ref 15, .ref 16, .int ef, .ref 17, .ref 18, .int (nI g), .ref 19, .int (nI r)]) :: .inl (0, 32, .inl (fc)) :: .inl (0, 80, .inl (fs)) :: .inl (0, 8, .inl (ec)) :: .inl (0, 8, .inl (ev)) :: .inl (0, 1600, .inl (cc)) :: .inl (0, 1600, .inl (cf)) :: .inl (0, 200, .inl (cb)) :: .inr (0, [.ref 21, .ref 22, .ref 23, .int s1, .int (nI us.length)]) :: .inl (0, 160, .inl (ck)) :: .inl (0, 160, .inl (cv)) :: .inl (0, 6, .inl (re)) :: .inr (6, [.ref 25, .int (nI n), .null, .ref 26, .int (nI r), .int at0, .int sz, .int kd0, .int fr0, .int to0, .int fa, .int pa, .long nu, .ref 27, .int my, .ref 28, .ref 29, .ref 30, .ref 31, .int pcv]) :: .inl (1, 400, .inl (f)) :: .inl (0, 6400, .inl (be)) :: .inl (0, 1600, .inl (cd)) :: .inl (0, 32, .inl (fc)) :: .inl (0, 160, .inl (mst)) :: .inl (0, 8, .inl (fo)) :: .inl (0, 8, .inl (go)) :: []) := by
  obtain ⟨hn, hr, hlg, hco, hgu⟩ := id hI
  have hv1 : vp_in (nI (6 * it) + 1) L := by rw [show (nI (6 * it) + 1 : Int32) = nI ((6 * it) + 1) from nI_add _ 1]; exact vp_in_nI (by omega) (by omega)
  have hv2 : vp_in (nI (6 * it) + 2) L := by rw [show (nI (6 * it) + 2 : Int32) = nI ((6 * it) + 2) from nI_add _ 2]; exact vp_in_nI (by omega) (by omega)
  obtain ⟨x1, hx1⟩ : ∃ x1, xs (nI (6 * it) + 1).toNatClampNeg = x1 := ⟨_, rfl⟩
  obtain ⟨x2, hx2⟩ : ∃ x2, xs (nI (6 * it) + 2).toNatClampNeg = x2 := ⟨_, rfl⟩
  refine rr_aload_n d_La_law_249 rfl rfl ?_
  refine rr_aload_n d_La_law_250 rfl rfl ?_
  refine rr_iload_n d_La_law_251 rfl rfl ?_
  refine rr_iconst 1 d_La_law_252 rfl ?_
  refine rr_iadd d_La_law_253 ?_
  refine rr_sld rfl d_La_law_254 (hv1) ?_
  refine rr_aload_n d_La_law_255 rfl rfl ?_
  refine rr_iload_n d_La_law_256 rfl rfl ?_
  refine rr_iconst 2 d_La_law_257 rfl ?_
  refine rr_iadd d_La_law_258 ?_
  refine rr_sld rfl d_La_law_259 (hv2) ?_
  rw [hx1, hx2]
  refine rr_callV d_La_law_260 il_La_42 m_Ru_set (s_Ru_set hr) rfl rfl rfl rfl (Nat.le_of_ble_eq_true rfl) (Nat.le_of_ble_eq_true rfl) (Nat.le_of_ble_eq_true rfl) (by show _ + _ ≤ 600000; omega) (by show _ + _ ≤ 7302250; omega) (fun rv9 hp9 hq => ?_)
  by_cases hx : 0 ≤ x1 ∧ x1 < 32
  · rw [if_pos hx] at hq
    by_cases h0 : 0 < r
    · rw [if_pos h0] at hq
      obtain ⟨rfl, rfl⟩ := hq
      refine rr_aload_n d_La_law_263 rfl rfl ?_
      refine rr_aload_n d_La_law_264 rfl rfl ?_
      refine rr_iload_n d_La_law_265 rfl rfl ?_
      refine rr_iconst 1 d_La_law_266 rfl ?_
      refine rr_iadd d_La_law_267 ?_
      refine rr_sld rfl d_La_law_268 (hv1) ?_
      refine rr_aload_n d_La_law_269 rfl rfl ?_
      refine rr_iload_n d_La_law_270 rfl rfl ?_
      refine rr_iconst 2 d_La_law_271 rfl ?_
      refine rr_iadd d_La_law_272 ?_
      refine rr_sld rfl d_La_law_273 (hv2) ?_
      rw [hx1, hx2]
      refine rr_callV d_La_law_274 il_La_45 m_Mo_set (s_Mo_set hr) rfl rfl rfl rfl (Nat.le_of_ble_eq_true rfl) (Nat.le_of_ble_eq_true rfl) (Nat.le_of_ble_eq_true rfl) (by show _ + _ ≤ 600000; omega) (by show _ + _ ≤ 7302250; omega) (fun rv9 hp9 hq => ?_)
      rw [if_pos hx, if_pos h0] at hq
      obtain ⟨rfl, rfl⟩ := hq
      refine rr_icmp_eq 305 d_La_law_277 (by decide) (fun _ => ?_) (fun c9 => absurd (rfl) c9)
      exact lw_n0 k0 (by omega) (by omega) (hI) (hJ)
    · rw [if_neg h0] at hq
      obtain ⟨rfl, rfl⟩ := hq
      refine rr_aload_n d_La_law_263 rfl rfl ?_
      refine rr_aload_n d_La_law_264 rfl rfl ?_
      refine rr_iload_n d_La_law_265 rfl rfl ?_
      refine rr_iconst 1 d_La_law_266 rfl ?_
      refine rr_iadd d_La_law_267 ?_
      refine rr_sld rfl d_La_law_268 (hv1) ?_
      refine rr_aload_n d_La_law_269 rfl rfl ?_
      refine rr_iload_n d_La_law_270 rfl rfl ?_
      refine rr_iconst 2 d_La_law_271 rfl ?_
      refine rr_iadd d_La_law_272 ?_
      refine rr_sld rfl d_La_law_273 (hv2) ?_
      rw [hx1, hx2]
      refine rr_callV d_La_law_274 il_La_45 m_Mo_set (s_Mo_set hr) rfl rfl rfl rfl (Nat.le_of_ble_eq_true rfl) (Nat.le_of_ble_eq_true rfl) (Nat.le_of_ble_eq_true rfl) (by show _ + _ ≤ 600000; omega) (by show _ + _ ≤ 7302250; omega) (fun rv9 hp9 hq => ?_)
      rw [if_pos hx, if_neg h0] at hq
      obtain ⟨rfl, rfl⟩ := hq
      refine rr_icmp_eq 305 d_La_law_277 (by decide) (fun _ => ?_) (fun c9 => absurd (rfl) c9)
      obtain rfl : r = 0 := by omega
      exact lw_n0 k0 (by omega) (by omega) (r := 0) (⟨hn, hr, hlg, hco, hgu⟩) (hJ)
  · rw [if_neg hx] at hq
    obtain ⟨rfl, rfl⟩ := hq
    refine rr_aload_n d_La_law_263 rfl rfl ?_
    refine rr_aload_n d_La_law_264 rfl rfl ?_
    refine rr_iload_n d_La_law_265 rfl rfl ?_
    refine rr_iconst 1 d_La_law_266 rfl ?_
    refine rr_iadd d_La_law_267 ?_
    refine rr_sld rfl d_La_law_268 (hv1) ?_
    refine rr_aload_n d_La_law_269 rfl rfl ?_
    refine rr_iload_n d_La_law_270 rfl rfl ?_
    refine rr_iconst 2 d_La_law_271 rfl ?_
    refine rr_iadd d_La_law_272 ?_
    refine rr_sld rfl d_La_law_273 (hv2) ?_
    rw [hx1, hx2]
    refine rr_callV d_La_law_274 il_La_45 m_Mo_set (s_Mo_set hr) rfl rfl rfl rfl (Nat.le_of_ble_eq_true rfl) (Nat.le_of_ble_eq_true rfl) (Nat.le_of_ble_eq_true rfl) (by show _ + _ ≤ 600000; omega) (by show _ + _ ≤ 7302250; omega) (fun rv9 hp9 hq => ?_)
    rw [if_neg hx] at hq
    obtain ⟨rfl, rfl⟩ := hq
    refine rr_icmp_eq 305 d_La_law_277 (by decide) (fun _ => ?_) (fun c9 => absurd (rfl) c9)
    exact lw_n0 k0 (by omega) (by omega) (hI) (hJ)

set_option maxRecDepth 100000 in
set_option maxHeartbeats 4000000 in
theorem lw_count0 {L : Nat} {xs : Nat → Int32} {it : Nat} (hL : L ≤ 3072) (hi : 6 * it + 6 ≤ L) (k0 : lw_P0 L xs (40 + it + 1) (20000 + 1600 * it + 1600) (6 * it + 6)) (k1 : lw_P1 L xs (40 + it + 1) (20000 + 1600 * it + 1600) (6 * it + 6)) {n r g : Nat} {us : List sp_U} {f fc fk fv fp ck0 cv0 re0 fs ec ev cc cf cb ck cv re be cd mst fo go : Nat → Int32} {a0 p0 tz s0 u0 hg ef s1 at0 sz kd0 fr0 to0 fa pa my pcv : Int32} {nu : Int64} (hI : lw_In n r g us fc cc cf cb be ck cv re) (hJ : us.length = 0) : rr_A R_La code 4 ret (false, some (L, xs)) room_1 lw_Q1 (40 + it) (20000 + 1600 * it) 282 [(3, .int (nI (6 * it))), (2, .ref 24), (1, .ref 0), (0, .ref (rr_K0 + 200))] [] (.inr (5, [.ref 1, .ref 3, .ref 12, .ref 20]) :: .inr (3, [.ref 2, .int (nI n)]) :: .inl (1, 400, .inl (f)) :: .inr (2, [.ref 4, .ref 8, .int a0, .int p0]) :: .inr (4, [.ref 5, .ref 6, .ref 7, .int tz]) :: .inl (0, 401, .inl (fk)) :: .inl (0, 401, .inl (fv)) :: .inl (0, 401, .inl (fp)) :: .inr (0, [.ref 9, .ref 10, .ref 11, .int s0, .int u0]) :: .inl (0, 160, .inl (ck0)) :: .inl (0, 160, .inl (cv0)) :: .inl (0, 6, .inl (re0)) :: .inr (1, [.ref 13, .ref 14, .int hg, .ref 15, .ref 16, .int ef, .ref 17, .ref 18, .int (nI g), .ref 19, .int (nI r)]) :: .inl (0, 32, .inl (fc)) :: .inl (0, 80, .inl (fs)) :: .inl (0, 8, .inl (ec)) :: .inl (0, 8, .inl (ev)) :: .inl (0, 1600, .inl (cc)) :: .inl (0, 1600, .inl (cf)) :: .inl (0, 200, .inl (cb)) :: .inr (0, [.ref 21, .ref 22, .ref 23, .int s1, .int (nI us.length)]) :: .inl (0, 160, .inl (ck)) :: .inl (0, 160, .inl (cv)) :: .inl (0, 6, .inl (re)) :: .inr (6, [.ref 25, .int (nI n), .null, .ref 26, .int (nI r), .int at0, .int sz, .int kd0, .int fr0, .int to0, .int fa, .int pa, .long nu, .ref 27, .int my, .ref 28, .ref 29, .ref 30, .ref 31, .int pcv]) :: .inl (1, 400, .inl (f)) :: .inl (0, 6400, .inl (be)) :: .inl (0, 1600, .inl (cd)) :: .inl (0, 32, .inl (fc)) :: .inl (0, 160, .inl (mst)) :: .inl (0, 8, .inl (fo)) :: .inl (0, 8, .inl (go)) :: []) := by
  obtain ⟨hn, hr, hlg, hco, hgu⟩ := id hI
  have hv1 : vp_in (nI (6 * it) + 1) L := by rw [show (nI (6 * it) + 1 : Int32) = nI ((6 * it) + 1) from nI_add _ 1]; exact vp_in_nI (by omega) (by omega)
  obtain ⟨x1, hx1⟩ : ∃ x1, xs (nI (6 * it) + 1).toNatClampNeg = x1 := ⟨_, rfl⟩
  refine rr_aload_n d_La_law_282 rfl rfl ?_
  refine rr_aload_n d_La_law_283 rfl rfl ?_
  refine rr_iload_n d_La_law_284 rfl rfl ?_
  refine rr_iconst 1 d_La_law_285 rfl ?_
  refine rr_iadd d_La_law_286 ?_
  refine rr_sld rfl d_La_law_287 (hv1) ?_
  rw [hx1]
  refine rr_callV d_La_law_288 il_La_46 m_Ru_count (s_Ru_count) rfl rfl rfl rfl (Nat.le_of_ble_eq_true rfl) (Nat.le_of_ble_eq_true rfl) (Nat.le_of_ble_eq_true rfl) (by show _ + _ ≤ 600000; omega) (by show _ + _ ≤ 7302250; omega) (fun rv9 hp9 hq => ?_)
  obtain ⟨rfl, rfl⟩ := hq
  refine rr_aload_n d_La_law_291 rfl rfl ?_
  refine rr_aload_n d_La_law_292 rfl rfl ?_
  refine rr_iload_n d_La_law_293 rfl rfl ?_
  refine rr_iconst 1 d_La_law_294 rfl ?_
  refine rr_iadd d_La_law_295 ?_
  refine rr_sld rfl d_La_law_296 (hv1) ?_
  rw [hx1]
  refine rr_callV d_La_law_297 il_La_49 m_Mo_count (s_Mo_count) rfl rfl rfl rfl (Nat.le_of_ble_eq_true rfl) (Nat.le_of_ble_eq_true rfl) (Nat.le_of_ble_eq_true rfl) (by show _ + _ ≤ 600000; omega) (by show _ + _ ≤ 7302250; omega) (fun rv9 hp9 hq => ?_)
  obtain ⟨rfl, rfl⟩ := hq
  refine rr_icmp_eq 305 d_La_law_300 (by decide) (fun _ => ?_) (fun c9 => absurd (rfl) c9)
  exact lw_n0 k0 (by omega) (by omega) (hI) (hJ)

set_option maxRecDepth 100000 in
set_option maxHeartbeats 4000000 in
theorem lw_feed1 {L : Nat} {xs : Nat → Int32} {it : Nat} (hL : L ≤ 3072) (hi : 6 * it + 6 ≤ L) (k0 : lw_P0 L xs (40 + it + 1) (20000 + 1600 * it + 1600) (6 * it + 6)) (k1 : lw_P1 L xs (40 + it + 1) (20000 + 1600 * it + 1600) (6 * it + 6)) {n r g : Nat} {us : List sp_U} {f fc fk fv fp ck0 cv0 re0 fs ec ev cc cf cb ck cv re be cd mst fo go : Nat → Int32} {a0 p0 tz s0 u0 hg ef s1 at0 sz kd0 fr0 to0 fa pa my pcv : Int32} {nu : Int64} {c : Nat → Int32} (hI : lw_In n r g us fc cc cf cb be ck cv re) (hJ : lw_In1 us c) : rr_A R_La code 4 ret (false, some (L, xs)) room_1 lw_Q1 (40 + it) (20000 + 1600 * it) 80 [(3, .int (nI (6 * it))), (2, .ref 24), (1, .ref 0), (0, .ref (rr_K0 + 200))] [] (.inr (5, [.ref 1, .ref 3, .ref 12, .ref 20]) :: .inr (3, [.ref 2, .int (nI n)]) :: .inl (1, 400, .inl (f)) :: .inr (2, [.ref 4, .ref 8, .int a0, .int p0]) :: .inr (4, [.ref 5, .ref 6, .ref 7, .int tz]) :: .inl (0, 401, .inl (fk)) :: .inl (0, 401, .inl (fv)) :: .inl (0, 401, .inl (fp)) :: .inr (0, [.ref 9, .ref 10, .ref 11, .int s0, .int u0]) :: .inl (0, 160, .inl (ck0)) :: .inl (0, 160, .inl (cv0)) :: .inl (0, 6, .inl (re0)) :: .inr (1, [.ref 13, .ref 14, .int hg, .ref 15, .ref 16, .int ef, .ref 17, .ref 18, .int (nI g), .ref 19, .int (nI r)]) :: .inl (0, 32, .inl (fc)) :: .inl (0, 80, .inl (fs)) :: .inl (0, 8, .inl (ec)) :: .inl (0, 8, .inl (ev)) :: .inl (0, 1600, .inl (cc)) :: .inl (0, 1600, .inl (cf)) :: .inl (0, 200, .inl (cb)) :: .inr (0, [.ref 21, .ref 22, .ref 23, .int s1, .int (nI us.length)]) :: .inl (0, 160, .inl (ck)) :: .inl (0, 160, .inl (cv)) :: .inl (0, 6, .inl (re)) :: .inr (6, [.ref 25, .int (nI n), .ref 32, .ref 26, .int (nI r), .int at0, .int sz, .int kd0, .int fr0, .int to0, .int fa, .int pa, .long nu, .ref 27, .int my, .ref 28, .ref 29, .ref 30, .ref 31, .int pcv]) :: .inl (1, 400, .inl (f)) :: .inl (0, 6400, .inl (be)) :: .inl (0, 1600, .inl (cd)) :: .inl (0, 32, .inl (fc)) :: .inl (0, 160, .inl (mst)) :: .inl (0, 8, .inl (fo)) :: .inl (0, 8, .inl (go)) :: .inl (0, mdp us, .inl (c)) :: []) := by
  obtain ⟨hn, hr, hlg, hco, hgu⟩ := id hI
  have hv1 : vp_in (nI (6 * it) + 1) L := by rw [show (nI (6 * it) + 1 : Int32) = nI ((6 * it) + 1) from nI_add _ 1]; exact vp_in_nI (by omega) (by omega)
  have hv2 : vp_in (nI (6 * it) + 2) L := by rw [show (nI (6 * it) + 2 : Int32) = nI ((6 * it) + 2) from nI_add _ 2]; exact vp_in_nI (by omega) (by omega)
  have hv3 : vp_in (nI (6 * it) + 3) L := by rw [show (nI (6 * it) + 3 : Int32) = nI ((6 * it) + 3) from nI_add _ 3]; exact vp_in_nI (by omega) (by omega)
  have hv4 : vp_in (nI (6 * it) + 4) L := by rw [show (nI (6 * it) + 4 : Int32) = nI ((6 * it) + 4) from nI_add _ 4]; exact vp_in_nI (by omega) (by omega)
  have hv5 : vp_in (nI (6 * it) + 5) L := by rw [show (nI (6 * it) + 5 : Int32) = nI ((6 * it) + 5) from nI_add _ 5]; exact vp_in_nI (by omega) (by omega)
  obtain ⟨x1, hx1⟩ : ∃ x1, xs (nI (6 * it) + 1).toNatClampNeg = x1 := ⟨_, rfl⟩
  obtain ⟨x2, hx2⟩ : ∃ x2, xs (nI (6 * it) + 2).toNatClampNeg = x2 := ⟨_, rfl⟩
  obtain ⟨x3, hx3⟩ : ∃ x3, xs (nI (6 * it) + 3).toNatClampNeg = x3 := ⟨_, rfl⟩
  obtain ⟨x4, hx4⟩ : ∃ x4, xs (nI (6 * it) + 4).toNatClampNeg = x4 := ⟨_, rfl⟩
  obtain ⟨x5, hx5⟩ : ∃ x5, xs (nI (6 * it) + 5).toNatClampNeg = x5 := ⟨_, rfl⟩
  refine rr_aload_n d_La_law_80 rfl rfl ?_
  refine rr_aload_n d_La_law_81 rfl rfl ?_
  refine rr_iload_n d_La_law_82 rfl rfl ?_
  refine rr_iconst 1 d_La_law_83 rfl ?_
  refine rr_iadd d_La_law_84 ?_
  refine rr_sld rfl d_La_law_85 (hv1) ?_
  refine rr_aload_n d_La_law_86 rfl rfl ?_
  refine rr_iload_n d_La_law_87 rfl rfl ?_
  refine rr_iconst 2 d_La_law_88 rfl ?_
  refine rr_iadd d_La_law_89 ?_
  refine rr_sld rfl d_La_law_90 (hv2) ?_
  refine rr_aload_n d_La_law_91 rfl rfl ?_
  refine rr_iload_n d_La_law_92 rfl rfl ?_
  refine rr_iconst 3 d_La_law_93 rfl ?_
  refine rr_iadd d_La_law_94 ?_
  refine rr_sld rfl d_La_law_95 (hv3) ?_
  refine rr_aload_n d_La_law_96 rfl rfl ?_
  refine rr_iload_n d_La_law_97 rfl rfl ?_
  refine rr_iconst 4 d_La_law_98 rfl ?_
  refine rr_iadd d_La_law_99 ?_
  refine rr_sld rfl d_La_law_100 (hv4) ?_
  refine rr_aload_n d_La_law_101 rfl rfl ?_
  refine rr_iload_n d_La_law_102 rfl rfl ?_
  refine rr_iconst 5 d_La_law_103 rfl ?_
  refine rr_iadd d_La_law_104 ?_
  refine rr_sld rfl d_La_law_105 (hv5) ?_
  rw [hx1, hx2, hx3, hx4, hx5]
  by_cases h20 : n + 20 ≤ 400
  · skip
    refine rr_callV d_La_law_106 il_La_13 m_Ru_feed (s_Ru_feed hn) rfl rfl rfl rfl (Nat.le_of_ble_eq_true rfl) (Nat.le_of_ble_eq_true rfl) (Nat.le_of_ble_eq_true rfl) (by show _ + _ ≤ 600000; omega) (by show _ + _ ≤ 7302250; omega) (fun rv9 hp9 hq => ?_)
    rw [if_pos h20] at hq
    obtain ⟨rfl, rfl⟩ := hq
    refine rr_aload_n d_La_law_109 rfl rfl ?_
    refine rr_aload_n d_La_law_110 rfl rfl ?_
    refine rr_iload_n d_La_law_111 rfl rfl ?_
    refine rr_iconst 1 d_La_law_112 rfl ?_
    refine rr_iadd d_La_law_113 ?_
    refine rr_sld rfl d_La_law_114 (hv1) ?_
    refine rr_aload_n d_La_law_115 rfl rfl ?_
    refine rr_iload_n d_La_law_116 rfl rfl ?_
    refine rr_iconst 2 d_La_law_117 rfl ?_
    refine rr_iadd d_La_law_118 ?_
    refine rr_sld rfl d_La_law_119 (hv2) ?_
    refine rr_aload_n d_La_law_120 rfl rfl ?_
    refine rr_iload_n d_La_law_121 rfl rfl ?_
    refine rr_iconst 3 d_La_law_122 rfl ?_
    refine rr_iadd d_La_law_123 ?_
    refine rr_sld rfl d_La_law_124 (hv3) ?_
    refine rr_aload_n d_La_law_125 rfl rfl ?_
    refine rr_iload_n d_La_law_126 rfl rfl ?_
    refine rr_iconst 4 d_La_law_127 rfl ?_
    refine rr_iadd d_La_law_128 ?_
    refine rr_sld rfl d_La_law_129 (hv4) ?_
    refine rr_aload_n d_La_law_130 rfl rfl ?_
    refine rr_iload_n d_La_law_131 rfl rfl ?_
    refine rr_iconst 5 d_La_law_132 rfl ?_
    refine rr_iadd d_La_law_133 ?_
    refine rr_sld rfl d_La_law_134 (hv5) ?_
    rw [hx1, hx2, hx3, hx4, hx5]
    refine rr_callV d_La_law_135 il_La_17 m_Mo_feed (s_Mo_feed_1 hn) rfl rfl rfl rfl (Nat.le_of_ble_eq_true rfl) (Nat.le_of_ble_eq_true rfl) (Nat.le_of_ble_eq_true rfl) (by show _ + _ ≤ 600000; omega) (by show _ + _ ≤ 7302250; omega) (fun rv9 hp9 hq => ?_)
    rw [if_pos h20] at hq
    obtain ⟨rfl, rfl⟩ := hq
    refine rr_icmp_eq 305 d_La_law_138 (by decide) (fun _ => ?_) (fun c9 => absurd (rfl) c9)
    refine rr_view [0, 1, 2, 3, 4, 5, 6, 7, 8, 9, 10, 11, 12, 13, 14, 15, 16, 17, 18, 19, 20, 21, 22, 23, 24, 25, 26, 27, 28, 29, 30, 31, 32] [(3, .int (nI (6 * it))), (2, .ref 24), (1, .ref 0), (0, .ref (rr_K0 + 200))] [] (.inr (5, [.ref 1, .ref 3, .ref 12, .ref 20]) :: .inr (3, [.ref 2, .int (nI (n + 20))]) :: .inl (1, 400, .inl (ta_20 f n x1 x2 x3 x4 x5)) :: .inr (2, [.ref 4, .ref 8, .int a0, .int p0]) :: .inr (4, [.ref 5, .ref 6, .ref 7, .int tz]) :: .inl (0, 401, .inl (fk)) :: .inl (0, 401, .inl (fv)) :: .inl (0, 401, .inl (fp)) :: .inr (0, [.ref 9, .ref 10, .ref 11, .int s0, .int u0]) :: .inl (0, 160, .inl (ck0)) :: .inl (0, 160, .inl (cv0)) :: .inl (0, 6, .inl (re0)) :: .inr (1, [.ref 13, .ref 14, .int hg, .ref 15, .ref 16, .int ef, .ref 17, .ref 18, .int (nI g), .ref 19, .int (nI r)]) :: .inl (0, 32, .inl (fc)) :: .inl (0, 80, .inl (fs)) :: .inl (0, 8, .inl (ec)) :: .inl (0, 8, .inl (ev)) :: .inl (0, 1600, .inl (cc)) :: .inl (0, 1600, .inl (cf)) :: .inl (0, 200, .inl (cb)) :: .inr (0, [.ref 21, .ref 22, .ref 23, .int s1, .int (nI us.length)]) :: .inl (0, 160, .inl (ck)) :: .inl (0, 160, .inl (cv)) :: .inl (0, 6, .inl (re)) :: .inr (6, [.ref 25, .int (nI (n + 20)), .ref 32, .ref 26, .int (nI r), .int at0, .int sz, .int kd0, .int fr0, .int to0, .int fa, .int pa, .long nu, .ref 27, .int my, .ref 28, .ref 29, .ref 30, .ref 31, .int pcv]) :: .inl (1, 400, .inl (ta_20 f n x1 x2 x3 x4 x5)) :: .inl (0, 6400, .inl (be)) :: .inl (0, 1600, .inl (cd)) :: .inl (0, 32, .inl (fc)) :: .inl (0, 160, .inl (mst)) :: .inl (0, 8, .inl (fo)) :: .inl (0, 8, .inl (go)) :: .inl (0, mdp us, .inl (c)) :: []) rfl (by decide) rfl rfl rfl rfl ?_
    exact lw_n1 k1 (by omega) (by omega) (⟨h20, hr, hlg, hco, hgu⟩) (hJ)
  · skip
    refine rr_callV d_La_law_106 il_La_13 m_Ru_feed (s_Ru_feed hn) rfl rfl rfl rfl (Nat.le_of_ble_eq_true rfl) (Nat.le_of_ble_eq_true rfl) (Nat.le_of_ble_eq_true rfl) (by show _ + _ ≤ 600000; omega) (by show _ + _ ≤ 7302250; omega) (fun rv9 hp9 hq => ?_)
    rw [if_neg h20] at hq
    obtain ⟨rfl, rfl⟩ := hq
    refine rr_aload_n d_La_law_109 rfl rfl ?_
    refine rr_aload_n d_La_law_110 rfl rfl ?_
    refine rr_iload_n d_La_law_111 rfl rfl ?_
    refine rr_iconst 1 d_La_law_112 rfl ?_
    refine rr_iadd d_La_law_113 ?_
    refine rr_sld rfl d_La_law_114 (hv1) ?_
    refine rr_aload_n d_La_law_115 rfl rfl ?_
    refine rr_iload_n d_La_law_116 rfl rfl ?_
    refine rr_iconst 2 d_La_law_117 rfl ?_
    refine rr_iadd d_La_law_118 ?_
    refine rr_sld rfl d_La_law_119 (hv2) ?_
    refine rr_aload_n d_La_law_120 rfl rfl ?_
    refine rr_iload_n d_La_law_121 rfl rfl ?_
    refine rr_iconst 3 d_La_law_122 rfl ?_
    refine rr_iadd d_La_law_123 ?_
    refine rr_sld rfl d_La_law_124 (hv3) ?_
    refine rr_aload_n d_La_law_125 rfl rfl ?_
    refine rr_iload_n d_La_law_126 rfl rfl ?_
    refine rr_iconst 4 d_La_law_127 rfl ?_
    refine rr_iadd d_La_law_128 ?_
    refine rr_sld rfl d_La_law_129 (hv4) ?_
    refine rr_aload_n d_La_law_130 rfl rfl ?_
    refine rr_iload_n d_La_law_131 rfl rfl ?_
    refine rr_iconst 5 d_La_law_132 rfl ?_
    refine rr_iadd d_La_law_133 ?_
    refine rr_sld rfl d_La_law_134 (hv5) ?_
    rw [hx1, hx2, hx3, hx4, hx5]
    refine rr_callV d_La_law_135 il_La_17 m_Mo_feed (s_Mo_feed_1 hn) rfl rfl rfl rfl (Nat.le_of_ble_eq_true rfl) (Nat.le_of_ble_eq_true rfl) (Nat.le_of_ble_eq_true rfl) (by show _ + _ ≤ 600000; omega) (by show _ + _ ≤ 7302250; omega) (fun rv9 hp9 hq => ?_)
    rw [if_neg h20] at hq
    obtain ⟨rfl, rfl⟩ := hq
    refine rr_icmp_eq 305 d_La_law_138 (by decide) (fun _ => ?_) (fun c9 => absurd (rfl) c9)
    exact lw_n1 k1 (by omega) (by omega) (hI) (hJ)

set_option maxRecDepth 100000 in
set_option maxHeartbeats 4000000 in
theorem lw_end1 {L : Nat} {xs : Nat → Int32} {it : Nat} (hL : L ≤ 3072) (hi : 6 * it + 6 ≤ L) (k0 : lw_P0 L xs (40 + it + 1) (20000 + 1600 * it + 1600) (6 * it + 6)) (k1 : lw_P1 L xs (40 + it + 1) (20000 + 1600 * it + 1600) (6 * it + 6)) {n r g : Nat} {us : List sp_U} {f fc fk fv fp ck0 cv0 re0 fs ec ev cc cf cb ck cv re be cd mst fo go : Nat → Int32} {a0 p0 tz s0 u0 hg ef s1 at0 sz kd0 fr0 to0 fa pa my pcv : Int32} {nu : Int64} {c : Nat → Int32} (hI : lw_In n r g us fc cc cf cb be ck cv re) (hJ : lw_In1 us c) : rr_A R_La code 4 ret (false, some (L, xs)) room_1 lw_Q1 (40 + it) (20000 + 1600 * it) 143 [(3, .int (nI (6 * it))), (2, .ref 24), (1, .ref 0), (0, .ref (rr_K0 + 200))] [] (.inr (5, [.ref 1, .ref 3, .ref 12, .ref 20]) :: .inr (3, [.ref 2, .int (nI n)]) :: .inl (1, 400, .inl (f)) :: .inr (2, [.ref 4, .ref 8, .int a0, .int p0]) :: .inr (4, [.ref 5, .ref 6, .ref 7, .int tz]) :: .inl (0, 401, .inl (fk)) :: .inl (0, 401, .inl (fv)) :: .inl (0, 401, .inl (fp)) :: .inr (0, [.ref 9, .ref 10, .ref 11, .int s0, .int u0]) :: .inl (0, 160, .inl (ck0)) :: .inl (0, 160, .inl (cv0)) :: .inl (0, 6, .inl (re0)) :: .inr (1, [.ref 13, .ref 14, .int hg, .ref 15, .ref 16, .int ef, .ref 17, .ref 18, .int (nI g), .ref 19, .int (nI r)]) :: .inl (0, 32, .inl (fc)) :: .inl (0, 80, .inl (fs)) :: .inl (0, 8, .inl (ec)) :: .inl (0, 8, .inl (ev)) :: .inl (0, 1600, .inl (cc)) :: .inl (0, 1600, .inl (cf)) :: .inl (0, 200, .inl (cb)) :: .inr (0, [.ref 21, .ref 22, .ref 23, .int s1, .int (nI us.length)]) :: .inl (0, 160, .inl (ck)) :: .inl (0, 160, .inl (cv)) :: .inl (0, 6, .inl (re)) :: .inr (6, [.ref 25, .int (nI n), .ref 32, .ref 26, .int (nI r), .int at0, .int sz, .int kd0, .int fr0, .int to0, .int fa, .int pa, .long nu, .ref 27, .int my, .ref 28, .ref 29, .ref 30, .ref 31, .int pcv]) :: .inl (1, 400, .inl (f)) :: .inl (0, 6400, .inl (be)) :: .inl (0, 1600, .inl (cd)) :: .inl (0, 32, .inl (fc)) :: .inl (0, 160, .inl (mst)) :: .inl (0, 8, .inl (fo)) :: .inl (0, 8, .inl (go)) :: .inl (0, mdp us, .inl (c)) :: []) := by
  obtain ⟨hn, hr, hlg, hco, hgu⟩ := id hI
  have hv1 : vp_in (nI (6 * it) + 1) L := by rw [show (nI (6 * it) + 1 : Int32) = nI ((6 * it) + 1) from nI_add _ 1]; exact vp_in_nI (by omega) (by omega)
  obtain ⟨x1, hx1⟩ : ∃ x1, xs (nI (6 * it) + 1).toNatClampNeg = x1 := ⟨_, rfl⟩
  refine rr_aload_n d_La_law_143 rfl rfl ?_
  refine rr_aload_n d_La_law_144 rfl rfl ?_
  refine rr_iload_n d_La_law_145 rfl rfl ?_
  refine rr_iconst 1 d_La_law_146 rfl ?_
  refine rr_iadd d_La_law_147 ?_
  refine rr_sld rfl d_La_law_148 (hv1) ?_
  rw [hx1]
  refine rr_callV d_La_law_149 il_La_18 m_Ru_end (s_Ru_end hn) rfl rfl rfl rfl (Nat.le_of_ble_eq_true rfl) (Nat.le_of_ble_eq_true rfl) (Nat.le_of_ble_eq_true rfl) (by show _ + _ ≤ 600000; omega) (by show _ + _ ≤ 7302250; omega) (fun rv9 hp9 hq => ?_)
  obtain ⟨k, hk, rfl, rfl, rfl⟩ | ⟨hn2, rfl, rfl⟩ := hq
  · skip
    refine rr_aload_n d_La_law_152 rfl rfl ?_
    refine rr_aload_n d_La_law_153 rfl rfl ?_
    refine rr_iload_n d_La_law_154 rfl rfl ?_
    refine rr_iconst 1 d_La_law_155 rfl ?_
    refine rr_iadd d_La_law_156 ?_
    refine rr_sld rfl d_La_law_157 (hv1) ?_
    rw [hx1]
    refine rr_callV d_La_law_158 il_La_22 m_Mo_end (s_Mo_end) rfl rfl rfl rfl (Nat.le_of_ble_eq_true rfl) (Nat.le_of_ble_eq_true rfl) (Nat.le_of_ble_eq_true rfl) (by show _ + _ ≤ 600000; omega) (by show _ + _ ≤ 7302250; omega) (fun rv9 hp9 hq => ?_)
    rw [if_pos ⟨nI_pos' (by omega), nI_le hk (by omega)⟩] at hq
    obtain ⟨rfl, rfl⟩ := hq
    refine rr_icmp_eq 305 d_La_law_161 (by decide) (fun _ => ?_) (fun c9 => absurd (rfl) c9)
    exact lw_n1 k1 (by omega) (by omega) (⟨by omega, hr, hlg, hco, hgu⟩) (hJ)
  · skip
    refine rr_aload_n d_La_law_152 rfl rfl ?_
    refine rr_aload_n d_La_law_153 rfl rfl ?_
    refine rr_iload_n d_La_law_154 rfl rfl ?_
    refine rr_iconst 1 d_La_law_155 rfl ?_
    refine rr_iadd d_La_law_156 ?_
    refine rr_sld rfl d_La_law_157 (hv1) ?_
    rw [hx1]
    refine rr_callV d_La_law_158 il_La_22 m_Mo_end (s_Mo_end) rfl rfl rfl rfl (Nat.le_of_ble_eq_true rfl) (Nat.le_of_ble_eq_true rfl) (Nat.le_of_ble_eq_true rfl) (by show _ + _ ≤ 600000; omega) (by show _ + _ ≤ 7302250; omega) (fun rv9 hp9 hq => ?_)
    rw [if_neg (fun q => hn2.elim (fun a => Int32.not_lt.mpr q.1 a) (fun a => a q.2))] at hq
    obtain ⟨rfl, rfl⟩ := hq
    refine rr_icmp_eq 305 d_La_law_161 (by decide) (fun _ => ?_) (fun c9 => absurd (rfl) c9)
    exact lw_n1 k1 (by omega) (by omega) (hI) (hJ)

set_option maxRecDepth 100000 in
set_option maxHeartbeats 4000000 in
theorem lw_prog1 {L : Nat} {xs : Nat → Int32} {it : Nat} (hL : L ≤ 3072) (hi : 6 * it + 6 ≤ L) (k0 : lw_P0 L xs (40 + it + 1) (20000 + 1600 * it + 1600) (6 * it + 6)) (k1 : lw_P1 L xs (40 + it + 1) (20000 + 1600 * it + 1600) (6 * it + 6)) {n r g : Nat} {us : List sp_U} {f fc fk fv fp ck0 cv0 re0 fs ec ev cc cf cb ck cv re be cd mst fo go : Nat → Int32} {a0 p0 tz s0 u0 hg ef s1 at0 sz kd0 fr0 to0 fa pa my pcv : Int32} {nu : Int64} {c : Nat → Int32} (hI : lw_In n r g us fc cc cf cb be ck cv re) (hJ : lw_In1 us c) : rr_A R_La code 4 ret (false, some (L, xs)) room_1 lw_Q1 (40 + it) (20000 + 1600 * it) 166 [(3, .int (nI (6 * it))), (2, .ref 24), (1, .ref 0), (0, .ref (rr_K0 + 200))] [] (.inr (5, [.ref 1, .ref 3, .ref 12, .ref 20]) :: .inr (3, [.ref 2, .int (nI n)]) :: .inl (1, 400, .inl (f)) :: .inr (2, [.ref 4, .ref 8, .int a0, .int p0]) :: .inr (4, [.ref 5, .ref 6, .ref 7, .int tz]) :: .inl (0, 401, .inl (fk)) :: .inl (0, 401, .inl (fv)) :: .inl (0, 401, .inl (fp)) :: .inr (0, [.ref 9, .ref 10, .ref 11, .int s0, .int u0]) :: .inl (0, 160, .inl (ck0)) :: .inl (0, 160, .inl (cv0)) :: .inl (0, 6, .inl (re0)) :: .inr (1, [.ref 13, .ref 14, .int hg, .ref 15, .ref 16, .int ef, .ref 17, .ref 18, .int (nI g), .ref 19, .int (nI r)]) :: .inl (0, 32, .inl (fc)) :: .inl (0, 80, .inl (fs)) :: .inl (0, 8, .inl (ec)) :: .inl (0, 8, .inl (ev)) :: .inl (0, 1600, .inl (cc)) :: .inl (0, 1600, .inl (cf)) :: .inl (0, 200, .inl (cb)) :: .inr (0, [.ref 21, .ref 22, .ref 23, .int s1, .int (nI us.length)]) :: .inl (0, 160, .inl (ck)) :: .inl (0, 160, .inl (cv)) :: .inl (0, 6, .inl (re)) :: .inr (6, [.ref 25, .int (nI n), .ref 32, .ref 26, .int (nI r), .int at0, .int sz, .int kd0, .int fr0, .int to0, .int fa, .int pa, .long nu, .ref 27, .int my, .ref 28, .ref 29, .ref 30, .ref 31, .int pcv]) :: .inl (1, 400, .inl (f)) :: .inl (0, 6400, .inl (be)) :: .inl (0, 1600, .inl (cd)) :: .inl (0, 32, .inl (fc)) :: .inl (0, 160, .inl (mst)) :: .inl (0, 8, .inl (fo)) :: .inl (0, 8, .inl (go)) :: .inl (0, mdp us, .inl (c)) :: []) := by
  obtain ⟨hn, hr, hlg, hco, hgu⟩ := id hI
  refine rr_aload_n d_La_law_166 rfl rfl ?_
  refine rr_callV d_La_law_167 il_La_23 m_Ru_program (s_Ru_program hn) rfl rfl rfl rfl (Nat.le_of_ble_eq_true rfl) (Nat.le_of_ble_eq_true rfl) (Nat.le_of_ble_eq_true rfl) (by show _ + _ ≤ 600000; omega) (by show _ + _ ≤ 7302250; omega) (fun rv9 hp9 hq => ?_)
  obtain ⟨a2, p2, z2, s2, u2, gk, gv, gp, ck2, cv2, re2, hq⟩ := hq
  by_cases hp : (sp_pr f n).1 = true
  · rw [if_pos hp] at hq
    obtain ⟨rfl, rfl, rfl, hco2⟩ := hq
    obtain ⟨g1, g2, g3, g4⟩ := gu_pr hp
    refine rr_aload_n d_La_law_170 rfl rfl ?_
    refine rr_callV d_La_law_171 il_La_27 m_Mo_program (s_Mo_program_1 hn) rfl rfl rfl rfl (Nat.le_of_ble_eq_true rfl) (Nat.le_of_ble_eq_true rfl) (Nat.le_of_ble_eq_true rfl) (by show _ + _ ≤ 600000; omega) (by show _ + _ ≤ 7302250; omega) (fun rv9 hp9 hq => ?_)
    obtain ⟨at2, sz2, kd2, fr2, to2, fa2, pa2, my2, nu2, cd2, hq⟩ := hq
    rw [if_pos hp] at hq
    obtain ⟨c2, rfl, rfl, hmd⟩ := hq
    refine rr_icmp_eq 305 d_La_law_174 (by decide) (fun _ => ?_) (fun c9 => absurd (rfl) c9)
    refine rr_view [0, 1, 2, 3, 4, 5, 6, 7, 20, 21, 22, 23, 12, 13, 14, 15, 16, 17, 18, 19, 8, 9, 10, 11, 24, 25, 26, 27, 28, 29, 30, 31, 33] [(3, .int (nI (6 * it))), (2, .ref 24), (1, .ref 0), (0, .ref (rr_K0 + 200))] [] (.inr (5, [.ref 1, .ref 3, .ref 12, .ref 20]) :: .inr (3, [.ref 2, .int 0]) :: .inl (1, 400, .inl (f)) :: .inr (2, [.ref 4, .ref 8, .int a2, .int p2]) :: .inr (4, [.ref 5, .ref 6, .ref 7, .int z2]) :: .inl (0, 401, .inl (gk)) :: .inl (0, 401, .inl (gv)) :: .inl (0, 401, .inl (gp)) :: .inr (0, [.ref 9, .ref 10, .ref 11, .int s1, .int (nI us.length)]) :: .inl (0, 160, .inl (ck)) :: .inl (0, 160, .inl (cv)) :: .inl (0, 6, .inl (re)) :: .inr (1, [.ref 13, .ref 14, .int hg, .ref 15, .ref 16, .int ef, .ref 17, .ref 18, .int (nI g), .ref 19, .int (nI r)]) :: .inl (0, 32, .inl (fc)) :: .inl (0, 80, .inl (fs)) :: .inl (0, 8, .inl (ec)) :: .inl (0, 8, .inl (ev)) :: .inl (0, 1600, .inl (cc)) :: .inl (0, 1600, .inl (cf)) :: .inl (0, 200, .inl (cb)) :: .inr (0, [.ref 21, .ref 22, .ref 23, .int s2, .int (nI (sp_pr f n).2.2.length)]) :: .inl (0, 160, .inl (ck2)) :: .inl (0, 160, .inl (cv2)) :: .inl (0, 6, .inl (re2)) :: .inr (6, [.ref 25, .int 0, .ref 32, .ref 26, .int (nI r), .int at2, .int sz2, .int kd2, .int fr2, .int to2, .int fa2, .int pa2, .long nu2, .ref 27, .int my2, .ref 28, .ref 29, .ref 30, .ref 31, .int pcv]) :: .inl (1, 400, .inl (f)) :: .inl (0, 6400, .inl (be)) :: .inl (0, 1600, .inl (cd2)) :: .inl (0, 32, .inl (fc)) :: .inl (0, 160, .inl (mst)) :: .inl (0, 8, .inl (fo)) :: .inl (0, 8, .inl (go)) :: .inl (0, mdp (sp_pr f n).2.2, .inl (c2)) :: []) rfl (by decide) rfl rfl rfl rfl ?_
    exact lw_n1 k1 (by omega) (by omega) (n := 0) (⟨Nat.zero_le _, hr, hlg, hco2, g1⟩) (⟨hmd, g2, g3, g4⟩)
  · rw [if_neg hp] at hq
    obtain ⟨rfl, rfl⟩ := hq
    refine rr_aload_n d_La_law_170 rfl rfl ?_
    refine rr_callV d_La_law_171 il_La_27 m_Mo_program (s_Mo_program_1 hn) rfl rfl rfl rfl (Nat.le_of_ble_eq_true rfl) (Nat.le_of_ble_eq_true rfl) (Nat.le_of_ble_eq_true rfl) (by show _ + _ ≤ 600000; omega) (by show _ + _ ≤ 7302250; omega) (fun rv9 hp9 hq => ?_)
    obtain ⟨at2, sz2, kd2, fr2, to2, fa2, pa2, my2, nu2, cd2, hq⟩ := hq
    rw [if_neg hp] at hq
    obtain ⟨rfl, rfl⟩ := hq
    refine rr_icmp_eq 305 d_La_law_174 (by decide) (fun _ => ?_) (fun c9 => absurd (rfl) c9)
    exact lw_n1 k1 (by omega) (by omega) (n := 0) (⟨Nat.zero_le _, hr, hlg, hco, hgu⟩) (hJ)

set_option maxRecDepth 100000 in
set_option maxHeartbeats 4000000 in
theorem lw_run1 {L : Nat} {xs : Nat → Int32} {it : Nat} (hL : L ≤ 3072) (hi : 6 * it + 6 ≤ L) (k0 : lw_P0 L xs (40 + it + 1) (20000 + 1600 * it + 1600) (6 * it + 6)) (k1 : lw_P1 L xs (40 + it + 1) (20000 + 1600 * it + 1600) (6 * it + 6)) {n r g : Nat} {us : List sp_U} {f fc fk fv fp ck0 cv0 re0 fs ec ev cc cf cb ck cv re be cd mst fo go : Nat → Int32} {a0 p0 tz s0 u0 hg ef s1 at0 sz kd0 fr0 to0 fa pa my pcv : Int32} {nu : Int64} {c : Nat → Int32} (hI : lw_In n r g us fc cc cf cb be ck cv re) (hJ : lw_In1 us c) : rr_A R_La code 4 ret (false, some (L, xs)) room_1 lw_Q1 (40 + it) (20000 + 1600 * it) 179 [(3, .int (nI (6 * it))), (2, .ref 24), (1, .ref 0), (0, .ref (rr_K0 + 200))] [] (.inr (5, [.ref 1, .ref 3, .ref 12, .ref 20]) :: .inr (3, [.ref 2, .int (nI n)]) :: .inl (1, 400, .inl (f)) :: .inr (2, [.ref 4, .ref 8, .int a0, .int p0]) :: .inr (4, [.ref 5, .ref 6, .ref 7, .int tz]) :: .inl (0, 401, .inl (fk)) :: .inl (0, 401, .inl (fv)) :: .inl (0, 401, .inl (fp)) :: .inr (0, [.ref 9, .ref 10, .ref 11, .int s0, .int u0]) :: .inl (0, 160, .inl (ck0)) :: .inl (0, 160, .inl (cv0)) :: .inl (0, 6, .inl (re0)) :: .inr (1, [.ref 13, .ref 14, .int hg, .ref 15, .ref 16, .int ef, .ref 17, .ref 18, .int (nI g), .ref 19, .int (nI r)]) :: .inl (0, 32, .inl (fc)) :: .inl (0, 80, .inl (fs)) :: .inl (0, 8, .inl (ec)) :: .inl (0, 8, .inl (ev)) :: .inl (0, 1600, .inl (cc)) :: .inl (0, 1600, .inl (cf)) :: .inl (0, 200, .inl (cb)) :: .inr (0, [.ref 21, .ref 22, .ref 23, .int s1, .int (nI us.length)]) :: .inl (0, 160, .inl (ck)) :: .inl (0, 160, .inl (cv)) :: .inl (0, 6, .inl (re)) :: .inr (6, [.ref 25, .int (nI n), .ref 32, .ref 26, .int (nI r), .int at0, .int sz, .int kd0, .int fr0, .int to0, .int fa, .int pa, .long nu, .ref 27, .int my, .ref 28, .ref 29, .ref 30, .ref 31, .int pcv]) :: .inl (1, 400, .inl (f)) :: .inl (0, 6400, .inl (be)) :: .inl (0, 1600, .inl (cd)) :: .inl (0, 32, .inl (fc)) :: .inl (0, 160, .inl (mst)) :: .inl (0, 8, .inl (fo)) :: .inl (0, 8, .inl (go)) :: .inl (0, mdp us, .inl (c)) :: []) := by
  obtain ⟨hn, hr, hlg, hco, hgu⟩ := id hI
  have hv1 : vp_in (nI (6 * it) + 1) L := by rw [show (nI (6 * it) + 1 : Int32) = nI ((6 * it) + 1) from nI_add _ 1]; exact vp_in_nI (by omega) (by omega)
  have hv2 : vp_in (nI (6 * it) + 2) L := by rw [show (nI (6 * it) + 2 : Int32) = nI ((6 * it) + 2) from nI_add _ 2]; exact vp_in_nI (by omega) (by omega)
  obtain ⟨x1, hx1⟩ : ∃ x1, xs (nI (6 * it) + 1).toNatClampNeg = x1 := ⟨_, rfl⟩
  obtain ⟨x2, hx2⟩ : ∃ x2, xs (nI (6 * it) + 2).toNatClampNeg = x2 := ⟨_, rfl⟩
  have hg8 := hlg.le
  refine rr_aload_n d_La_law_179 rfl rfl ?_
  refine rr_aload_n d_La_law_180 rfl rfl ?_
  refine rr_iload_n d_La_law_181 rfl rfl ?_
  refine rr_iconst 1 d_La_law_182 rfl ?_
  refine rr_iadd d_La_law_183 ?_
  refine rr_sld rfl d_La_law_184 (hv1) ?_
  refine rr_aload_n d_La_law_185 rfl rfl ?_
  refine rr_iload_n d_La_law_186 rfl rfl ?_
  refine rr_iconst 2 d_La_law_187 rfl ?_
  refine rr_iadd d_La_law_188 ?_
  refine rr_sld rfl d_La_law_189 (hv2) ?_
  rw [hx1, hx2]
  refine rr_callV d_La_law_190 il_La_28 m_Ru_run (s_Ru_run hco hgu hr (fun _ => by omega)) rfl rfl rfl rfl (Nat.le_of_ble_eq_true rfl) (Nat.le_of_ble_eq_true rfl) (Nat.le_of_ble_eq_true rfl) (by show _ + _ ≤ 600000; omega) (by show _ + _ ≤ 7302250; omega) (fun rv9 hp9 hq => ?_)
  rw [if_neg hJ.2.1] at hq
  by_cases hr2 : r < 200
  · rw [if_pos hr2] at hq
    obtain ⟨hg2, ef2, fs2, ec2, ev2, ⟨e1, rfl, rfl⟩ | ⟨k2, L2, e1, rfl, rfl⟩⟩ := hq
    · skip
      refine rr_aload_n d_La_law_193 rfl rfl ?_
      refine rr_aload_n d_La_law_194 rfl rfl ?_
      refine rr_iload_n d_La_law_195 rfl rfl ?_
      refine rr_iconst 1 d_La_law_196 rfl ?_
      refine rr_iadd d_La_law_197 ?_
      refine rr_sld rfl d_La_law_198 (hv1) ?_
      refine rr_aload_n d_La_law_199 rfl rfl ?_
      refine rr_iload_n d_La_law_200 rfl rfl ?_
      refine rr_iconst 2 d_La_law_201 rfl ?_
      refine rr_iadd d_La_law_202 ?_
      refine rr_sld rfl d_La_law_203 (hv2) ?_
      rw [hx1, hx2]
      refine rr_callV d_La_law_204 il_La_32 m_Mo_run (s_Mo_run_1 hJ.1 hgu hJ.2.2.1 hJ.2.2.2 hr) rfl rfl rfl rfl (Nat.le_of_ble_eq_true rfl) (Nat.le_of_ble_eq_true rfl) (Nat.le_of_ble_eq_true rfl) (by show _ + _ ≤ 600000; omega) (by show _ + _ ≤ 7302250; omega) (fun rv9 hp9 hq => ?_)
      rw [if_pos hr2] at hq
      obtain ⟨pc2, fs3, fo3, go3, ⟨e2, rfl, rfl⟩ | ⟨k3, L3, e2, rfl, rfl⟩⟩ := hq
      · skip
        refine rr_icmp_eq 305 d_La_law_207 (by decide) (fun _ => ?_) (fun c9 => absurd (rfl) c9)
        exact lw_n1 k1 (by omega) (by omega) (⟨hn, hr2, hlg.run [] (fun q hq => by cases hq) (by decide), hco, hgu⟩) (hJ)
      · rw [e1] at e2
        cases e2
    · skip
      refine rr_aload_n d_La_law_193 rfl rfl ?_
      refine rr_aload_n d_La_law_194 rfl rfl ?_
      refine rr_iload_n d_La_law_195 rfl rfl ?_
      refine rr_iconst 1 d_La_law_196 rfl ?_
      refine rr_iadd d_La_law_197 ?_
      refine rr_sld rfl d_La_law_198 (hv1) ?_
      refine rr_aload_n d_La_law_199 rfl rfl ?_
      refine rr_iload_n d_La_law_200 rfl rfl ?_
      refine rr_iconst 2 d_La_law_201 rfl ?_
      refine rr_iadd d_La_law_202 ?_
      refine rr_sld rfl d_La_law_203 (hv2) ?_
      rw [hx1, hx2]
      refine rr_callV d_La_law_204 il_La_32 m_Mo_run (s_Mo_run_1 hJ.1 hgu hJ.2.2.1 hJ.2.2.2 hr) rfl rfl rfl rfl (Nat.le_of_ble_eq_true rfl) (Nat.le_of_ble_eq_true rfl) (Nat.le_of_ble_eq_true rfl) (by show _ + _ ≤ 600000; omega) (by show _ + _ ≤ 7302250; omega) (fun rv9 hp9 hq => ?_)
      rw [if_pos hr2] at hq
      obtain ⟨pc2, fs3, fo3, go3, ⟨e2, rfl, rfl⟩ | ⟨k3, L3, e2, rfl, rfl⟩⟩ := hq
      · rw [e1] at e2
        cases e2
      · rw [e1] at e2
        cases e2
        obtain ⟨q1, q2⟩ := pick_ok us 0 k2 L2 hgu e1
        refine rr_icmp_eq 305 d_La_law_207 (by decide) (fun _ => ?_) (fun c9 => absurd (rfl) c9)
        exact lw_n1 k1 (by omega) (by omega) (⟨hn, hr2, hlg.run L2 q1 q2, hco, hgu⟩) (hJ)
  · rw [if_neg hr2] at hq
    obtain ⟨rfl, rfl⟩ := hq
    refine rr_aload_n d_La_law_193 rfl rfl ?_
    refine rr_aload_n d_La_law_194 rfl rfl ?_
    refine rr_iload_n d_La_law_195 rfl rfl ?_
    refine rr_iconst 1 d_La_law_196 rfl ?_
    refine rr_iadd d_La_law_197 ?_
    refine rr_sld rfl d_La_law_198 (hv1) ?_
    refine rr_aload_n d_La_law_199 rfl rfl ?_
    refine rr_iload_n d_La_law_200 rfl rfl ?_
    refine rr_iconst 2 d_La_law_201 rfl ?_
    refine rr_iadd d_La_law_202 ?_
    refine rr_sld rfl d_La_law_203 (hv2) ?_
    rw [hx1, hx2]
    refine rr_callV d_La_law_204 il_La_32 m_Mo_run (s_Mo_run_1 hJ.1 hgu hJ.2.2.1 hJ.2.2.2 hr) rfl rfl rfl rfl (Nat.le_of_ble_eq_true rfl) (Nat.le_of_ble_eq_true rfl) (Nat.le_of_ble_eq_true rfl) (by show _ + _ ≤ 600000; omega) (by show _ + _ ≤ 7302250; omega) (fun rv9 hp9 hq => ?_)
    rw [if_neg hr2] at hq
    obtain ⟨rfl, rfl⟩ := hq
    refine rr_icmp_eq 305 d_La_law_207 (by decide) (fun _ => ?_) (fun c9 => absurd (rfl) c9)
    exact lw_n1 k1 (by omega) (by omega) (hI) (hJ)

set_option maxRecDepth 100000 in
set_option maxHeartbeats 4000000 in
theorem lw_undo1 {L : Nat} {xs : Nat → Int32} {it : Nat} (hL : L ≤ 3072) (hi : 6 * it + 6 ≤ L) (k0 : lw_P0 L xs (40 + it + 1) (20000 + 1600 * it + 1600) (6 * it + 6)) (k1 : lw_P1 L xs (40 + it + 1) (20000 + 1600 * it + 1600) (6 * it + 6)) {n r g : Nat} {us : List sp_U} {f fc fk fv fp ck0 cv0 re0 fs ec ev cc cf cb ck cv re be cd mst fo go : Nat → Int32} {a0 p0 tz s0 u0 hg ef s1 at0 sz kd0 fr0 to0 fa pa my pcv : Int32} {nu : Int64} {c : Nat → Int32} (hI : lw_In n r g us fc cc cf cb be ck cv re) (hJ : lw_In1 us c) : rr_A R_La code 4 ret (false, some (L, xs)) room_1 lw_Q1 (40 + it) (20000 + 1600 * it) 212 [(3, .int (nI (6 * it))), (2, .ref 24), (1, .ref 0), (0, .ref (rr_K0 + 200))] [] (.inr (5, [.ref 1, .ref 3, .ref 12, .ref 20]) :: .inr (3, [.ref 2, .int (nI n)]) :: .inl (1, 400, .inl (f)) :: .inr (2, [.ref 4, .ref 8, .int a0, .int p0]) :: .inr (4, [.ref 5, .ref 6, .ref 7, .int tz]) :: .inl (0, 401, .inl (fk)) :: .inl (0, 401, .inl (fv)) :: .inl (0, 401, .inl (fp)) :: .inr (0, [.ref 9, .ref 10, .ref 11, .int s0, .int u0]) :: .inl (0, 160, .inl (ck0)) :: .inl (0, 160, .inl (cv0)) :: .inl (0, 6, .inl (re0)) :: .inr (1, [.ref 13, .ref 14, .int hg, .ref 15, .ref 16, .int ef, .ref 17, .ref 18, .int (nI g), .ref 19, .int (nI r)]) :: .inl (0, 32, .inl (fc)) :: .inl (0, 80, .inl (fs)) :: .inl (0, 8, .inl (ec)) :: .inl (0, 8, .inl (ev)) :: .inl (0, 1600, .inl (cc)) :: .inl (0, 1600, .inl (cf)) :: .inl (0, 200, .inl (cb)) :: .inr (0, [.ref 21, .ref 22, .ref 23, .int s1, .int (nI us.length)]) :: .inl (0, 160, .inl (ck)) :: .inl (0, 160, .inl (cv)) :: .inl (0, 6, .inl (re)) :: .inr (6, [.ref 25, .int (nI n), .ref 32, .ref 26, .int (nI r), .int at0, .int sz, .int kd0, .int fr0, .int to0, .int fa, .int pa, .long nu, .ref 27, .int my, .ref 28, .ref 29, .ref 30, .ref 31, .int pcv]) :: .inl (1, 400, .inl (f)) :: .inl (0, 6400, .inl (be)) :: .inl (0, 1600, .inl (cd)) :: .inl (0, 32, .inl (fc)) :: .inl (0, 160, .inl (mst)) :: .inl (0, 8, .inl (fo)) :: .inl (0, 8, .inl (go)) :: .inl (0, mdp us, .inl (c)) :: []) := by
  obtain ⟨hn, hr, hlg, hco, hgu⟩ := id hI
  have hg8 := hlg.le
  refine rr_aload_n d_La_law_212 rfl rfl ?_
  cases r with
  | zero =>
    refine rr_callV d_La_law_213 il_La_33 m_Ru_undo (s_Ru_undo (lo := 0) hr (fun q => absurd q (by decide)) hlg.cells (by omega)) rfl rfl rfl rfl (Nat.le_of_ble_eq_true rfl) (Nat.le_of_ble_eq_true rfl) (Nat.le_of_ble_eq_true rfl) (by show _ + _ ≤ 600000; omega) (by show _ + _ ≤ 7302250; omega) (fun rv9 hp9 hq => ?_)
    rw [if_pos rfl] at hq
    obtain ⟨rfl, rfl⟩ := hq
    refine rr_aload_n d_La_law_216 rfl rfl ?_
    refine rr_callV d_La_law_217 il_La_36 m_Mo_undo (s_Mo_undo hr) rfl rfl rfl rfl (Nat.le_of_ble_eq_true rfl) (Nat.le_of_ble_eq_true rfl) (Nat.le_of_ble_eq_true rfl) (by show _ + _ ≤ 600000; omega) (by show _ + _ ≤ 7302250; omega) (fun rv9 hp9 hq => ?_)
    rw [if_pos rfl] at hq
    obtain ⟨rfl, rfl⟩ := hq
    refine rr_icmp_eq 305 d_La_law_220 (by decide) (fun _ => ?_) (fun c9 => absurd (rfl) c9)
    exact lw_n1 k1 (by omega) (by omega) (hI) (hJ)
  | succ r =>
    obtain ⟨lo, b1, b2, b3, b4⟩ := hlg.back
    have hl8 := b4.le
    refine rr_callV d_La_law_213 il_La_33 m_Ru_undo (s_Ru_undo (lo := lo) hr (fun _ => ⟨b1, b2⟩) hlg.cells (by omega)) rfl rfl rfl rfl (Nat.le_of_ble_eq_true rfl) (Nat.le_of_ble_eq_true rfl) (Nat.le_of_ble_eq_true rfl) (by show _ + _ ≤ 600000; omega) (by show _ + _ ≤ 7302250; omega) (fun rv9 hp9 hq => ?_)
    rw [if_neg (Nat.succ_ne_zero r), Nat.add_sub_cancel, b3] at hq
    obtain ⟨rfl, rfl⟩ := hq
    rw [b3] at b4
    refine rr_aload_n d_La_law_216 rfl rfl ?_
    refine rr_callV d_La_law_217 il_La_36 m_Mo_undo (s_Mo_undo hr) rfl rfl rfl rfl (Nat.le_of_ble_eq_true rfl) (Nat.le_of_ble_eq_true rfl) (Nat.le_of_ble_eq_true rfl) (by show _ + _ ≤ 600000; omega) (by show _ + _ ≤ 7302250; omega) (fun rv9 hp9 hq => ?_)
    rw [if_neg (Nat.succ_ne_zero r), Nat.add_sub_cancel] at hq
    obtain ⟨rfl, rfl⟩ := hq
    refine rr_icmp_eq 305 d_La_law_220 (by decide) (fun _ => ?_) (fun c9 => absurd (rfl) c9)
    exact lw_n1 k1 (by omega) (by omega) (⟨hn, by omega, b4, hco, hgu⟩) (hJ)

set_option maxRecDepth 100000 in
set_option maxHeartbeats 4000000 in
theorem lw_cell1 {L : Nat} {xs : Nat → Int32} {it : Nat} (hL : L ≤ 3072) (hi : 6 * it + 6 ≤ L) (k0 : lw_P0 L xs (40 + it + 1) (20000 + 1600 * it + 1600) (6 * it + 6)) (k1 : lw_P1 L xs (40 + it + 1) (20000 + 1600 * it + 1600) (6 * it + 6)) {n r g : Nat} {us : List sp_U} {f fc fk fv fp ck0 cv0 re0 fs ec ev cc cf cb ck cv re be cd mst fo go : Nat → Int32} {a0 p0 tz s0 u0 hg ef s1 at0 sz kd0 fr0 to0 fa pa my pcv : Int32} {nu : Int64} {c : Nat → Int32} (hI : lw_In n r g us fc cc cf cb be ck cv re) (hJ : lw_In1 us c) : rr_A R_La code 4 ret (false, some (L, xs)) room_1 lw_Q1 (40 + it) (20000 + 1600 * it) 225 [(3, .int (nI (6 * it))), (2, .ref 24), (1, .ref 0), (0, .ref (rr_K0 + 200))] [] (.inr (5, [.ref 1, .ref 3, .ref 12, .ref 20]) :: .inr (3, [.ref 2, .int (nI n)]) :: .inl (1, 400, .inl (f)) :: .inr (2, [.ref 4, .ref 8, .int a0, .int p0]) :: .inr (4, [.ref 5, .ref 6, .ref 7, .int tz]) :: .inl (0, 401, .inl (fk)) :: .inl (0, 401, .inl (fv)) :: .inl (0, 401, .inl (fp)) :: .inr (0, [.ref 9, .ref 10, .ref 11, .int s0, .int u0]) :: .inl (0, 160, .inl (ck0)) :: .inl (0, 160, .inl (cv0)) :: .inl (0, 6, .inl (re0)) :: .inr (1, [.ref 13, .ref 14, .int hg, .ref 15, .ref 16, .int ef, .ref 17, .ref 18, .int (nI g), .ref 19, .int (nI r)]) :: .inl (0, 32, .inl (fc)) :: .inl (0, 80, .inl (fs)) :: .inl (0, 8, .inl (ec)) :: .inl (0, 8, .inl (ev)) :: .inl (0, 1600, .inl (cc)) :: .inl (0, 1600, .inl (cf)) :: .inl (0, 200, .inl (cb)) :: .inr (0, [.ref 21, .ref 22, .ref 23, .int s1, .int (nI us.length)]) :: .inl (0, 160, .inl (ck)) :: .inl (0, 160, .inl (cv)) :: .inl (0, 6, .inl (re)) :: .inr (6, [.ref 25, .int (nI n), .ref 32, .ref 26, .int (nI r), .int at0, .int sz, .int kd0, .int fr0, .int to0, .int fa, .int pa, .long nu, .ref 27, .int my, .ref 28, .ref 29, .ref 30, .ref 31, .int pcv]) :: .inl (1, 400, .inl (f)) :: .inl (0, 6400, .inl (be)) :: .inl (0, 1600, .inl (cd)) :: .inl (0, 32, .inl (fc)) :: .inl (0, 160, .inl (mst)) :: .inl (0, 8, .inl (fo)) :: .inl (0, 8, .inl (go)) :: .inl (0, mdp us, .inl (c)) :: []) := by
  obtain ⟨hn, hr, hlg, hco, hgu⟩ := id hI
  have hv1 : vp_in (nI (6 * it) + 1) L := by rw [show (nI (6 * it) + 1 : Int32) = nI ((6 * it) + 1) from nI_add _ 1]; exact vp_in_nI (by omega) (by omega)
  obtain ⟨x1, hx1⟩ : ∃ x1, xs (nI (6 * it) + 1).toNatClampNeg = x1 := ⟨_, rfl⟩
  refine rr_aload_n d_La_law_225 rfl rfl ?_
  refine rr_aload_n d_La_law_226 rfl rfl ?_
  refine rr_iload_n d_La_law_227 rfl rfl ?_
  refine rr_iconst 1 d_La_law_228 rfl ?_
  refine rr_iadd d_La_law_229 ?_
  refine rr_sld rfl d_La_law_230 (hv1) ?_
  rw [hx1]
  refine rr_callV d_La_law_231 il_La_37 m_Ru_cell (s_Ru_cell) rfl rfl rfl rfl (Nat.le_of_ble_eq_true rfl) (Nat.le_of_ble_eq_true rfl) (Nat.le_of_ble_eq_true rfl) (by show _ + _ ≤ 600000; omega) (by show _ + _ ≤ 7302250; omega) (fun rv9 hp9 hq => ?_)
  obtain ⟨rfl, rfl⟩ := hq
  refine rr_aload_n d_La_law_234 rfl rfl ?_
  refine rr_aload_n d_La_law_235 rfl rfl ?_
  refine rr_iload_n d_La_law_236 rfl rfl ?_
  refine rr_iconst 1 d_La_law_237 rfl ?_
  refine rr_iadd d_La_law_238 ?_
  refine rr_sld rfl d_La_law_239 (hv1) ?_
  rw [hx1]
  refine rr_callV d_La_law_240 il_La_41 m_Mo_cell (s_Mo_cell) rfl rfl rfl rfl (Nat.le_of_ble_eq_true rfl) (Nat.le_of_ble_eq_true rfl) (Nat.le_of_ble_eq_true rfl) (by show _ + _ ≤ 600000; omega) (by show _ + _ ≤ 7302250; omega) (fun rv9 hp9 hq => ?_)
  obtain ⟨rfl, rfl⟩ := hq
  refine rr_lcmp d_La_law_243 ?_
  refine rr_if_eq 305 d_La_law_244 (by decide) (fun _ => ?_) (fun c9 => absurd (lg_cmp_self _) c9)
  exact lw_n1 k1 (by omega) (by omega) (hI) (hJ)

set_option maxRecDepth 100000 in
set_option maxHeartbeats 4000000 in
theorem lw_set1 {L : Nat} {xs : Nat → Int32} {it : Nat} (hL : L ≤ 3072) (hi : 6 * it + 6 ≤ L) (k0 : lw_P0 L xs (40 + it + 1) (20000 + 1600 * it + 1600) (6 * it + 6)) (k1 : lw_P1 L xs (40 + it + 1) (20000 + 1600 * it + 1600) (6 * it + 6)) {n r g : Nat} {us : List sp_U} {f fc fk fv fp ck0 cv0 re0 fs ec ev cc cf cb ck cv re be cd mst fo go : Nat → Int32} {a0 p0 tz s0 u0 hg ef s1 at0 sz kd0 fr0 to0 fa pa my pcv : Int32} {nu : Int64} {c : Nat → Int32} (hI : lw_In n r g us fc cc cf cb be ck cv re) (hJ : lw_In1 us c) : rr_A R_La code 4 ret (false, some (L, xs)) room_1 lw_Q1 (40 + it) (20000 + 1600 * it) 249 [(3, .int (nI (6 * it))), (2, .ref 24), (1, .ref 0), (0, .ref (rr_K0 + 200))] [] (.inr (5, [.ref 1, .ref 3, .ref 12, .ref 20]) :: .inr (3, [.ref 2, .int (nI n)]) :: .inl (1, 400, .inl (f)) :: .inr (2, [.ref 4, .ref 8, .int a0, .int p0]) :: .inr (4, [.ref 5, .ref 6, .ref 7, .int tz]) :: .inl (0, 401, .inl (fk)) :: .inl (0, 401, .inl (fv)) :: .inl (0, 401, .inl (fp)) :: .inr (0, [.ref 9, .ref 10, .ref 11, .int s0, .int u0]) :: .inl (0, 160, .inl (ck0)) :: .inl (0, 160, .inl (cv0)) :: .inl (0, 6, .inl (re0)) :: .inr (1, [.ref 13, .ref 14, .int hg, .ref 15, .ref 16, .int ef, .ref 17, .ref 18, .int (nI g), .ref 19, .int (nI r)]) :: .inl (0, 32, .inl (fc)) :: .inl (0, 80, .inl (fs)) :: .inl (0, 8, .inl (ec)) :: .inl (0, 8, .inl (ev)) :: .inl (0, 1600, .inl (cc)) :: .inl (0, 1600, .inl (cf)) :: .inl (0, 200, .inl (cb)) :: .inr (0, [.ref 21, .ref 22, .ref 23, .int s1, .int (nI us.length)]) :: .inl (0, 160, .inl (ck)) :: .inl (0, 160, .inl (cv)) :: .inl (0, 6, .inl (re)) :: .inr (6, [.ref 25, .int (nI n), .ref 32, .ref 26, .int (nI r), .int at0, .int sz, .int kd0, .int fr0, .int to0, .int fa, .int pa, .long nu, .ref 27, .int my, .ref 28, .ref 29, .ref 30, .ref 31, .int pcv]) :: .inl (1, 400, .inl (f)) :: .inl (0, 6400, .inl (be)) :: .inl (0, 1600, .inl (cd)) :: .inl (0, 32, .inl (fc)) :: .inl (0, 160, .inl (mst)) :: .inl (0, 8, .inl (fo)) :: .inl (0, 8, .inl (go)) :: .inl (0, mdp us, .inl (c)) :: []) := by
  obtain ⟨hn, hr, hlg, hco, hgu⟩ := id hI
  have hv1 : vp_in (nI (6 * it) + 1) L := by rw [show (nI (6 * it) + 1 : Int32) = nI ((6 * it) + 1) from nI_add _ 1]; exact vp_in_nI (by omega) (by omega)
  have hv2 : vp_in (nI (6 * it) + 2) L := by rw [show (nI (6 * it) + 2 : Int32) = nI ((6 * it) + 2) from nI_add _ 2]; exact vp_in_nI (by omega) (by omega)
  obtain ⟨x1, hx1⟩ : ∃ x1, xs (nI (6 * it) + 1).toNatClampNeg = x1 := ⟨_, rfl⟩
  obtain ⟨x2, hx2⟩ : ∃ x2, xs (nI (6 * it) + 2).toNatClampNeg = x2 := ⟨_, rfl⟩
  refine rr_aload_n d_La_law_249 rfl rfl ?_
  refine rr_aload_n d_La_law_250 rfl rfl ?_
  refine rr_iload_n d_La_law_251 rfl rfl ?_
  refine rr_iconst 1 d_La_law_252 rfl ?_
  refine rr_iadd d_La_law_253 ?_
  refine rr_sld rfl d_La_law_254 (hv1) ?_
  refine rr_aload_n d_La_law_255 rfl rfl ?_
  refine rr_iload_n d_La_law_256 rfl rfl ?_
  refine rr_iconst 2 d_La_law_257 rfl ?_
  refine rr_iadd d_La_law_258 ?_
  refine rr_sld rfl d_La_law_259 (hv2) ?_
  rw [hx1, hx2]
  refine rr_callV d_La_law_260 il_La_42 m_Ru_set (s_Ru_set hr) rfl rfl rfl rfl (Nat.le_of_ble_eq_true rfl) (Nat.le_of_ble_eq_true rfl) (Nat.le_of_ble_eq_true rfl) (by show _ + _ ≤ 600000; omega) (by show _ + _ ≤ 7302250; omega) (fun rv9 hp9 hq => ?_)
  by_cases hx : 0 ≤ x1 ∧ x1 < 32
  · rw [if_pos hx] at hq
    by_cases h0 : 0 < r
    · rw [if_pos h0] at hq
      obtain ⟨rfl, rfl⟩ := hq
      refine rr_aload_n d_La_law_263 rfl rfl ?_
      refine rr_aload_n d_La_law_264 rfl rfl ?_
      refine rr_iload_n d_La_law_265 rfl rfl ?_
      refine rr_iconst 1 d_La_law_266 rfl ?_
      refine rr_iadd d_La_law_267 ?_
      refine rr_sld rfl d_La_law_268 (hv1) ?_
      refine rr_aload_n d_La_law_269 rfl rfl ?_
      refine rr_iload_n d_La_law_270 rfl rfl ?_
      refine rr_iconst 2 d_La_law_271 rfl ?_
      refine rr_iadd d_La_law_272 ?_
      refine rr_sld rfl d_La_law_273 (hv2) ?_
      rw [hx1, hx2]
      refine rr_callV d_La_law_274 il_La_45 m_Mo_set (s_Mo_set hr) rfl rfl rfl rfl (Nat.le_of_ble_eq_true rfl) (Nat.le_of_ble_eq_true rfl) (Nat.le_of_ble_eq_true rfl) (by show _ + _ ≤ 600000; omega) (by show _ + _ ≤ 7302250; omega) (fun rv9 hp9 hq => ?_)
      rw [if_pos hx, if_pos h0] at hq
      obtain ⟨rfl, rfl⟩ := hq
      refine rr_icmp_eq 305 d_La_law_277 (by decide) (fun _ => ?_) (fun c9 => absurd (rfl) c9)
      exact lw_n1 k1 (by omega) (by omega) (hI) (hJ)
    · rw [if_neg h0] at hq
      obtain ⟨rfl, rfl⟩ := hq
      refine rr_aload_n d_La_law_263 rfl rfl ?_
      refine rr_aload_n d_La_law_264 rfl rfl ?_
      refine rr_iload_n d_La_law_265 rfl rfl ?_
      refine rr_iconst 1 d_La_law_266 rfl ?_
      refine rr_iadd d_La_law_267 ?_
      refine rr_sld rfl d_La_law_268 (hv1) ?_
      refine rr_aload_n d_La_law_269 rfl rfl ?_
      refine rr_iload_n d_La_law_270 rfl rfl ?_
      refine rr_iconst 2 d_La_law_271 rfl ?_
      refine rr_iadd d_La_law_272 ?_
      refine rr_sld rfl d_La_law_273 (hv2) ?_
      rw [hx1, hx2]
      refine rr_callV d_La_law_274 il_La_45 m_Mo_set (s_Mo_set hr) rfl rfl rfl rfl (Nat.le_of_ble_eq_true rfl) (Nat.le_of_ble_eq_true rfl) (Nat.le_of_ble_eq_true rfl) (by show _ + _ ≤ 600000; omega) (by show _ + _ ≤ 7302250; omega) (fun rv9 hp9 hq => ?_)
      rw [if_pos hx, if_neg h0] at hq
      obtain ⟨rfl, rfl⟩ := hq
      refine rr_icmp_eq 305 d_La_law_277 (by decide) (fun _ => ?_) (fun c9 => absurd (rfl) c9)
      obtain rfl : r = 0 := by omega
      exact lw_n1 k1 (by omega) (by omega) (r := 0) (⟨hn, hr, hlg, hco, hgu⟩) (hJ)
  · rw [if_neg hx] at hq
    obtain ⟨rfl, rfl⟩ := hq
    refine rr_aload_n d_La_law_263 rfl rfl ?_
    refine rr_aload_n d_La_law_264 rfl rfl ?_
    refine rr_iload_n d_La_law_265 rfl rfl ?_
    refine rr_iconst 1 d_La_law_266 rfl ?_
    refine rr_iadd d_La_law_267 ?_
    refine rr_sld rfl d_La_law_268 (hv1) ?_
    refine rr_aload_n d_La_law_269 rfl rfl ?_
    refine rr_iload_n d_La_law_270 rfl rfl ?_
    refine rr_iconst 2 d_La_law_271 rfl ?_
    refine rr_iadd d_La_law_272 ?_
    refine rr_sld rfl d_La_law_273 (hv2) ?_
    rw [hx1, hx2]
    refine rr_callV d_La_law_274 il_La_45 m_Mo_set (s_Mo_set hr) rfl rfl rfl rfl (Nat.le_of_ble_eq_true rfl) (Nat.le_of_ble_eq_true rfl) (Nat.le_of_ble_eq_true rfl) (by show _ + _ ≤ 600000; omega) (by show _ + _ ≤ 7302250; omega) (fun rv9 hp9 hq => ?_)
    rw [if_neg hx] at hq
    obtain ⟨rfl, rfl⟩ := hq
    refine rr_icmp_eq 305 d_La_law_277 (by decide) (fun _ => ?_) (fun c9 => absurd (rfl) c9)
    exact lw_n1 k1 (by omega) (by omega) (hI) (hJ)

set_option maxRecDepth 100000 in
set_option maxHeartbeats 4000000 in
theorem lw_count1 {L : Nat} {xs : Nat → Int32} {it : Nat} (hL : L ≤ 3072) (hi : 6 * it + 6 ≤ L) (k0 : lw_P0 L xs (40 + it + 1) (20000 + 1600 * it + 1600) (6 * it + 6)) (k1 : lw_P1 L xs (40 + it + 1) (20000 + 1600 * it + 1600) (6 * it + 6)) {n r g : Nat} {us : List sp_U} {f fc fk fv fp ck0 cv0 re0 fs ec ev cc cf cb ck cv re be cd mst fo go : Nat → Int32} {a0 p0 tz s0 u0 hg ef s1 at0 sz kd0 fr0 to0 fa pa my pcv : Int32} {nu : Int64} {c : Nat → Int32} (hI : lw_In n r g us fc cc cf cb be ck cv re) (hJ : lw_In1 us c) : rr_A R_La code 4 ret (false, some (L, xs)) room_1 lw_Q1 (40 + it) (20000 + 1600 * it) 282 [(3, .int (nI (6 * it))), (2, .ref 24), (1, .ref 0), (0, .ref (rr_K0 + 200))] [] (.inr (5, [.ref 1, .ref 3, .ref 12, .ref 20]) :: .inr (3, [.ref 2, .int (nI n)]) :: .inl (1, 400, .inl (f)) :: .inr (2, [.ref 4, .ref 8, .int a0, .int p0]) :: .inr (4, [.ref 5, .ref 6, .ref 7, .int tz]) :: .inl (0, 401, .inl (fk)) :: .inl (0, 401, .inl (fv)) :: .inl (0, 401, .inl (fp)) :: .inr (0, [.ref 9, .ref 10, .ref 11, .int s0, .int u0]) :: .inl (0, 160, .inl (ck0)) :: .inl (0, 160, .inl (cv0)) :: .inl (0, 6, .inl (re0)) :: .inr (1, [.ref 13, .ref 14, .int hg, .ref 15, .ref 16, .int ef, .ref 17, .ref 18, .int (nI g), .ref 19, .int (nI r)]) :: .inl (0, 32, .inl (fc)) :: .inl (0, 80, .inl (fs)) :: .inl (0, 8, .inl (ec)) :: .inl (0, 8, .inl (ev)) :: .inl (0, 1600, .inl (cc)) :: .inl (0, 1600, .inl (cf)) :: .inl (0, 200, .inl (cb)) :: .inr (0, [.ref 21, .ref 22, .ref 23, .int s1, .int (nI us.length)]) :: .inl (0, 160, .inl (ck)) :: .inl (0, 160, .inl (cv)) :: .inl (0, 6, .inl (re)) :: .inr (6, [.ref 25, .int (nI n), .ref 32, .ref 26, .int (nI r), .int at0, .int sz, .int kd0, .int fr0, .int to0, .int fa, .int pa, .long nu, .ref 27, .int my, .ref 28, .ref 29, .ref 30, .ref 31, .int pcv]) :: .inl (1, 400, .inl (f)) :: .inl (0, 6400, .inl (be)) :: .inl (0, 1600, .inl (cd)) :: .inl (0, 32, .inl (fc)) :: .inl (0, 160, .inl (mst)) :: .inl (0, 8, .inl (fo)) :: .inl (0, 8, .inl (go)) :: .inl (0, mdp us, .inl (c)) :: []) := by
  obtain ⟨hn, hr, hlg, hco, hgu⟩ := id hI
  have hv1 : vp_in (nI (6 * it) + 1) L := by rw [show (nI (6 * it) + 1 : Int32) = nI ((6 * it) + 1) from nI_add _ 1]; exact vp_in_nI (by omega) (by omega)
  obtain ⟨x1, hx1⟩ : ∃ x1, xs (nI (6 * it) + 1).toNatClampNeg = x1 := ⟨_, rfl⟩
  refine rr_aload_n d_La_law_282 rfl rfl ?_
  refine rr_aload_n d_La_law_283 rfl rfl ?_
  refine rr_iload_n d_La_law_284 rfl rfl ?_
  refine rr_iconst 1 d_La_law_285 rfl ?_
  refine rr_iadd d_La_law_286 ?_
  refine rr_sld rfl d_La_law_287 (hv1) ?_
  rw [hx1]
  refine rr_callV d_La_law_288 il_La_46 m_Ru_count (s_Ru_count) rfl rfl rfl rfl (Nat.le_of_ble_eq_true rfl) (Nat.le_of_ble_eq_true rfl) (Nat.le_of_ble_eq_true rfl) (by show _ + _ ≤ 600000; omega) (by show _ + _ ≤ 7302250; omega) (fun rv9 hp9 hq => ?_)
  obtain ⟨rfl, rfl⟩ := hq
  refine rr_aload_n d_La_law_291 rfl rfl ?_
  refine rr_aload_n d_La_law_292 rfl rfl ?_
  refine rr_iload_n d_La_law_293 rfl rfl ?_
  refine rr_iconst 1 d_La_law_294 rfl ?_
  refine rr_iadd d_La_law_295 ?_
  refine rr_sld rfl d_La_law_296 (hv1) ?_
  rw [hx1]
  refine rr_callV d_La_law_297 il_La_49 m_Mo_count (s_Mo_count) rfl rfl rfl rfl (Nat.le_of_ble_eq_true rfl) (Nat.le_of_ble_eq_true rfl) (Nat.le_of_ble_eq_true rfl) (by show _ + _ ≤ 600000; omega) (by show _ + _ ≤ 7302250; omega) (fun rv9 hp9 hq => ?_)
  obtain ⟨rfl, rfl⟩ := hq
  refine rr_icmp_eq 305 d_La_law_300 (by decide) (fun _ => ?_) (fun c9 => absurd (rfl) c9)
  exact lw_n1 k1 (by omega) (by omega) (hI) (hJ)
