/-! The log of changes against the snapshots. -/
theorem ch_k_ne : ∀ (L : List (Nat × Int32)) (cc : Nat → Int32) (g j : Nat), j < g → ch_k L cc g j = cc j
  | [], _, _, _, _ => rfl
  | q :: L, cc, g, j, h => by
    show ch_k L (upd cc g (nI q.1)) (g + 1) j = cc j
    rw [ch_k_ne L _ _ _ (by omega), pk_un (by omega)]
theorem ch_v_ne : ∀ (L : List (Nat × Int32)) (fc cf : Nat → Int32) (g j : Nat), j < g → ch_v L fc cf g j = cf j
  | [], _, _, _, _, _ => rfl
  | q :: L, fc, cf, g, j, h => by
    show ch_v L (upd fc q.1 q.2) (upd cf g (fc q.1)) (g + 1) j = cf j
    rw [ch_v_ne L _ _ _ _ (by omega), pk_un (by omega)]
theorem ch_k_in : ∀ (L : List (Nat × Int32)) (cc : Nat → Int32) (g : Nat), (∀ q ∈ L, q.1 < 32) → ∀ i, g ≤ i → i < g + L.length → ∃ c : Nat, c < 32 ∧ ch_k L cc g i = nI c
  | [], _, _, _, i, h1, h2 => by simp at h2; omega
  | q :: L, cc, g, hq, i, h1, h2 => by
    show ∃ c : Nat, c < 32 ∧ ch_k L (upd cc g (nI q.1)) (g + 1) i = nI c
    rcases Nat.lt_or_ge i (g + 1) with h | h
    · obtain rfl : i = g := by omega
      exact ⟨q.1, hq q List.mem_cons_self, by rw [ch_k_ne L _ _ _ h, pk_us]⟩
    · exact ch_k_in L _ (g + 1) (fun r hr => hq r (List.mem_cons_of_mem _ hr)) i h (by rw [List.length_cons] at h2; omega)
theorem ch_c_out : ∀ (L : List (Nat × Int32)) (f : Nat → Int32), (∀ q ∈ L, q.1 < 32) → ∀ j, 32 ≤ j → ch_c L f j = f j
  | [], _, _, _, _ => rfl
  | q :: L, f, hq, j, hj => by
    show ch_c L (upd f q.1 q.2) j = f j
    rw [ch_c_out L _ (fun r hr => hq r (List.mem_cons_of_mem _ hr)) j hj, pk_un (by have := hq q List.mem_cons_self; omega)]
theorem rb_split (cc cf : Nat → Int32) : ∀ (j lo : Nat) (f : Nat → Int32), rb cc cf lo (j + 1) f = upd (rb cc cf (lo + 1) j f) (cc lo).toNatClampNeg (cf lo)
  | 0, lo, f => rfl
  | j + 1, lo, f => by
    show rb cc cf lo (j + 1) (upd f (cc (lo + (j + 1))).toNatClampNeg (cf (lo + (j + 1)))) = upd (rb cc cf (lo + 1) j (upd f (cc (lo + 1 + j)).toNatClampNeg (cf (lo + 1 + j)))) (cc lo).toNatClampNeg (cf lo)
    rw [rb_split cc cf j lo, show lo + 1 + j = lo + (j + 1) by omega]
theorem rb_congr {cc cf cc2 cf2 : Nat → Int32} {lo : Nat} : ∀ (j : Nat) (f : Nat → Int32), (∀ i, lo ≤ i → i < lo + j → cc2 i = cc i ∧ cf2 i = cf i) → rb cc2 cf2 lo j f = rb cc cf lo j f
  | 0, f, _ => rfl
  | j + 1, f, h => by
    show rb cc2 cf2 lo j (upd f (cc2 (lo + j)).toNatClampNeg (cf2 (lo + j))) = rb cc cf lo j (upd f (cc (lo + j)).toNatClampNeg (cf (lo + j)))
    obtain ⟨h1, h2⟩ := h (lo + j) (by omega) (by omega)
    rw [h1, h2]
    exact rb_congr j _ (fun i a b => h i a (by omega))
theorem upd_back (f : Nat → Int32) (k : Nat) (v : Int32) : upd (upd f k v) k (f k) = f := by
  funext j
  unfold upd
  by_cases h : j = k
  · rw [if_pos h, h]
  · rw [if_neg h, if_neg h]
theorem rb_ch : ∀ (L : List (Nat × Int32)) (cc fc cf : Nat → Int32) (g : Nat), (∀ q ∈ L, q.1 < 32) → rb (ch_k L cc g) (ch_v L fc cf g) g L.length (ch_c L fc) = fc
  | [], _, _, _, _, _ => rfl
  | q :: L, cc, fc, cf, g, hq => by
    have h32 := hq q List.mem_cons_self
    show rb (ch_k L (upd cc g (nI q.1)) (g + 1)) (ch_v L (upd fc q.1 q.2) (upd cf g (fc q.1)) (g + 1)) g (L.length + 1) (ch_c L (upd fc q.1 q.2)) = fc
    rw [rb_split, rb_ch L _ _ _ (g + 1) (fun r hr => hq r (List.mem_cons_of_mem _ hr)), ch_k_ne _ _ _ _ (Nat.lt_succ_self g), ch_v_ne _ _ _ _ _ (Nat.lt_succ_self g), pk_us, pk_us, nI_clamp (by omega)]
    exact upd_back fc q.1 q.2
/-- r runs, g changes: from the cells fc the log gives the snapshots -/
def LG (cc cf cb be : Nat → Int32) : Nat → Nat → (Nat → Int32) → Prop
  | 0, g, _ => g = 0
  | r + 1, g, fc => ∃ lo : Nat, lo ≤ g ∧ g ≤ lo + 8 ∧ cb r = nI lo ∧ (∀ i, lo ≤ i → i < g → ∃ c : Nat, c < 32 ∧ cc i = nI c) ∧ (∀ j, rb cc cf lo (g - lo) fc j = if j < 32 then be (32 * r + j) else fc j) ∧ LG cc cf cb be r lo (rb cc cf lo (g - lo) fc)
theorem LG.le {cc cf cb be : Nat → Int32} : ∀ {r g : Nat} {fc : Nat → Int32}, LG cc cf cb be r g fc → g ≤ 8 * r
  | 0, _, _, h => by rw [show _ = 0 from h]; exact Nat.le_refl _
  | r + 1, g, fc, ⟨lo, h1, h2, h3, h4, h5, h6⟩ => by
    have := LG.le h6
    omega
theorem LG.cells {cc cf cb be : Nat → Int32} : ∀ {r g : Nat} {fc : Nat → Int32}, LG cc cf cb be r g fc → ∀ i, i < g → ∃ c : Nat, c < 32 ∧ cc i = nI c
  | 0, _, _, h, i, hi => by rw [show _ = 0 from h] at hi; omega
  | r + 1, g, fc, ⟨lo, h1, h2, h3, h4, h5, h6⟩, i, hi => by
    rcases Nat.lt_or_ge i lo with q | q
    · exact LG.cells h6 i q
    · exact h4 i q hi
theorem LG.congr {cc cf cb be cc2 cf2 cb2 be2 : Nat → Int32} : ∀ {r g : Nat} {fc : Nat → Int32}, LG cc cf cb be r g fc → (∀ i, i < g → cc2 i = cc i ∧ cf2 i = cf i) → (∀ i, i < r → cb2 i = cb i) → (∀ i, i < 32 * r → be2 i = be i) → LG cc2 cf2 cb2 be2 r g fc
  | 0, _, _, h, _, _, _ => h
  | r + 1, g, fc, ⟨lo, h1, h2, h3, h4, h5, h6⟩, a1, a2, a3 => by
    have e : rb cc2 cf2 lo (g - lo) fc = rb cc cf lo (g - lo) fc := rb_congr _ _ (fun i q1 q2 => a1 i (by omega))
    refine ⟨lo, h1, h2, by rw [a2 r (by omega)]; exact h3, fun i q1 q2 => by rw [(a1 i q2).1]; exact h4 i q1 q2, fun j => ?_, ?_⟩
    · rw [e, h5 j]
      by_cases hj : j < 32
      · rw [if_pos hj, if_pos hj, a3 (32 * r + j) (by omega)]
      · rw [if_neg hj, if_neg hj]
    · rw [e]
      exact LG.congr h6 (fun i hi => a1 i (by omega)) (fun i hi => a2 i (by omega)) (fun i hi => a3 i (by omega))
theorem LG.run {cc cf cb be fc : Nat → Int32} {r g : Nat} (h : LG cc cf cb be r g fc) (L : List (Nat × Int32)) (hq : ∀ q ∈ L, q.1 < 32) (h8 : L.length ≤ 8) : LG (ch_k L cc g) (ch_v L fc cf g) (upd cb r (nI g)) (va_cpy fc be 0 (32 * r) 32) (r + 1) (g + L.length) (ch_c L fc) := by
  have e : rb (ch_k L cc g) (ch_v L fc cf g) g (g + L.length - g) (ch_c L fc) = fc := by
    rw [Nat.add_sub_cancel_left]
    exact rb_ch L cc fc cf g hq
  refine ⟨g, by omega, by omega, pk_us, fun i q1 q2 => ch_k_in L cc g hq i q1 q2, fun j => ?_, ?_⟩
  · rw [e]
    by_cases hj : j < 32
    · rw [if_pos hj, pk_cpy_in (by omega) (by omega)]
      congr 1
      omega
    · rw [if_neg hj, ch_c_out L fc hq j (by omega)]
  · rw [e]
    exact h.congr (fun i hi => ⟨ch_k_ne L cc g i hi, ch_v_ne L fc cf g i hi⟩) (fun i hi => pk_un (by omega)) (fun i hi => pk_cpy_out (by omega))
theorem LG.back {cc cf cb be fc : Nat → Int32} {r g : Nat} (h : LG cc cf cb be (r + 1) g fc) : ∃ lo : Nat, cb r = nI lo ∧ lo ≤ g ∧ rb cc cf lo (g - lo) fc = va_cpy be fc (32 * r) 0 32 ∧ LG cc cf cb be r lo (rb cc cf lo (g - lo) fc) := by
  obtain ⟨lo, h1, h2, h3, h4, h5, h6⟩ := h
  refine ⟨lo, h3, h1, ?_, h6⟩
  funext j
  rw [h5 j]
  by_cases hj : j < 32
  · rw [if_pos hj, pk_cpy_in (by omega) (by omega)]
    rfl
  · rw [if_neg hj, pk_cpy_out (by omega)]
theorem pick_ok {fc : Nat → Int32} {sv sp : Int32} : ∀ (us : List sp_U) (k k2 : Nat) (L : List (Nat × Int32)), (∀ u ∈ us, gu u) → sp_pick fc sv sp us k = some (k2, L) → (∀ q ∈ L, q.1 < 32) ∧ L.length ≤ 8
  | [], _, _, _, _, h => by cases h
  | u :: us, k, k2, L, hg, h => by
    unfold sp_pick at h
    by_cases hc : sp_ts fc sv sp u.1 = true
    · rw [if_pos hc] at h
      cases h
      obtain ⟨g1, g2, g3⟩ := hg u List.mem_cons_self
      refine ⟨fun q hq => ?_, by unfold sp_eL; rw [List.length_map]; exact g3⟩
      unfold sp_eL at hq
      obtain ⟨e, he, rfl⟩ := List.mem_map.mp hq
      obtain ⟨-, -, c, hc, h3⟩ := g2 e he
      show e.1.toNatClampNeg < 32
      rw [h3, nI_clamp (by omega)]
      exact hc
    · rw [if_neg hc] at h
      exact pick_ok us (k + 1) k2 L (fun u hu => hg u (List.mem_cons_of_mem _ hu)) h
