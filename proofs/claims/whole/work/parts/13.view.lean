/-! The law's own row: the cells in another order, and without those that nobody needs any more. -/
def rr_ov (σ : List Nat) : Value → Option Value
  | .ref j => if Nat.ble rr_K0 j = true then some (.ref j) else (match σ[j]? with
    | some i => if Nat.ble rr_K0 i = true then none else some (.ref i)
    | none => none)
  | u => some u
def rr_ovs (σ : List Nat) : List Value → Option (List Value)
  | [] => some []
  | v :: t => match rr_ov σ v, rr_ovs σ t with
    | some a, some b => some (a :: b)
    | _, _ => none
def rr_ovl (σ : List Nat) : List (Nat × Value) → Option (List (Nat × Value))
  | [] => some []
  | v :: t => match rr_ov σ v.2, rr_ovl σ t with
    | some a, some b => some ((v.1, a) :: b)
    | _, _ => none
def rr_oe (σ : List Nat) : va_E → Option va_E
  | .inl a => some (.inl a)
  | .inr o => match rr_ovs σ o.2 with
    | some l => some (.inr (o.1, l))
    | none => none
theorem rr_ov_v {E : rr_E} {ws ws2 : va_W} {σ : List Nat} (hs : ∀ (j i : Nat), σ[j]? = some i → ws2[j]? = ws[i]?) {v2 v w : Value} (h : rr_ov σ v2 = some v) (hv : rr_v E ws v w) : rr_v E ws2 v2 w := by
  cases v2 with
  | ref j =>
    unfold rr_ov at h
    dsimp only at h
    by_cases hj : Nat.ble rr_K0 j = true
    · rw [if_pos hj] at h
      cases h
      have hj2 : ¬ j < rr_K0 := Nat.not_lt.mpr (Nat.le_of_ble_eq_true hj)
      unfold rr_v at hv ⊢
      dsimp only at hv ⊢
      rw [if_neg hj2] at hv ⊢
      exact hv
    · rw [if_neg hj] at h
      cases hi : σ[j]? with
      | none => rw [hi] at h; cases h
      | some i =>
        rw [hi] at h
        dsimp only at h
        by_cases hi2 : Nat.ble rr_K0 i = true
        · rw [if_pos hi2] at h; cases h
        · rw [if_neg hi2] at h
          cases h
          have e1 : j < rr_K0 := Nat.not_le.mp (fun q => hj (Nat.ble_eq_true_of_le q))
          have e2 : i < rr_K0 := Nat.not_le.mp (fun q => hi2 (Nat.ble_eq_true_of_le q))
          unfold rr_v at hv ⊢
          dsimp only at hv ⊢
          rw [if_pos e2] at hv
          rw [if_pos e1, hs j i hi]
          exact hv
  | _ => cases h; exact hv
theorem rr_ovs_vs {E : rr_E} {ws ws2 : va_W} {σ : List Nat} (hs : ∀ (j i : Nat), σ[j]? = some i → ws2[j]? = ws[i]?) : ∀ {l2 l l' : List Value}, rr_ovs σ l2 = some l → rr_vs E ws l l' → rr_vs E ws2 l2 l'
  | [], l, l', h, hv => by cases h; exact hv
  | v :: t, l, l', h, hv => by
    unfold rr_ovs at h
    cases h1 : rr_ov σ v with
    | none => rw [h1] at h; cases h
    | some a =>
      cases h2 : rr_ovs σ t with
      | none => rw [h1, h2] at h; cases h
      | some b =>
        rw [h1, h2] at h
        cases h
        obtain ⟨w, u, e1, e2, e3⟩ := hv
        exact ⟨w, u, e1, rr_ov_v hs h1 e2, rr_ovs_vs hs h2 e3⟩
theorem rr_ovl_ls {E : rr_E} {ws ws2 : va_W} {σ : List Nat} (hs : ∀ (j i : Nat), σ[j]? = some i → ws2[j]? = ws[i]?) : ∀ {l2 l l' : List (Nat × Value)}, rr_ovl σ l2 = some l → rr_ls E ws l l' → rr_ls E ws2 l2 l'
  | [], l, l', h, hv => by cases h; exact hv
  | v :: t, l, l', h, hv => by
    unfold rr_ovl at h
    cases h1 : rr_ov σ v.2 with
    | none => rw [h1] at h; cases h
    | some a =>
      cases h2 : rr_ovl σ t with
      | none => rw [h1, h2] at h; cases h
      | some b =>
        rw [h1, h2] at h
        cases h
        obtain ⟨w, u, e1, e2, e3⟩ := hv
        exact ⟨w, u, e1, rr_ov_v hs h1 e2, rr_ovl_ls hs h2 e3⟩
theorem rr_oe_e {E : rr_E} {ws ws2 : va_W} {σ : List Nat} (hs : ∀ (j i : Nat), σ[j]? = some i → ws2[j]? = ws[i]?) {x2 x y : va_E} (h : rr_oe σ x2 = some x) (he : rr_e E ws x y) : rr_e E ws2 x2 y := by
  cases x2 with
  | inl a => cases h; exact he
  | inr o =>
    unfold rr_oe at h
    dsimp only at h
    cases h1 : rr_ovs σ o.2 with
    | none => rw [h1] at h; cases h
    | some l =>
      rw [h1] at h
      cases h
      obtain ⟨fs, e1, e2⟩ := he
      exact ⟨fs, e1, rr_ovs_vs hs h1 e2⟩
section
variable {own : String} {cc : ByteArray} {nL : Nat} {rt : Option FieldType} {kd : rr_Kd} {R : Room} {Q : Option Value → rr_H → Prop} {kc ks pc : Nat} {lv : List (Nat × Value)} {st : List Value} {h : rr_H}
theorem rr_view (σ : List Nat) (lv2 : List (Nat × Value)) (st2 : List Value) (h2 : rr_H) (hkd : kd.2.isSome = true) (hn : σ.Nodup) (hh : h2.map (rr_oe σ) = σ.map (fun i => h[i]?)) (hsm : (h2.all fun x => (rr_oe σ x).isSome) = true) (hlv : rr_ovl σ lv2 = some lv) (hst2 : rr_ovs σ st2 = some st) (k : rr_A own cc nL rt kd R Q kc ks pc lv2 st2 h2) : rr_A own cc nL rt kd R Q kc ks pc lv st h := by
  intro p l e s m args below meth c E A Qf w0 hC hret H locs ws ls l0 st' hW hS hle hl hlr hst
  obtain ⟨⟨hlen, hM⟩, hP, hD1, hD2⟩ := hW
  have hlσ : σ.length = h2.length := by
    have := congrArg List.length hh
    rw [List.length_map, List.length_map] at this
    exact this.symm
  have hin : ∀ (j i : Nat), σ[j]? = some i → ∃ q, ws[i]? = some q := by
    intro j i hj
    have h1 : (h2.map (rr_oe σ))[j]? = some (h[i]?) := by rw [hh, List.getElem?_map, hj]; rfl
    rw [List.getElem?_map] at h1
    cases hx : h2[j]? with
    | none => rw [hx] at h1; cases h1
    | some x =>
      rw [hx] at h1
      have h3 : rr_oe σ x = h[i]? := Option.some.inj h1
      have h4 := List.all_eq_true.mp hsm x (List.mem_of_getElem? hx)
      rw [h3] at h4
      obtain ⟨y, hy⟩ := Option.isSome_iff_exists.mp h4
      have := (List.getElem?_eq_some_iff.mp hy).1
      exact ⟨_, List.getElem?_eq_getElem (by omega)⟩
  obtain ⟨ws2, hw2⟩ : ∃ ws2 : va_W, ws2 = σ.filterMap (fun i => ws[i]?) := ⟨_, rfl⟩
  have hall : ∀ (l1 : List Nat), (∀ i ∈ l1, ∃ q, ws[i]? = some q) → ∀ (j : Nat), (l1.filterMap (fun i => ws[i]?))[j]? = (match l1[j]? with
      | some i => ws[i]?
      | none => none) := by
    intro l1
    induction l1 with
    | nil => intro _ j; simp
    | cons a t ih =>
      intro ha j
      obtain ⟨q, hq⟩ := ha a List.mem_cons_self
      rw [List.filterMap_cons_some hq]
      cases j with
      | zero => simp [hq]
      | succ j =>
        rw [List.getElem?_cons_succ, List.getElem?_cons_succ]
        exact ih (fun i hi => ha i (List.mem_cons_of_mem _ hi)) j
  have hmem : ∀ i ∈ σ, ∃ q, ws[i]? = some q := by
    intro i hi
    obtain ⟨j, hj⟩ := List.getElem?_of_mem hi
    exact hin j i hj
  have hg : ∀ j : Nat, ws2[j]? = (match σ[j]? with
      | some i => ws[i]?
      | none => none) := by rw [hw2]; exact hall σ hmem
  have hs : ∀ (j i : Nat), σ[j]? = some i → ws2[j]? = ws[i]? := fun j i hj => by rw [hg j, hj]
  have hl2 : ws2.length = h2.length := by
    rw [← hlσ]
    have g1 : ∀ j, j < ws2.length ↔ j < σ.length := by
      intro j
      constructor
      · intro q
        cases hj : σ[j]? with
        | none =>
          have := hg j
          rw [hj, List.getElem?_eq_getElem q] at this
          cases this
        | some i => exact (List.getElem?_eq_some_iff.mp hj).1
      · intro q
        have hj := List.getElem?_eq_getElem q
        obtain ⟨z, hz⟩ := hin j _ hj
        have := hs j _ hj
        rw [hz] at this
        exact (List.getElem?_eq_some_iff.mp this).1
    have a1 := g1 ws2.length
    have a2 := g1 σ.length
    omega
  refine k p l e s m args below meth c E A Qf w0 hC hret H locs ws2 ls l0 st' ⟨⟨hl2, fun j x2 hj => ?_⟩, fun j q hq => ?_, fun i j p q hi hj hpq => ?_, fun j q hq => ?_⟩ hS (fun hkn => by rw [hkn] at hkd; cases hkd) hl (rr_ovl_ls hs hlv hlr) (rr_ovs_vs hs hst2 hst)
  · have hjl := (List.getElem?_eq_some_iff.mp hj).1
    have hσj := List.getElem?_eq_getElem (l := σ) (i := j) (by omega)
    generalize σ[j]'(by omega) = i at hσj
    have h1 : (h2.map (rr_oe σ))[j]? = some (h[i]?) := by rw [hh, List.getElem?_map, hσj]; rfl
    rw [List.getElem?_map, hj] at h1
    have h3 : rr_oe σ x2 = h[i]? := Option.some.inj h1
    have h4 := List.all_eq_true.mp hsm x2 (List.mem_of_getElem? hj)
    obtain ⟨x, hx⟩ := Option.isSome_iff_exists.mp h4
    rw [hx] at h3
    obtain ⟨a, y, g1, g2⟩ := hM i x h3.symm
    exact ⟨a, y, by rw [hs j i hσj]; exact g1, rr_oe_e hs hx g2⟩
  · have := hg j
    rw [hq] at this
    cases hj : σ[j]? with
    | none => rw [hj] at this; cases this
    | some i => rw [hj] at this; exact hP i q this.symm
  · have h1 := hg i
    have h2' := hg j
    rw [hi] at h1
    rw [hj] at h2'
    cases hi2 : σ[i]? with
    | none => rw [hi2] at h1; cases h1
    | some a =>
      cases hj2 : σ[j]? with
      | none => rw [hj2] at h2'; cases h2'
      | some b =>
        rw [hi2] at h1
        rw [hj2] at h2'
        have hab : a = b := hD1 a b p q h1.symm h2'.symm hpq
        subst hab
        have q1 := (List.getElem?_eq_some_iff.mp hi2)
        exact (List.getElem?_inj q1.1 hn).mp (hi2.trans hj2.symm)
  · have := hg j
    rw [hq] at this
    cases hj : σ[j]? with
    | none => rw [hj] at this; cases this
    | some i => rw [hj] at this; exact hD2 i q this.symm
end
