/-! The rows of the small machine: an instruction a row. -/
def rr_get : List (Nat × Value) → Nat → Option Value
  | [], _ => none
  | q :: t, n => cond (Nat.beq q.1 n) (some q.2) (rr_get t n)
/-- storing a value of one slot, of two -/
def rr_p1 (i a b : Nat) : Bool := !(a == i) && !(a + 1 == i && b == 2)
def rr_p2 (i a b : Nat) : Bool := !(a == i) && (!(a == i + 1) && !(a + 1 == i && b == 2))
def rr_put (lv : List (Nat × Value)) (i : Nat) (v : Value) : List (Nat × Value) := (i, v) :: lv.filter (fun q => rr_p1 i q.1 q.2.category)
def rr_put2 (lv : List (Nat × Value)) (i : Nat) (v : Value) : List (Nat × Value) := (i, v) :: lv.filter (fun q => rr_p2 i q.1 q.2.category)
theorem rr_get_at {E : rr_E} {ws : va_W} {ls : Array Slot} {nL : Nat} {n : Nat} {v : Value} : ∀ {lv lv' : List (Nat × Value)}, lv_has ls nL lv' → rr_ls E ws lv lv' → rr_get lv n = some v → ∃ w, ls[n]? = some (.val w) ∧ rr_v E ws v w
  | [], _, _, _, hg => by cases hg
  | q :: t, _, hl, ⟨w, u, h1, h2, h3⟩, hg => by
    subst h1
    unfold rr_get at hg
    by_cases hq : Nat.beq q.1 n = true
    · rw [hq] at hg
      have e : q.1 = n := Nat.eq_of_beq_eq_true hq
      cases hg
      exact ⟨w, e ▸ hl.2.2 (q.1, w) List.mem_cons_self, h2⟩
    · rw [Bool.not_eq_true] at hq
      rw [hq] at hg
      exact rr_get_at (lv' := u) ⟨hl.1, hl.2.1, fun x hx => hl.2.2 x (List.mem_cons_of_mem _ hx)⟩ h3 hg
section ROWS
variable {own : String} {cc : ByteArray} {nL : Nat} {rt : Option FieldType} {kd : rr_Kd} {R : Room} {Q : Option Value → rr_H → Prop} {kc ks pc : Nat} {lv : List (Nat × Value)} {st : List Value} {h : rr_H}
/-- forget locals, or list them otherwise -/
def rr_sub (l l' : List (Nat × Value)) : Prop := ∀ q ∈ l', rr_get l q.1 = some q.2
theorem rr_lv_mk {E : rr_E} {ws : va_W} {ls : Array Slot} {n0 : Nat} {l l0 : List (Nat × Value)} (hl : lv_has ls n0 l0) (hr : rr_ls E ws l l0) : ∀ (l' : List (Nat × Value)), rr_sub l l' → ∃ l1, lv_has ls n0 l1 ∧ rr_ls E ws l' l1
  | [], _ => ⟨[], ⟨hl.1, hl.2.1, fun _ hq => by cases hq⟩, rfl⟩
  | q :: t, hs => by
    obtain ⟨w, h1, h2⟩ := rr_get_at hl hr (hs q List.mem_cons_self)
    obtain ⟨l1, g1, g2⟩ := rr_lv_mk hl hr t (fun x hx => hs x (List.mem_cons_of_mem _ hx))
    refine ⟨(q.1, w) :: l1, ⟨hl.1, hl.2.1, fun x hx => ?_⟩, w, l1, rfl, h2, g2⟩
    rcases List.mem_cons.mp hx with rfl | hx
    · exact h1
    · exact g1.2.2 x hx
theorem rr_lvs (lv' : List (Nat × Value)) (hs : lv'.map (fun q => rr_get lv q.1) = lv'.map (fun q => some q.2)) (k : rr_A own cc nL rt kd R Q kc ks pc lv' st h) : rr_A own cc nL rt kd R Q kc ks pc lv st h := by
  intro p l e s m args below meth c E A Qf w0 hC hret H locs ws ls l0 st' hW hS hle hl hlr hst
  have hsub : rr_sub lv lv' := by
    have : ∀ (t : List (Nat × Value)), t.map (fun q => rr_get lv q.1) = t.map (fun q => some q.2) → ∀ q ∈ t, rr_get lv q.1 = some q.2 := by
      intro t
      induction t with
      | nil => intro _ q hq; cases hq
      | cons a t ih =>
        intro he q hq
        rw [List.map_cons, List.map_cons, List.cons.injEq] at he
        rcases List.mem_cons.mp hq with rfl | hq
        · exact he.1
        · exact ih he.2 q hq
    exact this lv' hs
  obtain ⟨l1, g1, g2⟩ := rr_lv_mk hl hlr lv' hsub
  exact k p l e s m args below meth c E A Qf w0 hC hret H locs ws ls l1 st' hW hS hle g1 g2 hst
/-- the same state otherwise written -/
theorem rr_to (pc' : Nat) (lv' : List (Nat × Value)) (st' : List Value) (h' : rr_H) (k : rr_A own cc nL rt kd R Q kc ks pc' lv' st' h') (e1 : pc = pc' := by rfl) (e2 : lv = lv' := by rfl) (e3 : st = st' := by rfl) (e4 : h = h' := by rfl) : rr_A own cc nL rt kd R Q kc ks pc lv st h := by
  subst e1; subst e2; subst e3; subst e4; exact k
theorem rr_weak {Q' : Option Value → rr_H → Prop} (hq : ∀ r g, Q' r g → Q r g) (k : rr_A own cc nL rt kd R Q' kc ks pc lv st h) : rr_A own cc nL rt kd R Q kc ks pc lv st h := by
  intro p l e s m args below meth c E A Qf w0 hC hret
  exact k p l e s m args below meth c E A Qf w0 hC (fun r r' h' us H locs pc' ls a b => hret r r' h' us H locs pc' ls a (hq r h' b))
theorem rr_widen {kc' ks' : Nat} (h1 : kc ≤ kc') (h2 : ks ≤ ks') (k : rr_A own cc nL rt kd R Q kc' ks' pc lv st h) : rr_A own cc nL rt kd R Q kc ks pc lv st h := by
  intro p l e s m args below meth c E A Qf w0 hC hret H locs ws ls l0 st' hW hS hle hl hlr hst
  exact W.widen h1 h2 (k p l e s m args below meth c E A Qf w0 hC hret H locs ws ls l0 st' hW hS hle hl hlr hst)
theorem rr_iconst {n : Int} (v : Int32) (hd : decode cc pc = .ok (.iconst n, 1)) (hv : Int32.ofInt n = v) (k : rr_A own cc nL rt kd R Q kc ks (pc + 1) lv (.int v :: st) h) : rr_A own cc nL rt kd R Q kc ks pc lv st h := by
  intro p l e s m args below meth c E A Qf w0 hC hret H locs ws ls l0 st' hW hS hle hl hlr hst
  obtain ⟨hx, hb, hr, hml, hown, hts, hlk, hin, hSt, hA⟩ := id hC
  exact lv_iconst hx hb hd hv (k p l e s m args below meth c E A Qf w0 hC hret H locs ws ls l0 _ hW hS hle hl hlr ⟨_, _, rfl, rfl, hst⟩)
theorem rr_bipush {n : Int} (v : Int32) (hd : decode cc pc = .ok (.bipush n, 2)) (hv : (Int8.ofInt n).toInt32 = v) (k : rr_A own cc nL rt kd R Q kc ks (pc + 2) lv (.int v :: st) h) : rr_A own cc nL rt kd R Q kc ks pc lv st h := by
  intro p l e s m args below meth c E A Qf w0 hC hret H locs ws ls l0 st' hW hS hle hl hlr hst
  obtain ⟨hx, hb, hr, hml, hown, hts, hlk, hin, hSt, hA⟩ := id hC
  exact lv_bipush hx hb hd hv (k p l e s m args below meth c E A Qf w0 hC hret H locs ws ls l0 _ hW hS hle hl hlr ⟨_, _, rfl, rfl, hst⟩)
theorem rr_sipush {n : Int} (v : Int32) (hd : decode cc pc = .ok (.sipush n, 3)) (hv : (Int16.ofInt n).toInt32 = v) (k : rr_A own cc nL rt kd R Q kc ks (pc + 3) lv (.int v :: st) h) : rr_A own cc nL rt kd R Q kc ks pc lv st h := by
  intro p l e s m args below meth c E A Qf w0 hC hret H locs ws ls l0 st' hW hS hle hl hlr hst
  obtain ⟨hx, hb, hr, hml, hown, hts, hlk, hin, hSt, hA⟩ := id hC
  exact lv_sipush hx hb hd hv (k p l e s m args below meth c E A Qf w0 hC hret H locs ws ls l0 _ hW hS hle hl hlr ⟨_, _, rfl, rfl, hst⟩)
theorem rr_lconst {n : Fin 2} (v : Int64) (hd : decode cc pc = .ok (.lconst n, 1)) (hv : Int64.ofNat (n : Nat) = v) (k : rr_A own cc nL rt kd R Q kc ks (pc + 1) lv (.long v :: st) h) : rr_A own cc nL rt kd R Q kc ks pc lv st h := by
  intro p l e s m args below meth c E A Qf w0 hC hret H locs ws ls l0 st' hW hS hle hl hlr hst
  obtain ⟨hx, hb, hr, hml, hown, hts, hlk, hin, hSt, hA⟩ := id hC
  exact lv_lconst hx hb hd hv (k p l e s m args below meth c E A Qf w0 hC hret H locs ws ls l0 _ hW hS hle hl hlr ⟨_, _, rfl, rfl, hst⟩)
theorem rr_null  (hd : decode cc pc = .ok (.aconst_null, 1))  (k : rr_A own cc nL rt kd R Q kc ks (pc + 1) lv (.null :: st) h) : rr_A own cc nL rt kd R Q kc ks pc lv st h := by
  intro p l e s m args below meth c E A Qf w0 hC hret H locs ws ls l0 st' hW hS hle hl hlr hst
  obtain ⟨hx, hb, hr, hml, hown, hts, hlk, hin, hSt, hA⟩ := id hC
  exact lv_null hx hb hd (k p l e s m args below meth c E A Qf w0 hC hret H locs ws ls l0 _ hW hS hle hl hlr ⟨_, _, rfl, rfl, hst⟩)
theorem rr_iload_n {j : Fin 4} {i : Nat} {x : Int32} (hd : decode cc pc = .ok (.iload_n j, 1)) (hi : (j : Nat) = i) (hg : rr_get lv i = some (.int x)) (k : rr_A own cc nL rt kd R Q kc ks (pc + 1) lv (.int x :: st) h) : rr_A own cc nL rt kd R Q kc ks pc lv st h := by
  intro p l e s m args below meth c E A Qf w0 hC hret H locs ws ls l0 st' hW hS hle hl hlr hst
  obtain ⟨hx, hb, hr, hml, hown, hts, hlk, hin, hSt, hA⟩ := id hC
  obtain ⟨w, h1, h2⟩ := rr_get_at hl hlr hg
  rw [show w = .int x from h2] at h1
  exact lv_iload_n hx hb hd hi h1 (k p l e s m args below meth c E A Qf w0 hC hret H locs ws ls l0 _ hW hS hle hl hlr ⟨_, _, rfl, rfl, hst⟩)
theorem rr_iload {i : Nat} {x : Int32} (hd : decode cc pc = .ok (.iload i, 2)) (hg : rr_get lv i = some (.int x)) (k : rr_A own cc nL rt kd R Q kc ks (pc + 2) lv (.int x :: st) h) : rr_A own cc nL rt kd R Q kc ks pc lv st h := by
  intro p l e s m args below meth c E A Qf w0 hC hret H locs ws ls l0 st' hW hS hle hl hlr hst
  obtain ⟨hx, hb, hr, hml, hown, hts, hlk, hin, hSt, hA⟩ := id hC
  obtain ⟨w, h1, h2⟩ := rr_get_at hl hlr hg
  rw [show w = .int x from h2] at h1
  exact lv_iload hx hb hd h1 (k p l e s m args below meth c E A Qf w0 hC hret H locs ws ls l0 _ hW hS hle hl hlr ⟨_, _, rfl, rfl, hst⟩)
theorem rr_lload_n {j : Fin 4} {i : Nat} {x : Int64} (hd : decode cc pc = .ok (.lload_n j, 1)) (hi : (j : Nat) = i) (hg : rr_get lv i = some (.long x)) (k : rr_A own cc nL rt kd R Q kc ks (pc + 1) lv (.long x :: st) h) : rr_A own cc nL rt kd R Q kc ks pc lv st h := by
  intro p l e s m args below meth c E A Qf w0 hC hret H locs ws ls l0 st' hW hS hle hl hlr hst
  obtain ⟨hx, hb, hr, hml, hown, hts, hlk, hin, hSt, hA⟩ := id hC
  obtain ⟨w, h1, h2⟩ := rr_get_at hl hlr hg
  rw [show w = .long x from h2] at h1
  exact lv_lload_n hx hb hd hi h1 (k p l e s m args below meth c E A Qf w0 hC hret H locs ws ls l0 _ hW hS hle hl hlr ⟨_, _, rfl, rfl, hst⟩)
theorem rr_lload {i : Nat} {x : Int64} (hd : decode cc pc = .ok (.lload i, 2)) (hg : rr_get lv i = some (.long x)) (k : rr_A own cc nL rt kd R Q kc ks (pc + 2) lv (.long x :: st) h) : rr_A own cc nL rt kd R Q kc ks pc lv st h := by
  intro p l e s m args below meth c E A Qf w0 hC hret H locs ws ls l0 st' hW hS hle hl hlr hst
  obtain ⟨hx, hb, hr, hml, hown, hts, hlk, hin, hSt, hA⟩ := id hC
  obtain ⟨w, h1, h2⟩ := rr_get_at hl hlr hg
  rw [show w = .long x from h2] at h1
  exact lv_lload hx hb hd h1 (k p l e s m args below meth c E A Qf w0 hC hret H locs ws ls l0 _ hW hS hle hl hlr ⟨_, _, rfl, rfl, hst⟩)
theorem rr_refv {E : rr_E} {ws : va_W} {i : Nat} {w : Value} (h : rr_v E ws (.ref i) w) : ∃ a, w = .ref a := by
  unfold rr_v at h
  dsimp only at h
  split at h
  · obtain ⟨a, e, -, h2⟩ := h
    exact ⟨a, h2⟩
  · exact ⟨_, h⟩
theorem rr_aload_n {j : Fin 4} {i x : Nat} (hd : decode cc pc = .ok (.aload_n j, 1)) (hi : (j : Nat) = i) (hg : rr_get lv i = some (.ref x)) (k : rr_A own cc nL rt kd R Q kc ks (pc + 1) lv (.ref x :: st) h) : rr_A own cc nL rt kd R Q kc ks pc lv st h := by
  intro p l e s m args below meth c E A Qf w0 hC hret H locs ws ls l0 st' hW hS hle hl hlr hst
  obtain ⟨hx, hb, hr, hml, hown, hts, hlk, hin, hSt, hA⟩ := id hC
  obtain ⟨w, h1, h2⟩ := rr_get_at hl hlr hg
  obtain ⟨a, rfl⟩ := rr_refv h2
  exact lv_aload_n hx hb hd hi h1 (k p l e s m args below meth c E A Qf w0 hC hret H locs ws ls l0 _ hW hS hle hl hlr ⟨_, _, rfl, h2, hst⟩)
theorem rr_aload {i x : Nat} (hd : decode cc pc = .ok (.aload i, 2)) (hg : rr_get lv i = some (.ref x)) (k : rr_A own cc nL rt kd R Q kc ks (pc + 2) lv (.ref x :: st) h) : rr_A own cc nL rt kd R Q kc ks pc lv st h := by
  intro p l e s m args below meth c E A Qf w0 hC hret H locs ws ls l0 st' hW hS hle hl hlr hst
  obtain ⟨hx, hb, hr, hml, hown, hts, hlk, hin, hSt, hA⟩ := id hC
  obtain ⟨w, h1, h2⟩ := rr_get_at hl hlr hg
  obtain ⟨a, rfl⟩ := rr_refv h2
  exact lv_aload hx hb hd h1 (k p l e s m args below meth c E A Qf w0 hC hret H locs ws ls l0 _ hW hS hle hl hlr ⟨_, _, rfl, h2, hst⟩)
theorem rr_istore_n {j : Fin 4} {i : Nat} {x : Int32} (hd : decode cc pc = .ok (.istore_n j, 1)) (hi : (j : Nat) = i) (hn : i < nL) (k : rr_A own cc nL rt kd R Q kc ks (pc + 1) (rr_put lv i (.int x)) st h) : rr_A own cc nL rt kd R Q kc ks pc lv (.int x :: st) h := by
  intro p l e s m args below meth c E A Qf w0 hC hret H locs ws ls l0 st' hW hS hle hl hlr hst
  obtain ⟨hx, hb, hr, hml, hown, hts, hlk, hin, hSt, hA⟩ := id hC
  obtain ⟨w, u, rfl, hw, hu⟩ := hst
  obtain rfl : w = .int x := hw
  exact lv_istore_n hx hb hd hi hl hn rfl (fun ls' hl' => k p l e s m args below meth c E A Qf w0 hC hret H locs ws ls' _ _ hW hS hle hl' ⟨_, _, rfl, rfl, rr_ls.fil (rr_p1 i) hlr⟩ hu)
theorem rr_istore {i : Nat} {x : Int32} (hd : decode cc pc = .ok (.istore i, 2)) (hn : i < nL) (k : rr_A own cc nL rt kd R Q kc ks (pc + 2) (rr_put lv i (.int x)) st h) : rr_A own cc nL rt kd R Q kc ks pc lv (.int x :: st) h := by
  intro p l e s m args below meth c E A Qf w0 hC hret H locs ws ls l0 st' hW hS hle hl hlr hst
  obtain ⟨hx, hb, hr, hml, hown, hts, hlk, hin, hSt, hA⟩ := id hC
  obtain ⟨w, u, rfl, hw, hu⟩ := hst
  obtain rfl : w = .int x := hw
  exact lv_istore hx hb hd hl hn rfl (fun ls' hl' => k p l e s m args below meth c E A Qf w0 hC hret H locs ws ls' _ _ hW hS hle hl' ⟨_, _, rfl, rfl, rr_ls.fil (rr_p1 i) hlr⟩ hu)
theorem rr_astore_n {j : Fin 4} {i : Nat} {x : Nat} (hd : decode cc pc = .ok (.astore_n j, 1)) (hi : (j : Nat) = i) (hn : i < nL) (k : rr_A own cc nL rt kd R Q kc ks (pc + 1) (rr_put lv i (.ref x)) st h) : rr_A own cc nL rt kd R Q kc ks pc lv (.ref x :: st) h := by
  intro p l e s m args below meth c E A Qf w0 hC hret H locs ws ls l0 st' hW hS hle hl hlr hst
  obtain ⟨hx, hb, hr, hml, hown, hts, hlk, hin, hSt, hA⟩ := id hC
  obtain ⟨w, u, rfl, hw, hu⟩ := hst
  obtain ⟨a, rfl⟩ := rr_refv hw
  exact lv_astore_n hx hb hd hi hl hn rfl (fun ls' hl' => k p l e s m args below meth c E A Qf w0 hC hret H locs ws ls' _ _ hW hS hle hl' ⟨_, _, rfl, hw, rr_ls.fil (rr_p1 i) hlr⟩ hu)
theorem rr_astore {i : Nat} {x : Nat} (hd : decode cc pc = .ok (.astore i, 2)) (hn : i < nL) (k : rr_A own cc nL rt kd R Q kc ks (pc + 2) (rr_put lv i (.ref x)) st h) : rr_A own cc nL rt kd R Q kc ks pc lv (.ref x :: st) h := by
  intro p l e s m args below meth c E A Qf w0 hC hret H locs ws ls l0 st' hW hS hle hl hlr hst
  obtain ⟨hx, hb, hr, hml, hown, hts, hlk, hin, hSt, hA⟩ := id hC
  obtain ⟨w, u, rfl, hw, hu⟩ := hst
  obtain ⟨a, rfl⟩ := rr_refv hw
  exact lv_astore hx hb hd hl hn rfl (fun ls' hl' => k p l e s m args below meth c E A Qf w0 hC hret H locs ws ls' _ _ hW hS hle hl' ⟨_, _, rfl, hw, rr_ls.fil (rr_p1 i) hlr⟩ hu)
theorem rr_lstore_n {j : Fin 4} {i : Nat} {x : Int64} (hd : decode cc pc = .ok (.lstore_n j, 1)) (hi : (j : Nat) = i) (hn : i + 1 < nL) (k : rr_A own cc nL rt kd R Q kc ks (pc + 1) (rr_put2 lv i (.long x)) st h) : rr_A own cc nL rt kd R Q kc ks pc lv (.long x :: st) h := by
  intro p l e s m args below meth c E A Qf w0 hC hret H locs ws ls l0 st' hW hS hle hl hlr hst
  obtain ⟨hx, hb, hr, hml, hown, hts, hlk, hin, hSt, hA⟩ := id hC
  obtain ⟨w, u, rfl, hw, hu⟩ := hst
  obtain rfl : w = .long x := hw
  exact lv_lstore_n hx hb hd hi hl hn rfl (fun ls' hl' => k p l e s m args below meth c E A Qf w0 hC hret H locs ws ls' _ _ hW hS hle hl' ⟨_, _, rfl, rfl, rr_ls.fil (rr_p2 i) hlr⟩ hu)
theorem rr_lstore {i : Nat} {x : Int64} (hd : decode cc pc = .ok (.lstore i, 2)) (hn : i + 1 < nL) (k : rr_A own cc nL rt kd R Q kc ks (pc + 2) (rr_put2 lv i (.long x)) st h) : rr_A own cc nL rt kd R Q kc ks pc lv (.long x :: st) h := by
  intro p l e s m args below meth c E A Qf w0 hC hret H locs ws ls l0 st' hW hS hle hl hlr hst
  obtain ⟨hx, hb, hr, hml, hown, hts, hlk, hin, hSt, hA⟩ := id hC
  obtain ⟨w, u, rfl, hw, hu⟩ := hst
  obtain rfl : w = .long x := hw
  exact lv_lstore hx hb hd hl hn rfl (fun ls' hl' => k p l e s m args below meth c E A Qf w0 hC hret H locs ws ls' _ _ hW hS hle hl' ⟨_, _, rfl, rfl, rr_ls.fil (rr_p2 i) hlr⟩ hu)
theorem rr_iadd {x : Int32} {y : Int32} (hd : decode cc pc = .ok (.iadd, 1))  (k : rr_A own cc nL rt kd R Q kc ks (pc + 1) lv (.int (x + y) :: st) h) : rr_A own cc nL rt kd R Q kc ks pc lv (.int y :: .int x :: st) h := by
  intro p l e s m args below meth c E A Qf w0 hC hret H locs ws ls l0 st' hW hS hle hl hlr hst
  obtain ⟨hx, hb, hr, hml, hown, hts, hlk, hin, hSt, hA⟩ := id hC
  obtain ⟨w, u, rfl, hw, hu⟩ := hst
  obtain ⟨w2, u2, rfl, hw2, hu2⟩ := hu
  obtain rfl : w = .int y := hw
  obtain rfl : w2 = .int x := hw2
  exact lv_iadd hx hb hd  (k p l e s m args below meth c E A Qf w0 hC hret H locs ws ls l0 _ hW hS hle hl hlr ⟨_, _, rfl, rfl, hu2⟩)
theorem rr_isub {x : Int32} {y : Int32} (hd : decode cc pc = .ok (.isub, 1))  (k : rr_A own cc nL rt kd R Q kc ks (pc + 1) lv (.int (x - y) :: st) h) : rr_A own cc nL rt kd R Q kc ks pc lv (.int y :: .int x :: st) h := by
  intro p l e s m args below meth c E A Qf w0 hC hret H locs ws ls l0 st' hW hS hle hl hlr hst
  obtain ⟨hx, hb, hr, hml, hown, hts, hlk, hin, hSt, hA⟩ := id hC
  obtain ⟨w, u, rfl, hw, hu⟩ := hst
  obtain ⟨w2, u2, rfl, hw2, hu2⟩ := hu
  obtain rfl : w = .int y := hw
  obtain rfl : w2 = .int x := hw2
  exact lv_isub hx hb hd  (k p l e s m args below meth c E A Qf w0 hC hret H locs ws ls l0 _ hW hS hle hl hlr ⟨_, _, rfl, rfl, hu2⟩)
theorem rr_imul {x : Int32} {y : Int32} (hd : decode cc pc = .ok (.imul, 1))  (k : rr_A own cc nL rt kd R Q kc ks (pc + 1) lv (.int (x * y) :: st) h) : rr_A own cc nL rt kd R Q kc ks pc lv (.int y :: .int x :: st) h := by
  intro p l e s m args below meth c E A Qf w0 hC hret H locs ws ls l0 st' hW hS hle hl hlr hst
  obtain ⟨hx, hb, hr, hml, hown, hts, hlk, hin, hSt, hA⟩ := id hC
  obtain ⟨w, u, rfl, hw, hu⟩ := hst
  obtain ⟨w2, u2, rfl, hw2, hu2⟩ := hu
  obtain rfl : w = .int y := hw
  obtain rfl : w2 = .int x := hw2
  exact lv_imul hx hb hd  (k p l e s m args below meth c E A Qf w0 hC hret H locs ws ls l0 _ hW hS hle hl hlr ⟨_, _, rfl, rfl, hu2⟩)
theorem rr_iand {x : Int32} {y : Int32} (hd : decode cc pc = .ok (.iand, 1))  (k : rr_A own cc nL rt kd R Q kc ks (pc + 1) lv (.int (x &&& y) :: st) h) : rr_A own cc nL rt kd R Q kc ks pc lv (.int y :: .int x :: st) h := by
  intro p l e s m args below meth c E A Qf w0 hC hret H locs ws ls l0 st' hW hS hle hl hlr hst
  obtain ⟨hx, hb, hr, hml, hown, hts, hlk, hin, hSt, hA⟩ := id hC
  obtain ⟨w, u, rfl, hw, hu⟩ := hst
  obtain ⟨w2, u2, rfl, hw2, hu2⟩ := hu
  obtain rfl : w = .int y := hw
  obtain rfl : w2 = .int x := hw2
  exact lv_iand hx hb hd  (k p l e s m args below meth c E A Qf w0 hC hret H locs ws ls l0 _ hW hS hle hl hlr ⟨_, _, rfl, rfl, hu2⟩)
theorem rr_ior {x : Int32} {y : Int32} (hd : decode cc pc = .ok (.ior, 1))  (k : rr_A own cc nL rt kd R Q kc ks (pc + 1) lv (.int (x ||| y) :: st) h) : rr_A own cc nL rt kd R Q kc ks pc lv (.int y :: .int x :: st) h := by
  intro p l e s m args below meth c E A Qf w0 hC hret H locs ws ls l0 st' hW hS hle hl hlr hst
  obtain ⟨hx, hb, hr, hml, hown, hts, hlk, hin, hSt, hA⟩ := id hC
  obtain ⟨w, u, rfl, hw, hu⟩ := hst
  obtain ⟨w2, u2, rfl, hw2, hu2⟩ := hu
  obtain rfl : w = .int y := hw
  obtain rfl : w2 = .int x := hw2
  exact lv_ior hx hb hd  (k p l e s m args below meth c E A Qf w0 hC hret H locs ws ls l0 _ hW hS hle hl hlr ⟨_, _, rfl, rfl, hu2⟩)
theorem rr_ixor {x : Int32} {y : Int32} (hd : decode cc pc = .ok (.ixor, 1))  (k : rr_A own cc nL rt kd R Q kc ks (pc + 1) lv (.int (x ^^^ y) :: st) h) : rr_A own cc nL rt kd R Q kc ks pc lv (.int y :: .int x :: st) h := by
  intro p l e s m args below meth c E A Qf w0 hC hret H locs ws ls l0 st' hW hS hle hl hlr hst
  obtain ⟨hx, hb, hr, hml, hown, hts, hlk, hin, hSt, hA⟩ := id hC
  obtain ⟨w, u, rfl, hw, hu⟩ := hst
  obtain ⟨w2, u2, rfl, hw2, hu2⟩ := hu
  obtain rfl : w = .int y := hw
  obtain rfl : w2 = .int x := hw2
  exact lv_ixor hx hb hd  (k p l e s m args below meth c E A Qf w0 hC hret H locs ws ls l0 _ hW hS hle hl hlr ⟨_, _, rfl, rfl, hu2⟩)
theorem rr_ishl {x : Int32} {y : Int32} (hd : decode cc pc = .ok (.ishl, 1))  (k : rr_A own cc nL rt kd R Q kc ks (pc + 1) lv (.int (x <<< (y &&& 31)) :: st) h) : rr_A own cc nL rt kd R Q kc ks pc lv (.int y :: .int x :: st) h := by
  intro p l e s m args below meth c E A Qf w0 hC hret H locs ws ls l0 st' hW hS hle hl hlr hst
  obtain ⟨hx, hb, hr, hml, hown, hts, hlk, hin, hSt, hA⟩ := id hC
  obtain ⟨w, u, rfl, hw, hu⟩ := hst
  obtain ⟨w2, u2, rfl, hw2, hu2⟩ := hu
  obtain rfl : w = .int y := hw
  obtain rfl : w2 = .int x := hw2
  exact lv_ishl hx hb hd  (k p l e s m args below meth c E A Qf w0 hC hret H locs ws ls l0 _ hW hS hle hl hlr ⟨_, _, rfl, rfl, hu2⟩)
theorem rr_ishr {x : Int32} {y : Int32} (hd : decode cc pc = .ok (.ishr, 1))  (k : rr_A own cc nL rt kd R Q kc ks (pc + 1) lv (.int (x >>> (y &&& 31)) :: st) h) : rr_A own cc nL rt kd R Q kc ks pc lv (.int y :: .int x :: st) h := by
  intro p l e s m args below meth c E A Qf w0 hC hret H locs ws ls l0 st' hW hS hle hl hlr hst
  obtain ⟨hx, hb, hr, hml, hown, hts, hlk, hin, hSt, hA⟩ := id hC
  obtain ⟨w, u, rfl, hw, hu⟩ := hst
  obtain ⟨w2, u2, rfl, hw2, hu2⟩ := hu
  obtain rfl : w = .int y := hw
  obtain rfl : w2 = .int x := hw2
  exact lv_ishr hx hb hd  (k p l e s m args below meth c E A Qf w0 hC hret H locs ws ls l0 _ hW hS hle hl hlr ⟨_, _, rfl, rfl, hu2⟩)
theorem rr_ladd {x : Int64} {y : Int64} (hd : decode cc pc = .ok (.ladd, 1))  (k : rr_A own cc nL rt kd R Q kc ks (pc + 1) lv (.long (x + y) :: st) h) : rr_A own cc nL rt kd R Q kc ks pc lv (.long y :: .long x :: st) h := by
  intro p l e s m args below meth c E A Qf w0 hC hret H locs ws ls l0 st' hW hS hle hl hlr hst
  obtain ⟨hx, hb, hr, hml, hown, hts, hlk, hin, hSt, hA⟩ := id hC
  obtain ⟨w, u, rfl, hw, hu⟩ := hst
  obtain ⟨w2, u2, rfl, hw2, hu2⟩ := hu
  obtain rfl : w = .long y := hw
  obtain rfl : w2 = .long x := hw2
  exact lv_ladd hx hb hd  (k p l e s m args below meth c E A Qf w0 hC hret H locs ws ls l0 _ hW hS hle hl hlr ⟨_, _, rfl, rfl, hu2⟩)
theorem rr_lsub {x : Int64} {y : Int64} (hd : decode cc pc = .ok (.lsub, 1))  (k : rr_A own cc nL rt kd R Q kc ks (pc + 1) lv (.long (x - y) :: st) h) : rr_A own cc nL rt kd R Q kc ks pc lv (.long y :: .long x :: st) h := by
  intro p l e s m args below meth c E A Qf w0 hC hret H locs ws ls l0 st' hW hS hle hl hlr hst
  obtain ⟨hx, hb, hr, hml, hown, hts, hlk, hin, hSt, hA⟩ := id hC
  obtain ⟨w, u, rfl, hw, hu⟩ := hst
  obtain ⟨w2, u2, rfl, hw2, hu2⟩ := hu
  obtain rfl : w = .long y := hw
  obtain rfl : w2 = .long x := hw2
  exact lv_lsub hx hb hd  (k p l e s m args below meth c E A Qf w0 hC hret H locs ws ls l0 _ hW hS hle hl hlr ⟨_, _, rfl, rfl, hu2⟩)
theorem rr_lmul {x : Int64} {y : Int64} (hd : decode cc pc = .ok (.lmul, 1))  (k : rr_A own cc nL rt kd R Q kc ks (pc + 1) lv (.long (x * y) :: st) h) : rr_A own cc nL rt kd R Q kc ks pc lv (.long y :: .long x :: st) h := by
  intro p l e s m args below meth c E A Qf w0 hC hret H locs ws ls l0 st' hW hS hle hl hlr hst
  obtain ⟨hx, hb, hr, hml, hown, hts, hlk, hin, hSt, hA⟩ := id hC
  obtain ⟨w, u, rfl, hw, hu⟩ := hst
  obtain ⟨w2, u2, rfl, hw2, hu2⟩ := hu
  obtain rfl : w = .long y := hw
  obtain rfl : w2 = .long x := hw2
  exact lv_lmul hx hb hd  (k p l e s m args below meth c E A Qf w0 hC hret H locs ws ls l0 _ hW hS hle hl hlr ⟨_, _, rfl, rfl, hu2⟩)
theorem rr_idiv {x : Int32} {y : Int32} (hd : decode cc pc = .ok (.idiv, 1)) (hne : ¬ y = 0) (k : rr_A own cc nL rt kd R Q kc ks (pc + 1) lv (.int (x / y) :: st) h) : rr_A own cc nL rt kd R Q kc ks pc lv (.int y :: .int x :: st) h := by
  intro p l e s m args below meth c E A Qf w0 hC hret H locs ws ls l0 st' hW hS hle hl hlr hst
  obtain ⟨hx, hb, hr, hml, hown, hts, hlk, hin, hSt, hA⟩ := id hC
  obtain ⟨w, u, rfl, hw, hu⟩ := hst
  obtain ⟨w2, u2, rfl, hw2, hu2⟩ := hu
  obtain rfl : w = .int y := hw
  obtain rfl : w2 = .int x := hw2
  exact lv_idiv hx hb hd hne (k p l e s m args below meth c E A Qf w0 hC hret H locs ws ls l0 _ hW hS hle hl hlr ⟨_, _, rfl, rfl, hu2⟩)
theorem rr_irem {x : Int32} {y : Int32} (hd : decode cc pc = .ok (.irem, 1)) (hne : ¬ y = 0) (k : rr_A own cc nL rt kd R Q kc ks (pc + 1) lv (.int (x - x / y * y) :: st) h) : rr_A own cc nL rt kd R Q kc ks pc lv (.int y :: .int x :: st) h := by
  intro p l e s m args below meth c E A Qf w0 hC hret H locs ws ls l0 st' hW hS hle hl hlr hst
  obtain ⟨hx, hb, hr, hml, hown, hts, hlk, hin, hSt, hA⟩ := id hC
  obtain ⟨w, u, rfl, hw, hu⟩ := hst
  obtain ⟨w2, u2, rfl, hw2, hu2⟩ := hu
  obtain rfl : w = .int y := hw
  obtain rfl : w2 = .int x := hw2
  exact lv_irem hx hb hd hne (k p l e s m args below meth c E A Qf w0 hC hret H locs ws ls l0 _ hW hS hle hl hlr ⟨_, _, rfl, rfl, hu2⟩)
theorem rr_i2l {x : Int32} (hd : decode cc pc = .ok (.i2l, 1)) (k : rr_A own cc nL rt kd R Q kc ks (pc + 1) lv (.long (x.toInt64) :: st) h) : rr_A own cc nL rt kd R Q kc ks pc lv (.int x :: st) h := by
  intro p l e s m args below meth c E A Qf w0 hC hret H locs ws ls l0 st' hW hS hle hl hlr hst
  obtain ⟨hx, hb, hr, hml, hown, hts, hlk, hin, hSt, hA⟩ := id hC
  obtain ⟨w, u, rfl, hw, hu⟩ := hst
  obtain rfl : w = .int x := hw
  exact lv_i2l hx hb hd rfl (k p l e s m args below meth c E A Qf w0 hC hret H locs ws ls l0 _ hW hS hle hl hlr ⟨_, _, rfl, rfl, hu⟩)
theorem rr_l2i {x : Int64} (hd : decode cc pc = .ok (.l2i, 1)) (k : rr_A own cc nL rt kd R Q kc ks (pc + 1) lv (.int (x.toInt32) :: st) h) : rr_A own cc nL rt kd R Q kc ks pc lv (.long x :: st) h := by
  intro p l e s m args below meth c E A Qf w0 hC hret H locs ws ls l0 st' hW hS hle hl hlr hst
  obtain ⟨hx, hb, hr, hml, hown, hts, hlk, hin, hSt, hA⟩ := id hC
  obtain ⟨w, u, rfl, hw, hu⟩ := hst
  obtain rfl : w = .long x := hw
  exact lv_l2i hx hb hd rfl (k p l e s m args below meth c E A Qf w0 hC hret H locs ws ls l0 _ hW hS hle hl hlr ⟨_, _, rfl, rfl, hu⟩)
theorem rr_i2b {x : Int32} (hd : decode cc pc = .ok (.i2b, 1)) (k : rr_A own cc nL rt kd R Q kc ks (pc + 1) lv (.int (x.toInt8.toInt32) :: st) h) : rr_A own cc nL rt kd R Q kc ks pc lv (.int x :: st) h := by
  intro p l e s m args below meth c E A Qf w0 hC hret H locs ws ls l0 st' hW hS hle hl hlr hst
  obtain ⟨hx, hb, hr, hml, hown, hts, hlk, hin, hSt, hA⟩ := id hC
  obtain ⟨w, u, rfl, hw, hu⟩ := hst
  obtain rfl : w = .int x := hw
  exact lv_i2b hx hb hd rfl (k p l e s m args below meth c E A Qf w0 hC hret H locs ws ls l0 _ hW hS hle hl hlr ⟨_, _, rfl, rfl, hu⟩)
theorem rr_i2c {x : Int32} (hd : decode cc pc = .ok (.i2c, 1)) (k : rr_A own cc nL rt kd R Q kc ks (pc + 1) lv (.int ((x.toUInt32 % 65536).toInt32) :: st) h) : rr_A own cc nL rt kd R Q kc ks pc lv (.int x :: st) h := by
  intro p l e s m args below meth c E A Qf w0 hC hret H locs ws ls l0 st' hW hS hle hl hlr hst
  obtain ⟨hx, hb, hr, hml, hown, hts, hlk, hin, hSt, hA⟩ := id hC
  obtain ⟨w, u, rfl, hw, hu⟩ := hst
  obtain rfl : w = .int x := hw
  exact lv_i2c hx hb hd rfl (k p l e s m args below meth c E A Qf w0 hC hret H locs ws ls l0 _ hW hS hle hl hlr ⟨_, _, rfl, rfl, hu⟩)
theorem rr_dup {v : Value} (hd : decode cc pc = .ok (.dup, 1)) (hc : v.category = 1) (k : rr_A own cc nL rt kd R Q kc ks (pc + 1) lv (v :: v :: st) h) : rr_A own cc nL rt kd R Q kc ks pc lv (v :: st) h := by
  intro p l e s m args below meth c E A Qf w0 hC hret H locs ws ls l0 st' hW hS hle hl hlr hst
  obtain ⟨hx, hb, hr, hml, hown, hts, hlk, hin, hSt, hA⟩ := id hC
  obtain ⟨w, u, rfl, hw, hu⟩ := hst
  exact lv_dup hx hb hd (hw.cat.trans hc) (k p l e s m args below meth c E A Qf w0 hC hret H locs ws ls l0 _ hW hS hle hl hlr ⟨_, _, rfl, hw, _, _, rfl, hw, hu⟩)
theorem rr_pop {v : Value} (hd : decode cc pc = .ok (.pop, 1)) (hc : v.category = 1) (k : rr_A own cc nL rt kd R Q kc ks (pc + 1) lv st h) : rr_A own cc nL rt kd R Q kc ks pc lv (v :: st) h := by
  intro p l e s m args below meth c E A Qf w0 hC hret H locs ws ls l0 st' hW hS hle hl hlr hst
  obtain ⟨hx, hb, hr, hml, hown, hts, hlk, hin, hSt, hA⟩ := id hC
  obtain ⟨w, u, rfl, hw, hu⟩ := hst
  exact lv_pop hx hb hd (hw.cat.trans hc) (k p l e s m args below meth c E A Qf w0 hC hret H locs ws ls l0 _ hW hS hle hl hlr hu)
theorem rr_dup_x1 {v v2 : Value} (hd : decode cc pc = .ok (.dup_x1, 1)) (hc : v.category = 1) (hc2 : v2.category = 1) (k : rr_A own cc nL rt kd R Q kc ks (pc + 1) lv (v :: v2 :: v :: st) h) : rr_A own cc nL rt kd R Q kc ks pc lv (v :: v2 :: st) h := by
  intro p l e s m args below meth c E A Qf w0 hC hret H locs ws ls l0 st' hW hS hle hl hlr hst
  obtain ⟨hx, hb, hr, hml, hown, hts, hlk, hin, hSt, hA⟩ := id hC
  obtain ⟨w, u, rfl, hw, hu⟩ := hst
  obtain ⟨w2, u2, rfl, hw2, hu2⟩ := hu
  exact lv_dup_x1 hx hb hd (hw.cat.trans hc) (hw2.cat.trans hc2) (k p l e s m args below meth c E A Qf w0 hC hret H locs ws ls l0 _ hW hS hle hl hlr ⟨_, _, rfl, hw, _, _, rfl, hw2, _, _, rfl, hw, hu2⟩)
theorem rr_dup2 {v v2 : Value} (hd : decode cc pc = .ok (.dup2, 1)) (hc : v.category = 1) (hc2 : v2.category = 1) (k : rr_A own cc nL rt kd R Q kc ks (pc + 1) lv (v :: v2 :: v :: v2 :: st) h) : rr_A own cc nL rt kd R Q kc ks pc lv (v :: v2 :: st) h := by
  intro p l e s m args below meth c E A Qf w0 hC hret H locs ws ls l0 st' hW hS hle hl hlr hst
  obtain ⟨hx, hb, hr, hml, hown, hts, hlk, hin, hSt, hA⟩ := id hC
  obtain ⟨w, u, rfl, hw, hu⟩ := hst
  obtain ⟨w2, u2, rfl, hw2, hu2⟩ := hu
  exact lv_dup2_11 hx hb hd (hw.cat.trans hc) (hw2.cat.trans hc2) (k p l e s m args below meth c E A Qf w0 hC hret H locs ws ls l0 _ hW hS hle hl hlr ⟨_, _, rfl, hw, _, _, rfl, hw2, _, _, rfl, hw, _, _, rfl, hw2, hu2⟩)
theorem rr_if_eq {x : Int32} {off : Int} (tgt : Nat) (hd : decode cc pc = .ok (.ifCond .eq off, 3)) (ht : (pc : Int) + off = (tgt : Int)) (kt : x = 0 → rr_A own cc nL rt kd R Q kc ks tgt lv st h) (kf : ¬ x = 0 → rr_A own cc nL rt kd R Q kc ks (pc + 3) lv st h) : rr_A own cc nL rt kd R Q kc ks pc lv (.int x :: st) h := by
  intro p l e s m args below meth c E A Qf w0 hC hret H locs ws ls l0 st' hW hS hle hl hlr hst
  obtain ⟨hx, hb, hr, hml, hown, hts, hlk, hin, hSt, hA⟩ := id hC
  obtain ⟨w, u, rfl, hw, hu⟩ := hst
  obtain rfl : w = .int x := hw
  exact lv_if_eq hx hb hd ht (fun hq => kt hq p l e s m args below meth c E A Qf w0 hC hret H locs ws ls l0 _ hW hS hle hl hlr hu) (fun hq => kf hq p l e s m args below meth c E A Qf w0 hC hret H locs ws ls l0 _ hW hS hle hl hlr hu)
theorem rr_if_ne {x : Int32} {off : Int} (tgt : Nat) (hd : decode cc pc = .ok (.ifCond .ne off, 3)) (ht : (pc : Int) + off = (tgt : Int)) (kt : ¬ x = 0 → rr_A own cc nL rt kd R Q kc ks tgt lv st h) (kf : x = 0 → rr_A own cc nL rt kd R Q kc ks (pc + 3) lv st h) : rr_A own cc nL rt kd R Q kc ks pc lv (.int x :: st) h := by
  intro p l e s m args below meth c E A Qf w0 hC hret H locs ws ls l0 st' hW hS hle hl hlr hst
  obtain ⟨hx, hb, hr, hml, hown, hts, hlk, hin, hSt, hA⟩ := id hC
  obtain ⟨w, u, rfl, hw, hu⟩ := hst
  obtain rfl : w = .int x := hw
  exact lv_if_ne hx hb hd ht (fun hq => kt hq p l e s m args below meth c E A Qf w0 hC hret H locs ws ls l0 _ hW hS hle hl hlr hu) (fun hq => kf hq p l e s m args below meth c E A Qf w0 hC hret H locs ws ls l0 _ hW hS hle hl hlr hu)
theorem rr_if_lt {x : Int32} {off : Int} (tgt : Nat) (hd : decode cc pc = .ok (.ifCond .lt off, 3)) (ht : (pc : Int) + off = (tgt : Int)) (kt : x < 0 → rr_A own cc nL rt kd R Q kc ks tgt lv st h) (kf : ¬ x < 0 → rr_A own cc nL rt kd R Q kc ks (pc + 3) lv st h) : rr_A own cc nL rt kd R Q kc ks pc lv (.int x :: st) h := by
  intro p l e s m args below meth c E A Qf w0 hC hret H locs ws ls l0 st' hW hS hle hl hlr hst
  obtain ⟨hx, hb, hr, hml, hown, hts, hlk, hin, hSt, hA⟩ := id hC
  obtain ⟨w, u, rfl, hw, hu⟩ := hst
  obtain rfl : w = .int x := hw
  exact lv_if_lt hx hb hd ht (fun hq => kt hq p l e s m args below meth c E A Qf w0 hC hret H locs ws ls l0 _ hW hS hle hl hlr hu) (fun hq => kf hq p l e s m args below meth c E A Qf w0 hC hret H locs ws ls l0 _ hW hS hle hl hlr hu)
theorem rr_if_ge {x : Int32} {off : Int} (tgt : Nat) (hd : decode cc pc = .ok (.ifCond .ge off, 3)) (ht : (pc : Int) + off = (tgt : Int)) (kt : 0 ≤ x → rr_A own cc nL rt kd R Q kc ks tgt lv st h) (kf : ¬ 0 ≤ x → rr_A own cc nL rt kd R Q kc ks (pc + 3) lv st h) : rr_A own cc nL rt kd R Q kc ks pc lv (.int x :: st) h := by
  intro p l e s m args below meth c E A Qf w0 hC hret H locs ws ls l0 st' hW hS hle hl hlr hst
  obtain ⟨hx, hb, hr, hml, hown, hts, hlk, hin, hSt, hA⟩ := id hC
  obtain ⟨w, u, rfl, hw, hu⟩ := hst
  obtain rfl : w = .int x := hw
  exact lv_if_ge hx hb hd ht (fun hq => kt hq p l e s m args below meth c E A Qf w0 hC hret H locs ws ls l0 _ hW hS hle hl hlr hu) (fun hq => kf hq p l e s m args below meth c E A Qf w0 hC hret H locs ws ls l0 _ hW hS hle hl hlr hu)
theorem rr_if_gt {x : Int32} {off : Int} (tgt : Nat) (hd : decode cc pc = .ok (.ifCond .gt off, 3)) (ht : (pc : Int) + off = (tgt : Int)) (kt : 0 < x → rr_A own cc nL rt kd R Q kc ks tgt lv st h) (kf : ¬ 0 < x → rr_A own cc nL rt kd R Q kc ks (pc + 3) lv st h) : rr_A own cc nL rt kd R Q kc ks pc lv (.int x :: st) h := by
  intro p l e s m args below meth c E A Qf w0 hC hret H locs ws ls l0 st' hW hS hle hl hlr hst
  obtain ⟨hx, hb, hr, hml, hown, hts, hlk, hin, hSt, hA⟩ := id hC
  obtain ⟨w, u, rfl, hw, hu⟩ := hst
  obtain rfl : w = .int x := hw
  exact lv_if_gt hx hb hd ht (fun hq => kt hq p l e s m args below meth c E A Qf w0 hC hret H locs ws ls l0 _ hW hS hle hl hlr hu) (fun hq => kf hq p l e s m args below meth c E A Qf w0 hC hret H locs ws ls l0 _ hW hS hle hl hlr hu)
theorem rr_if_le {x : Int32} {off : Int} (tgt : Nat) (hd : decode cc pc = .ok (.ifCond .le off, 3)) (ht : (pc : Int) + off = (tgt : Int)) (kt : x ≤ 0 → rr_A own cc nL rt kd R Q kc ks tgt lv st h) (kf : ¬ x ≤ 0 → rr_A own cc nL rt kd R Q kc ks (pc + 3) lv st h) : rr_A own cc nL rt kd R Q kc ks pc lv (.int x :: st) h := by
  intro p l e s m args below meth c E A Qf w0 hC hret H locs ws ls l0 st' hW hS hle hl hlr hst
  obtain ⟨hx, hb, hr, hml, hown, hts, hlk, hin, hSt, hA⟩ := id hC
  obtain ⟨w, u, rfl, hw, hu⟩ := hst
  obtain rfl : w = .int x := hw
  exact lv_if_le hx hb hd ht (fun hq => kt hq p l e s m args below meth c E A Qf w0 hC hret H locs ws ls l0 _ hW hS hle hl hlr hu) (fun hq => kf hq p l e s m args below meth c E A Qf w0 hC hret H locs ws ls l0 _ hW hS hle hl hlr hu)
theorem rr_icmp_eq {x y : Int32} {off : Int} (tgt : Nat) (hd : decode cc pc = .ok (.if_icmp .eq off, 3)) (ht : (pc : Int) + off = (tgt : Int)) (kt : x = y → rr_A own cc nL rt kd R Q kc ks tgt lv st h) (kf : ¬ x = y → rr_A own cc nL rt kd R Q kc ks (pc + 3) lv st h) : rr_A own cc nL rt kd R Q kc ks pc lv (.int y :: .int x :: st) h := by
  intro p l e s m args below meth c E A Qf w0 hC hret H locs ws ls l0 st' hW hS hle hl hlr hst
  obtain ⟨hx, hb, hr, hml, hown, hts, hlk, hin, hSt, hA⟩ := id hC
  obtain ⟨w, u, rfl, hw, hu⟩ := hst
  obtain ⟨w2, u2, rfl, hw2, hu2⟩ := hu
  obtain rfl : w = .int y := hw
  obtain rfl : w2 = .int x := hw2
  exact lv_icmp_eq hx hb hd ht (fun hq => kt hq p l e s m args below meth c E A Qf w0 hC hret H locs ws ls l0 _ hW hS hle hl hlr hu2) (fun hq => kf hq p l e s m args below meth c E A Qf w0 hC hret H locs ws ls l0 _ hW hS hle hl hlr hu2)
theorem rr_icmp_ne {x y : Int32} {off : Int} (tgt : Nat) (hd : decode cc pc = .ok (.if_icmp .ne off, 3)) (ht : (pc : Int) + off = (tgt : Int)) (kt : ¬ x = y → rr_A own cc nL rt kd R Q kc ks tgt lv st h) (kf : x = y → rr_A own cc nL rt kd R Q kc ks (pc + 3) lv st h) : rr_A own cc nL rt kd R Q kc ks pc lv (.int y :: .int x :: st) h := by
  intro p l e s m args below meth c E A Qf w0 hC hret H locs ws ls l0 st' hW hS hle hl hlr hst
  obtain ⟨hx, hb, hr, hml, hown, hts, hlk, hin, hSt, hA⟩ := id hC
  obtain ⟨w, u, rfl, hw, hu⟩ := hst
  obtain ⟨w2, u2, rfl, hw2, hu2⟩ := hu
  obtain rfl : w = .int y := hw
  obtain rfl : w2 = .int x := hw2
  exact lv_icmp_ne hx hb hd ht (fun hq => kt hq p l e s m args below meth c E A Qf w0 hC hret H locs ws ls l0 _ hW hS hle hl hlr hu2) (fun hq => kf hq p l e s m args below meth c E A Qf w0 hC hret H locs ws ls l0 _ hW hS hle hl hlr hu2)
theorem rr_icmp_lt {x y : Int32} {off : Int} (tgt : Nat) (hd : decode cc pc = .ok (.if_icmp .lt off, 3)) (ht : (pc : Int) + off = (tgt : Int)) (kt : x < y → rr_A own cc nL rt kd R Q kc ks tgt lv st h) (kf : ¬ x < y → rr_A own cc nL rt kd R Q kc ks (pc + 3) lv st h) : rr_A own cc nL rt kd R Q kc ks pc lv (.int y :: .int x :: st) h := by
  intro p l e s m args below meth c E A Qf w0 hC hret H locs ws ls l0 st' hW hS hle hl hlr hst
  obtain ⟨hx, hb, hr, hml, hown, hts, hlk, hin, hSt, hA⟩ := id hC
  obtain ⟨w, u, rfl, hw, hu⟩ := hst
  obtain ⟨w2, u2, rfl, hw2, hu2⟩ := hu
  obtain rfl : w = .int y := hw
  obtain rfl : w2 = .int x := hw2
  exact lv_icmp_lt hx hb hd ht (fun hq => kt hq p l e s m args below meth c E A Qf w0 hC hret H locs ws ls l0 _ hW hS hle hl hlr hu2) (fun hq => kf hq p l e s m args below meth c E A Qf w0 hC hret H locs ws ls l0 _ hW hS hle hl hlr hu2)
theorem rr_icmp_ge {x y : Int32} {off : Int} (tgt : Nat) (hd : decode cc pc = .ok (.if_icmp .ge off, 3)) (ht : (pc : Int) + off = (tgt : Int)) (kt : y ≤ x → rr_A own cc nL rt kd R Q kc ks tgt lv st h) (kf : ¬ y ≤ x → rr_A own cc nL rt kd R Q kc ks (pc + 3) lv st h) : rr_A own cc nL rt kd R Q kc ks pc lv (.int y :: .int x :: st) h := by
  intro p l e s m args below meth c E A Qf w0 hC hret H locs ws ls l0 st' hW hS hle hl hlr hst
  obtain ⟨hx, hb, hr, hml, hown, hts, hlk, hin, hSt, hA⟩ := id hC
  obtain ⟨w, u, rfl, hw, hu⟩ := hst
  obtain ⟨w2, u2, rfl, hw2, hu2⟩ := hu
  obtain rfl : w = .int y := hw
  obtain rfl : w2 = .int x := hw2
  exact lv_icmp_ge hx hb hd ht (fun hq => kt hq p l e s m args below meth c E A Qf w0 hC hret H locs ws ls l0 _ hW hS hle hl hlr hu2) (fun hq => kf hq p l e s m args below meth c E A Qf w0 hC hret H locs ws ls l0 _ hW hS hle hl hlr hu2)
theorem rr_icmp_gt {x y : Int32} {off : Int} (tgt : Nat) (hd : decode cc pc = .ok (.if_icmp .gt off, 3)) (ht : (pc : Int) + off = (tgt : Int)) (kt : y < x → rr_A own cc nL rt kd R Q kc ks tgt lv st h) (kf : ¬ y < x → rr_A own cc nL rt kd R Q kc ks (pc + 3) lv st h) : rr_A own cc nL rt kd R Q kc ks pc lv (.int y :: .int x :: st) h := by
  intro p l e s m args below meth c E A Qf w0 hC hret H locs ws ls l0 st' hW hS hle hl hlr hst
  obtain ⟨hx, hb, hr, hml, hown, hts, hlk, hin, hSt, hA⟩ := id hC
  obtain ⟨w, u, rfl, hw, hu⟩ := hst
  obtain ⟨w2, u2, rfl, hw2, hu2⟩ := hu
  obtain rfl : w = .int y := hw
  obtain rfl : w2 = .int x := hw2
  exact lv_icmp_gt hx hb hd ht (fun hq => kt hq p l e s m args below meth c E A Qf w0 hC hret H locs ws ls l0 _ hW hS hle hl hlr hu2) (fun hq => kf hq p l e s m args below meth c E A Qf w0 hC hret H locs ws ls l0 _ hW hS hle hl hlr hu2)
theorem rr_icmp_le {x y : Int32} {off : Int} (tgt : Nat) (hd : decode cc pc = .ok (.if_icmp .le off, 3)) (ht : (pc : Int) + off = (tgt : Int)) (kt : x ≤ y → rr_A own cc nL rt kd R Q kc ks tgt lv st h) (kf : ¬ x ≤ y → rr_A own cc nL rt kd R Q kc ks (pc + 3) lv st h) : rr_A own cc nL rt kd R Q kc ks pc lv (.int y :: .int x :: st) h := by
  intro p l e s m args below meth c E A Qf w0 hC hret H locs ws ls l0 st' hW hS hle hl hlr hst
  obtain ⟨hx, hb, hr, hml, hown, hts, hlk, hin, hSt, hA⟩ := id hC
  obtain ⟨w, u, rfl, hw, hu⟩ := hst
  obtain ⟨w2, u2, rfl, hw2, hu2⟩ := hu
  obtain rfl : w = .int y := hw
  obtain rfl : w2 = .int x := hw2
  exact lv_icmp_le hx hb hd ht (fun hq => kt hq p l e s m args below meth c E A Qf w0 hC hret H locs ws ls l0 _ hW hS hle hl hlr hu2) (fun hq => kf hq p l e s m args below meth c E A Qf w0 hC hret H locs ws ls l0 _ hW hS hle hl hlr hu2)
theorem rr_goto {off : Int} (tgt : Nat) (hd : decode cc pc = .ok (.goto off, 3)) (ht : (pc : Int) + off = (tgt : Int)) (k : rr_A own cc nL rt kd R Q kc ks tgt lv st h) : rr_A own cc nL rt kd R Q kc ks pc lv st h := by
  intro p l e s m args below meth c E A Qf w0 hC hret H locs ws ls l0 st' hW hS hle hl hlr hst
  obtain ⟨hx, hb, hr, hml, hown, hts, hlk, hin, hSt, hA⟩ := id hC
  exact lv_goto hx hb hd ht (k p l e s m args below meth c E A Qf w0 hC hret H locs ws ls l0 _ hW hS hle hl hlr hst)
theorem rr_nonnull {x : Nat} {off : Int} (tgt : Nat) (hd : decode cc pc = .ok (.ifnonnull off, 3)) (ht : (pc : Int) + off = (tgt : Int)) (k : rr_A own cc nL rt kd R Q kc ks tgt lv st h) : rr_A own cc nL rt kd R Q kc ks pc lv (.ref x :: st) h := by
  intro p l e s m args below meth c E A Qf w0 hC hret H locs ws ls l0 st' hW hS hle hl hlr hst
  obtain ⟨hx, hb, hr, hml, hown, hts, hlk, hin, hSt, hA⟩ := id hC
  obtain ⟨w, u, rfl, hw, hu⟩ := hst
  obtain ⟨a, rfl⟩ := rr_refv hw
  exact lv_ifnonnull hx hb hd ht (k p l e s m args below meth c E A Qf w0 hC hret H locs ws ls l0 _ hW hS hle hl hlr hu)
theorem rr_nonnullN {off : Int} (hd : decode cc pc = .ok (.ifnonnull off, 3)) (k : rr_A own cc nL rt kd R Q kc ks (pc + 3) lv st h) : rr_A own cc nL rt kd R Q kc ks pc lv (.null :: st) h := by
  intro p l e s m args below meth c E A Qf w0 hC hret H locs ws ls l0 st' hW hS hle hl hlr hst
  obtain ⟨hx, hb, hr, hml, hown, hts, hlk, hin, hSt, hA⟩ := id hC
  obtain ⟨w, u, rfl, hw, hu⟩ := hst
  obtain rfl : w = .null := hw
  exact lv_ifnonnullN hx hb hd (k p l e s m args below meth c E A Qf w0 hC hret H locs ws ls l0 _ hW hS hle hl hlr hu)
theorem rr_lcmp {x y : Int64} (hd : decode cc pc = .ok (.lcmp, 1)) (k : rr_A own cc nL rt kd R Q kc ks (pc + 1) lv (.int (lg_cmp x y) :: st) h) : rr_A own cc nL rt kd R Q kc ks pc lv (.long y :: .long x :: st) h := by
  intro p l e s m args below meth c E A Qf w0 hC hret H locs ws ls l0 st' hW hS hle hl hlr hst
  obtain ⟨hx, hb, hr, hml, hown, hts, hlk, hin, hSt, hA⟩ := id hC
  obtain ⟨w, u, rfl, hw, hu⟩ := hst
  obtain ⟨w2, u2, rfl, hw2, hu2⟩ := hu
  obtain rfl : w = .long y := hw
  obtain rfl : w2 = .long x := hw2
  exact W.lcmp hx hb hd (k p l e s m args below meth c E A Qf w0 hC hret H locs ws ls l0 _ hW hS hle hl hlr ⟨_, _, rfl, rfl, hu2⟩)
theorem rr_iinc {i : Nat} {n : Int} {x : Int32} (v : Int32) (hd : decode cc pc = .ok (.iinc i n, 3)) (hv : Int32.ofInt n = v) (hg : rr_get lv i = some (.int x)) (hn : i < nL) (k : rr_A own cc nL rt kd R Q kc ks (pc + 3) (rr_put lv i (.int (x + v))) st h) : rr_A own cc nL rt kd R Q kc ks pc lv st h := by
  intro p l e s m args below meth c E A Qf w0 hC hret H locs ws ls l0 st' hW hS hle hl hlr hst
  obtain ⟨hx, hb, hr, hml, hown, hts, hlk, hin, hSt, hA⟩ := id hC
  obtain ⟨w, h1, h2⟩ := rr_get_at hl hlr hg
  obtain rfl : w = .int x := h2
  have hl2 : lv_has ls nL ((i, .int x) :: l0) := ⟨hl.1, hl.2.1, fun q hq => by
    rcases List.mem_cons.mp hq with rfl | hq
    · exact h1
    · exact hl.2.2 q hq⟩
  subst hv
  refine lv_iinc hx hb hd hl2 (k := 0) rfl rfl hn rfl (fun ls' hl' => ?_)
  rw [List.filter_cons_of_neg (by simp)] at hl'
  exact k p l e s m args below meth c E A Qf w0 hC hret H locs ws ls' _ _ hW hS hle hl' ⟨_, _, rfl, rfl, rr_ls.fil (rr_p1 i) hlr⟩ hst
theorem rr_tin {x : Int32} {dflt lo hi : Int} {offs : Array Int} {len : Nat} (tgt : Nat) (off : Int) (hd : decode cc pc = .ok (.tableswitch dflt lo hi offs, len)) (h1 : ¬ x.toInt < lo) (h2 : ¬ hi < x.toInt) (ho : offs[(x.toInt - lo).toNat]? = some off) (ht : (pc : Int) + off = (tgt : Int)) (k : rr_A own cc nL rt kd R Q kc ks tgt lv st h) : rr_A own cc nL rt kd R Q kc ks pc lv (.int x :: st) h := by
  intro p l e s m args below meth c E A Qf w0 hC hret H locs ws ls l0 st' hW hS hle hl hlr hst
  obtain ⟨hx, hb, hr, hml, hown, hts, hlk, hin, hSt, hA⟩ := id hC
  obtain ⟨w, u, rfl, hw, hu⟩ := hst
  obtain rfl : w = .int x := hw
  exact lv_tableIn hx hb hd h1 h2 ho ht (k p l e s m args below meth c E A Qf w0 hC hret H locs ws ls l0 _ hW hS hle hl hlr hu)
theorem rr_tout {x : Int32} {dflt lo hi : Int} {offs : Array Int} {len : Nat} (tgt : Nat) (hd : decode cc pc = .ok (.tableswitch dflt lo hi offs, len)) (h1 : x.toInt < lo ∨ hi < x.toInt) (ht : (pc : Int) + dflt = (tgt : Int)) (k : rr_A own cc nL rt kd R Q kc ks tgt lv st h) : rr_A own cc nL rt kd R Q kc ks pc lv (.int x :: st) h := by
  intro p l e s m args below meth c E A Qf w0 hC hret H locs ws ls l0 st' hW hS hle hl hlr hst
  obtain ⟨hx, hb, hr, hml, hown, hts, hlk, hin, hSt, hA⟩ := id hC
  obtain ⟨w, u, rfl, hw, hu⟩ := hst
  obtain rfl : w = .int x := hw
  exact lv_tableOut hx hb hd h1 ht (k p l e s m args below meth c E A Qf w0 hC hret H locs ws ls l0 _ hW hS hle hl hlr hu)
theorem rr_lsw {x : Int32} {dflt : Int} {ps : Array (Int × Int)} {len : Nat} (tgt : Nat) (off : Int) (hd : decode cc pc = .ok (.lookupswitch dflt ps, len)) (hp : (ps.toList.zip (ps.toList.drop 1)).all (fun (a, next) => a.1 < next.1) = true) (ho : Op.lookupswitch.offset ps.toList dflt x.toInt = off) (ht : (pc : Int) + off = (tgt : Int)) (k : rr_A own cc nL rt kd R Q kc ks tgt lv st h) : rr_A own cc nL rt kd R Q kc ks pc lv (.int x :: st) h := by
  intro p l e s m args below meth c E A Qf w0 hC hret H locs ws ls l0 st' hW hS hle hl hlr hst
  obtain ⟨hx, hb, hr, hml, hown, hts, hlk, hin, hSt, hA⟩ := id hC
  obtain ⟨w, u, rfl, hw, hu⟩ := hst
  obtain rfl : w = .int x := hw
  exact lv_lookup hx hb hd hp ho ht (k p l e s m args below meth c E A Qf w0 hC hret H locs ws ls l0 _ hW hS hle hl hlr hu)
-- returns
theorem rr_ireturn {x : Int32} {ty : FieldType} (hd : decode cc pc = .ok (.ireturn, 1)) (hty : rt = some ty) (hn : narrow ty (.int x) = .int x) (hc : kc ≤ R.cells) (hs : ks ≤ R.slots) (hq : Q (some (.int x)) h) : rr_A own cc nL rt kd R Q kc ks pc lv [.int x] h := by
  intro p l e s m args below meth c E A Qf w0 hC hret H locs ws ls l0 st' hW hS hle hl hlr hst
  obtain ⟨hx, hb, hr, hml, hown, hts, hlk, hin, hSt, hA⟩ := id hC
  obtain ⟨w, u, rfl, hw, hu⟩ := hst
  obtain rfl : w = .int x := hw
  obtain rfl : u = [] := hu
  exact W.widen hc hs (hret (some (.int x)) (some (.int x)) h ws H locs pc ls ⟨hd, ty, hty, hn⟩ hq ⟨_, rfl, rfl⟩ hW hS hle)
theorem rr_lreturn {x : Int64} (hd : decode cc pc = .ok (.lreturn, 1)) (hty : rt = some .long) (hc : kc ≤ R.cells) (hs : ks ≤ R.slots) (hq : Q (some (.long x)) h) : rr_A own cc nL rt kd R Q kc ks pc lv [.long x] h := by
  intro p l e s m args below meth c E A Qf w0 hC hret H locs ws ls l0 st' hW hS hle hl hlr hst
  obtain ⟨hx, hb, hr, hml, hown, hts, hlk, hin, hSt, hA⟩ := id hC
  obtain ⟨w, u, rfl, hw, hu⟩ := hst
  obtain rfl : w = .long x := hw
  obtain rfl : u = [] := hu
  exact W.widen hc hs (hret (some (.long x)) (some (.long x)) h ws H locs pc ls ⟨hty, hd⟩ hq ⟨_, rfl, rfl⟩ hW hS hle)
theorem rr_areturn {x : Nat} {ty : FieldType} (hd : decode cc pc = .ok (.areturn, 1)) (hty : rt = some ty) (hn : (∃ n, ty = .object n) ∨ ∃ t, ty = .array t) (hc : kc ≤ R.cells) (hs : ks ≤ R.slots) (hq : Q (some (.ref x)) h) : rr_A own cc nL rt kd R Q kc ks pc lv [.ref x] h := by
  intro p l e s m args below meth c E A Qf w0 hC hret H locs ws ls l0 st' hW hS hle hl hlr hst
  obtain ⟨hx, hb, hr, hml, hown, hts, hlk, hin, hSt, hA⟩ := id hC
  obtain ⟨w, u, rfl, hw, hu⟩ := hst
  obtain ⟨a, rfl⟩ := rr_refv hw
  obtain rfl : u = [] := hu
  exact W.widen hc hs (hret (some (.ref x)) (some (.ref a)) h ws H locs pc ls ⟨hd, ty, hty, hn⟩ hq ⟨_, rfl, hw⟩ hW hS hle)
theorem rr_return (hd : decode cc pc = .ok (.return_, 1)) (hty : rt = none) (hc : kc ≤ R.cells) (hs : ks ≤ R.slots) (hq : Q none h) : rr_A own cc nL rt kd R Q kc ks pc lv [] h := by
  intro p l e s m args below meth c E A Qf w0 hC hret H locs ws ls l0 st' hW hS hle hl hlr hst
  obtain ⟨hx, hb, hr, hml, hown, hts, hlk, hin, hSt, hA⟩ := id hC
  obtain rfl : st' = [] := hst
  exact W.widen hc hs (hret none none h ws H locs pc ls ⟨hty, hd⟩ hq rfl hW hS hle)
-- fields
theorem rr_clok : ∀ (ci : Nat) (C : String) (T : u_T) (N : Nat), rr_cl[ci]? = some (C, T, N) → (∀ w ∈ u_ws C T N, w ∈ rr_ws) ∧ (∀ k, k < N → parseFieldDescriptor (T k).2.2.1 = some (rr_ty ci k)) ∧ (∀ a, a < N → ∀ b, b < N → a ≠ b → (T a).2.1 ≠ (T b).2.1) := by
  intro ci C T N hc
  match ci, hc with
  | 0, hc => cases hc; exact ⟨wi_Co, ty_Co, nm_Co⟩
  | 1, hc => cases hc; exact ⟨wi_Ma, ty_Ma, nm_Ma⟩
  | 2, hc => cases hc; exact ⟨wi_Re, ty_Re, nm_Re⟩
  | 3, hc => cases hc; exact ⟨wi_Ta, ty_Ta, nm_Ta⟩
  | 4, hc => cases hc; exact ⟨wi_To, ty_To, nm_To⟩
  | 5, hc => cases hc; exact ⟨wi_Ru, ty_Ru, nm_Ru⟩
  | 6, hc => cases hc; exact ⟨wi_Mo, ty_Mo, nm_Mo⟩
  | ci + 7, hc => simp [rr_cl] at hc
theorem rr_at {E : rr_E} {A : Nat → Prop} {ws : va_W} {H : Heap} {a : Nat} {w : Value} {x : va_E} (hW : rr_Wd E A h ws H) (hv : rr_v E ws (.ref a) w) (ha : h[a]? = some x) (hk : Nat.ble rr_K0 a = false) : ∃ (b : Nat) (y : va_E), w = .ref b ∧ ws[a]? = some (b, y) ∧ rr_e E ws x y := by
  obtain ⟨b, y, g1, g2⟩ := hW.1.2 a x ha
  have hlt : a < rr_K0 := by
    rcases Nat.lt_or_ge a rr_K0 with q | q
    · exact q
    · rw [Nat.ble_eq_true_of_le q] at hk; cases hk
  unfold rr_v at hv
  dsimp only at hv
  rw [if_pos hlt] at hv
  obtain ⟨b', e', g3, g4⟩ := hv
  rw [g1] at g3
  cases g3
  exact ⟨b, y, g4, g1, g2⟩
theorem rr_getf {a idx ci kf : Nat} {fs : List Value} {v : Value} (hd : decode cc pc = .ok (.getfield idx, 3)) (hL : rr_FL own idx ci kf) (ha : h[a]? = some (.inr (ci, fs))) (hv : fs[kf]? = some v) (k : rr_A own cc nL rt kd R Q kc ks (pc + 3) lv (v :: st) h) (hk : Nat.ble rr_K0 a = false := by rfl) : rr_A own cc nL rt kd R Q kc ks pc lv (.ref a :: st) h := by
  intro p l e s m args below meth c E A Qf w0 hC hret H locs ws ls l0 st' hW hS hle hl hlr hst
  obtain ⟨hx, hb, hr, hml, hown, hts, hlk, hin, hSt, hA⟩ := id hC
  obtain ⟨w, u, rfl, hw, hu⟩ := hst
  obtain ⟨b, y, rfl, g1, fs', rfl, g3⟩ := rr_at hW hw ha hk
  obtain ⟨w', q1, q2⟩ := g3.get hv
  obtain ⟨C, T, N, hcl, hkN, hln⟩ := hL
  obtain ⟨c1, c2, c3⟩ := rr_clok ci C T N hcl
  have nx := k p l e s m args below meth c E A Qf w0 hC hret H locs ws ls l0 _ hW hS hle hl hlr ⟨_, _, rfl, q2, hu⟩
  rcases hln with hln | ⟨host, hln⟩
  · exact va_get (D := E.1) hx hb hts c1 hown hSt.1 hW.2.1 a g1 hcl kf hkN (hts _ hln) (fun _ h9 => h9) q1 hd nx
  · exact va_getN (D := E.1) hx hb hts c1 hown hSt.1 hW.2.1 a g1 hcl kf hkN (va_Nw.use rfl (hSt.2.1 _ hln)) (fun _ h9 => h9) q1 hd nx
/-- a value of a field's kind -/
def rr_fit : FieldType → Value → Bool
  | .int, .int _ => true
  | .long, .long _ => true
  | .object _, .ref _ => true
  | .array _, .ref _ => true
  | _, _ => false
theorem rr_fit_ok {E : rr_E} {ws : va_W} {ty : FieldType} {v w : Value} (h : rr_fit ty v = true) (hv : rr_v E ws v w) : narrow ty w = w ∧ fits ty w = true := by
  cases v with
  | ref i =>
    obtain ⟨a, rfl⟩ := rr_refv hv
    cases ty <;> first | exact ⟨rfl, rfl⟩ | cases h
  | int x =>
    obtain rfl : w = .int x := hv
    cases ty <;> first | exact ⟨rfl, rfl⟩ | cases h
  | long x =>
    obtain rfl : w = .long x := hv
    cases ty <;> first | exact ⟨rfl, rfl⟩ | cases h
  | _ => cases ty <;> cases h
theorem rr_fin {own : String} {idx ci k : Nat} (hL : rr_FL own idx ci k) : True := trivial
/-- is the field final -/
def rr_final (ci k : Nat) : Bool := match rr_cl[ci]? with
  | some q => (q.2.1 k).2.2.2
  | none => false
theorem rr_putf {a idx ci kf : Nat} {fs : List Value} {v : Value} (hd : decode cc pc = .ok (.putfield idx, 3)) (hL : rr_FL own idx ci kf) (hfn : rr_final ci kf = false) (ha : h[a]? = some (.inr (ci, fs))) (hf : rr_fit (rr_ty ci kf) v = true) (hl2 : Nat.blt kf fs.length = true) (k : rr_A own cc nL rt kd R Q kc ks (pc + 3) lv st (h.set a (.inr (ci, fs.set kf v)))) (hk : Nat.ble rr_K0 a = false := by rfl) : rr_A own cc nL rt kd R Q kc ks pc lv (v :: .ref a :: st) h := by
  intro p l e s m args below meth c E A Qf w0 hC hret H locs ws ls l0 st' hW hS hle hl hlr hst
  obtain ⟨hx, hb, hr, hml, hown, hts, hlk, hin, hSt, hA⟩ := id hC
  obtain ⟨w, u, rfl, hw, hu⟩ := hst
  obtain ⟨w2, u2, rfl, hw2, hu2⟩ := hu
  obtain ⟨b, y, rfl, g1, fs', rfl, g3⟩ := rr_at hW hw2 ha hk
  obtain ⟨C, T, N, hcl, hkN, hln⟩ := hL
  obtain ⟨c1, c2, c3⟩ := rr_clok ci C T N hcl
  obtain ⟨n1, n2⟩ := rr_fit_ok hf hw
  have hfin : (T kf).2.2.2 = false := by unfold rr_final at hfn; rw [hcl] at hfn; exact hfn
  have hlen : kf < fs'.length := by rw [g3.length]; exact Nat.blt_eq.mp hl2
  have nx : ∀ (H1 : Heap) (locs1 : List Loc), va_P E.1 rr_cl (ws.set a (b, .inr (ci, fs'.set kf w))) H1 → va_D A (ws.set a (b, .inr (ci, fs'.set kf w))) → va_S A s.heap H1 locs1 → W p l e R s m args below meth c H1 locs1 kc ks Qf (F0 m (pc + 3) ls u2) := by
    intro H1 locs1 hP1 hD1 hS1
    have hle2 : rr_le ws (ws.set a (b, .inr (ci, fs'.set kf w))) := rr_le.set g1
    exact k p l e s m args below meth c E A Qf w0 hC hret H1 locs1 _ ls l0 _ ⟨hW.1.set g1 ⟨_, rfl, rr_vs.set hw g3 kf⟩, hP1, hD1⟩ hS1 (hle.trans hle2) hl (hlr.mono hle2) (hu2.mono hle2)
  rcases hln with hln | ⟨host, hln⟩
  · exact va_put (D := E.1) hx hb hts c1 (rr_ty ci) c2 c3 hown hSt.1 hW.2.1 hW.2.2 hS a g1 hcl kf hkN (hts _ hln) (fun _ h9 => h9) hfin (c2 kf hkN) n1 n2 hlen hd nx
  · exact va_putN (D := E.1) hx hb hts c1 (rr_ty ci) c2 c3 hown hSt.1 hW.2.1 hW.2.2 hS a g1 hcl kf hkN (va_Nw.use rfl (hSt.2.1 _ hln)) (fun _ h9 => h9) hfin (c2 kf hkN) n1 n2 hlen hd nx
/-- a final field, in a constructor -/
theorem rr_putF {a idx ci kf : Nat} {fs : List Value} {v : Value} (hd : decode cc pc = .ok (.putfield idx, 3)) (hi : kd.1 = true) (hL : ∃ (T : u_T) (N : Nat), rr_cl[ci]? = some (own, T, N) ∧ kf < N ∧ (T kf).1 = own ∧ (T kf).2.2.2 = true ∧ Cond.fieldLink own idx (T kf).1 (T kf).2.1 (T kf).2.2.1 ∈ rr_ws) (ha : h[a]? = some (.inr (ci, fs))) (hf : rr_fit (rr_ty ci kf) v = true) (hl2 : Nat.blt kf fs.length = true) (k : rr_A own cc nL rt kd R Q kc ks (pc + 3) lv st (h.set a (.inr (ci, fs.set kf v)))) (hk : Nat.ble rr_K0 a = false := by rfl) : rr_A own cc nL rt kd R Q kc ks pc lv (v :: .ref a :: st) h := by
  intro p l e s m args below meth c E A Qf w0 hC hret H locs ws ls l0 st' hW hS hle hl hlr hst
  obtain ⟨hx, hb, hr, hml, hown, hts, hlk, hin, hSt, hA⟩ := id hC
  obtain ⟨w, u, rfl, hw, hu⟩ := hst
  obtain ⟨w2, u2, rfl, hw2, hu2⟩ := hu
  obtain ⟨b, y, rfl, g1, fs', rfl, g3⟩ := rr_at hW hw2 ha hk
  obtain ⟨T, N, hcl, hkN, hdec, hfin, hln⟩ := hL
  obtain ⟨c1, c2, c3⟩ := rr_clok ci own T N hcl
  obtain ⟨n1, n2⟩ := rr_fit_ok hf hw
  have hlen : kf < fs'.length := by rw [g3.length]; exact Nat.blt_eq.mp hl2
  refine va_putF (D := E.1) hx hb hts c1 (rr_ty ci) c2 c3 hown hSt.1 hW.2.1 hW.2.2 hS a g1 hcl kf hkN (hts _ hln) (fun _ h9 => h9) hfin (hin hi) hdec (c2 kf hkN) n1 n2 hlen hd ?_
  intro H1 locs1 hP1 hD1 hS1
  have hle2 : rr_le ws (ws.set a (b, .inr (ci, fs'.set kf w))) := rr_le.set g1
  exact k p l e s m args below meth c E A Qf w0 hC hret H1 locs1 _ ls l0 _ ⟨hW.1.set g1 ⟨_, rfl, rr_vs.set hw g3 kf⟩, hP1, hD1⟩ hS1 (hle.trans hle2) hl (hlr.mono hle2) (hu2.mono hle2)
-- arrays
theorem rr_iald {a n : Nat} {f : Nat → Int32} {i : Int32} (hd : decode cc pc = .ok (.iaload, 1)) (ha : h[a]? = some (.inl (0, n, .inl f))) (hin : vp_in i n) (k : rr_A own cc nL rt kd R Q kc ks (pc + 1) lv (.int (f i.toNatClampNeg) :: st) h) (hk : Nat.ble rr_K0 a = false := by rfl) : rr_A own cc nL rt kd R Q kc ks pc lv (.int i :: .ref a :: st) h := by
  intro p l e s m args below meth c E A Qf w0 hC hret H locs ws ls l0 st' hW hS hle hl hlr hst
  obtain ⟨hx, hb, hr, hml, hown, hts, hlk, hin0, hSt, hA⟩ := id hC
  obtain ⟨w, u, rfl, hw, hu⟩ := hst
  obtain ⟨w2, u2, rfl, hw2, hu2⟩ := hu
  obtain rfl : w = .int i := hw
  obtain ⟨b, y, rfl, g1, rfl⟩ := rr_at hW hw2 ha hk
  exact va_iald (D := E.1) hx hb hSt.1 hW.2.1 a 0 g1 rfl hin hd (k p l e s m args below meth c E A Qf w0 hC hret H locs ws ls l0 _ hW hS hle hl hlr ⟨_, _, rfl, rfl, hu2⟩)
theorem rr_bald {a n : Nat} {f : Nat → Int32} {i : Int32} (hd : decode cc pc = .ok (.baload, 1)) (ha : h[a]? = some (.inl (1, n, .inl f))) (hin : vp_in i n) (k : rr_A own cc nL rt kd R Q kc ks (pc + 1) lv (.int (f i.toNatClampNeg) :: st) h) (hk : Nat.ble rr_K0 a = false := by rfl) : rr_A own cc nL rt kd R Q kc ks pc lv (.int i :: .ref a :: st) h := by
  intro p l e s m args below meth c E A Qf w0 hC hret H locs ws ls l0 st' hW hS hle hl hlr hst
  obtain ⟨hx, hb, hr, hml, hown, hts, hlk, hin0, hSt, hA⟩ := id hC
  obtain ⟨w, u, rfl, hw, hu⟩ := hst
  obtain ⟨w2, u2, rfl, hw2, hu2⟩ := hu
  obtain rfl : w = .int i := hw
  obtain ⟨b, y, rfl, g1, rfl⟩ := rr_at hW hw2 ha hk
  exact va_bald (D := E.1) hx hb hSt.1 hW.2.1 a 1 g1 rfl hin hd (k p l e s m args below meth c E A Qf w0 hC hret H locs ws ls l0 _ hW hS hle hl hlr ⟨_, _, rfl, rfl, hu2⟩)
theorem rr_iast {a n : Nat} {f : Nat → Int32} {i x : Int32} (hd : decode cc pc = .ok (.iastore, 1)) (ha : h[a]? = some (.inl (0, n, .inl f))) (hin : vp_in i n) (k : rr_A own cc nL rt kd R Q kc ks (pc + 1) lv st (h.set a (.inl (0, n, .inl (upd f i.toNatClampNeg x))))) (hk : Nat.ble rr_K0 a = false := by rfl) : rr_A own cc nL rt kd R Q kc ks pc lv (.int x :: .int i :: .ref a :: st) h := by
  intro p l e s m args below meth c E A Qf w0 hC hret H locs ws ls l0 st' hW hS hle hl hlr hst
  obtain ⟨hx, hb, hr, hml, hown, hts, hlk, hin0, hSt, hA⟩ := id hC
  obtain ⟨w, u, rfl, hw, hu⟩ := hst
  obtain ⟨w2, u2, rfl, hw2, hu2⟩ := hu
  obtain ⟨w3, u3, rfl, hw3, hu3⟩ := hu2
  obtain rfl : w = .int x := hw
  obtain rfl : w2 = .int i := hw2
  obtain ⟨b, y, rfl, g1, rfl⟩ := rr_at hW hw3 ha hk
  refine va_iast (D := E.1) hx hb hSt.1 hW.2.1 hW.2.2 hS a 0 g1 rfl hin hd ?_
  intro H1 locs1 hP1 hD1 hS1
  have hle2 : rr_le ws (ws.set a (b, .inl (E.2.1 0, n, .inl (upd f i.toNatClampNeg x)))) := rr_le.set g1
  exact k p l e s m args below meth c E A Qf w0 hC hret H1 locs1 _ ls l0 _ ⟨hW.1.set g1 rfl, hP1, hD1⟩ hS1 (hle.trans hle2) hl (hlr.mono hle2) (hu3.mono hle2)
theorem rr_bast {a n : Nat} {f : Nat → Int32} {i x : Int32} (hd : decode cc pc = .ok (.bastore, 1)) (ha : h[a]? = some (.inl (1, n, .inl f))) (hin : vp_in i n) (k : rr_A own cc nL rt kd R Q kc ks (pc + 1) lv st (h.set a (.inl (1, n, .inl (upd f i.toNatClampNeg (vp_nar .byte x)))))) (hk : Nat.ble rr_K0 a = false := by rfl) : rr_A own cc nL rt kd R Q kc ks pc lv (.int x :: .int i :: .ref a :: st) h := by
  intro p l e s m args below meth c E A Qf w0 hC hret H locs ws ls l0 st' hW hS hle hl hlr hst
  obtain ⟨hx, hb, hr, hml, hown, hts, hlk, hin0, hSt, hA⟩ := id hC
  obtain ⟨w, u, rfl, hw, hu⟩ := hst
  obtain ⟨w2, u2, rfl, hw2, hu2⟩ := hu
  obtain ⟨w3, u3, rfl, hw3, hu3⟩ := hu2
  obtain rfl : w = .int x := hw
  obtain rfl : w2 = .int i := hw2
  obtain ⟨b, y, rfl, g1, rfl⟩ := rr_at hW hw3 ha hk
  refine va_bast (D := E.1) hx hb hSt.1 hW.2.1 hW.2.2 hS a 1 g1 rfl hin hd ?_
  intro H1 locs1 hP1 hD1 hS1
  have hle2 : rr_le ws (ws.set a (b, .inl (E.2.1 1, n, .inl (upd f i.toNatClampNeg (vp_nar .byte x))))) := rr_le.set g1
  exact k p l e s m args below meth c E A Qf w0 hC hret H1 locs1 _ ls l0 _ ⟨hW.1.set g1 rfl, hP1, hD1⟩ hS1 (hle.trans hle2) hl (hlr.mono hle2) (hu3.mono hle2)
theorem rr_alen {a t n : Nat} {x : (Nat → Int32) ⊕ (Nat → Int64) ⊕ (Nat → UInt32) ⊕ (Nat → UInt64) ⊕ (Nat → Option Nat)} (hd : decode cc pc = .ok (.arraylength, 1)) (ha : h[a]? = some (.inl (t, n, x))) (ht : t = 0 ∨ t = 1) (k : rr_A own cc nL rt kd R Q kc ks (pc + 1) lv (.int (Int32.ofNat n) :: st) h) (hk : Nat.ble rr_K0 a = false := by rfl) : rr_A own cc nL rt kd R Q kc ks pc lv (.ref a :: st) h := by
  intro p l e s m args below meth c E A Qf w0 hC hret H locs ws ls l0 st' hW hS hle hl hlr hst
  obtain ⟨hx, hb, hr, hml, hown, hts, hlk, hin, hSt, hA⟩ := id hC
  obtain ⟨w, u, rfl, hw, hu⟩ := hst
  obtain ⟨b, y, rfl, g1, rfl⟩ := rr_at hW hw ha hk
  have nx := k p l e s m args below meth c E A Qf w0 hC hret H locs ws ls l0 _ hW hS hle hl hlr ⟨_, _, rfl, rfl, hu⟩
  rcases ht with rfl | rfl
  · exact va_alen (D := E.1) hx hb hSt.1 hW.2.1 a 0 g1 rfl rfl hd nx
  · exact va_alen (D := E.1) hx hb hSt.1 hW.2.1 a 1 g1 rfl rfl hd nx
end ROWS

