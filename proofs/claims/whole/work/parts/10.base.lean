/-! A SMALL MACHINE over the kit's worlds. A heap here is a list of cells, an address is a place in that list; addresses from rr_K0 on are constants (texts, their bytes, the script). Each row of part 11 turns 'rr_A' (the real machine comes to its end with Q) at an instruction into rr_A at the next one. -/
abbrev rr_H : Type := List va_E
def rr_K0 : Nat := 1000
/-- what stands fast: class numbers and field places; array classes (0 int, 1 byte); constants' addresses (0.. the texts, 100.. their bytes, 200 the script, 300 a formatter); the script's length and ints -/
abbrev rr_E : Type := va_G × (Nat → ClassId) × (Nat → Nat) × Nat × (Nat → Int32)
def rr_tys (E : rr_E) : List (ClassId × FieldType) := [(E.2.1 0, .int), (E.2.1 1, .byte)]
/-- a value here and there -/
def rr_v (E : rr_E) (ws : va_W) (v w : Value) : Prop := match v with
  | .ref i => if i < rr_K0 then ∃ (a : Nat) (e : va_E), ws[i]? = some (a, e) ∧ w = .ref a else w = .ref (E.2.2.1 (i - rr_K0))
  | u => w = u
def rr_vs (E : rr_E) (ws : va_W) : List Value → List Value → Prop
  | [], l => l = []
  | v :: t, l => ∃ (w : Value) (u : List Value), l = w :: u ∧ rr_v E ws v w ∧ rr_vs E ws t u
def rr_ls (E : rr_E) (ws : va_W) : List (Nat × Value) → List (Nat × Value) → Prop
  | [], l => l = []
  | q :: t, l => ∃ (w : Value) (u : List (Nat × Value)), l = (q.1, w) :: u ∧ rr_v E ws q.2 w ∧ rr_ls E ws t u
def rr_e (E : rr_E) (ws : va_W) (x y : va_E) : Prop := match x with
  | .inl a => y = .inl (E.2.1 a.1, a.2)
  | .inr o => ∃ fs : List Value, y = .inr (o.1, fs) ∧ rr_vs E ws o.2 fs
def rr_M (E : rr_E) (h : rr_H) (ws : va_W) : Prop := ws.length = h.length ∧ ∀ (k : Nat) (x : va_E), h[k]? = some x → ∃ (a : Nat) (y : va_E), ws[k]? = some (a, y) ∧ rr_e E ws x y
def rr_le (ws us : va_W) : Prop := ∀ (k a : Nat) (e : va_E), ws[k]? = some (a, e) → ∃ e' : va_E, us[k]? = some (a, e')
theorem rr_le.rf {ws : va_W} : rr_le ws ws := fun _ _ e h => ⟨e, h⟩
theorem rr_le.trans {a b c : va_W} (h1 : rr_le a b) (h2 : rr_le b c) : rr_le a c := fun k q e h => by
  obtain ⟨e1, g1⟩ := h1 k q e h
  exact h2 k q e1 g1
theorem rr_le.set {ws : va_W} {k a : Nat} {y0 y : va_E} (h : ws[k]? = some (a, y0)) : rr_le ws (ws.set k (a, y)) := by
  intro j b e hj
  by_cases q : k = j
  · subst q
    rw [h] at hj
    cases hj
    exact ⟨y, List.getElem?_set_self (List.getElem?_eq_some_iff.mp h).1⟩
  · exact ⟨e, by rw [List.getElem?_set_ne q]; exact hj⟩
theorem rr_le.push {ws us : va_W} : rr_le ws (ws ++ us) := by
  intro j b e hj
  exact ⟨e, by rw [List.getElem?_append_left (List.getElem?_eq_some_iff.mp hj).1]; exact hj⟩
theorem rr_v.mono {E : rr_E} {ws us : va_W} (hle : rr_le ws us) {v w : Value} (h : rr_v E ws v w) : rr_v E us v w := by
  cases v with
  | ref i =>
    unfold rr_v at h ⊢
    dsimp only at h ⊢
    by_cases hi : i < rr_K0
    · rw [if_pos hi] at h ⊢
      obtain ⟨a, e, h1, h2⟩ := h
      obtain ⟨e', h3⟩ := hle i a e h1
      exact ⟨a, e', h3, h2⟩
    · rw [if_neg hi] at h ⊢
      exact h
  | _ => exact h
theorem rr_v.cat {E : rr_E} {ws : va_W} {v w : Value} (h : rr_v E ws v w) : w.category = v.category := by
  cases v with
  | ref i =>
    unfold rr_v at h
    dsimp only at h
    by_cases hi : i < rr_K0
    · rw [if_pos hi] at h
      obtain ⟨a, e, h1, h2⟩ := h
      rw [h2]
      rfl
    · rw [if_neg hi] at h
      rw [h]
      rfl
  | _ => rw [show w = _ from h]
theorem rr_vs.mono {E : rr_E} {ws us : va_W} (hle : rr_le ws us) : ∀ {l l' : List Value}, rr_vs E ws l l' → rr_vs E us l l'
  | [], _, h => h
  | _ :: _, _, ⟨w, u, h1, h2, h3⟩ => ⟨w, u, h1, h2.mono hle, rr_vs.mono hle h3⟩
theorem rr_ls.mono {E : rr_E} {ws us : va_W} (hle : rr_le ws us) : ∀ {l l' : List (Nat × Value)}, rr_ls E ws l l' → rr_ls E us l l'
  | [], _, h => h
  | _ :: _, _, ⟨w, u, h1, h2, h3⟩ => ⟨w, u, h1, h2.mono hle, rr_ls.mono hle h3⟩
theorem rr_e.mono {E : rr_E} {ws us : va_W} (hle : rr_le ws us) {x y : va_E} (h : rr_e E ws x y) : rr_e E us x y := by
  cases x with
  | inl a => exact h
  | inr o =>
    obtain ⟨fs, h1, h2⟩ := h
    exact ⟨fs, h1, h2.mono hle⟩
theorem rr_vs.length {E : rr_E} {ws : va_W} : ∀ {l l' : List Value}, rr_vs E ws l l' → l'.length = l.length
  | [], _, h => by rw [show _ = [] from h]
  | _ :: _, _, ⟨w, u, h1, h2, h3⟩ => by rw [h1, List.length_cons, List.length_cons, rr_vs.length h3]
theorem rr_vs.cats {E : rr_E} {ws : va_W} : ∀ {l l' : List Value}, rr_vs E ws l l' → (l'.map fun v => v.category) = l.map fun v => v.category
  | [], _, h => by rw [show _ = [] from h]
  | _ :: _, _, ⟨w, u, h1, h2, h3⟩ => by rw [h1, List.map_cons, List.map_cons, rr_vs.cats h3, h2.cat]
theorem rr_vs.get {E : rr_E} {ws : va_W} : ∀ {l l' : List Value}, rr_vs E ws l l' → ∀ {k : Nat} {v : Value}, l[k]? = some v → ∃ w, l'[k]? = some w ∧ rr_v E ws v w
  | [], _, _, k, v, hk => by simp at hk
  | _ :: _, _, ⟨w, u, h1, h2, h3⟩, 0, v, hk => by
    simp only [List.getElem?_cons_zero, Option.some.injEq] at hk
    exact ⟨w, by rw [h1]; rfl, hk ▸ h2⟩
  | _ :: _, _, ⟨w, u, h1, h2, h3⟩, k + 1, v, hk => by
    rw [List.getElem?_cons_succ] at hk
    obtain ⟨w', g1, g2⟩ := rr_vs.get h3 hk
    exact ⟨w', by rw [h1, List.getElem?_cons_succ]; exact g1, g2⟩
theorem rr_vs.set {E : rr_E} {ws : va_W} {v w : Value} (hv : rr_v E ws v w) : ∀ {l l' : List Value}, rr_vs E ws l l' → ∀ (k : Nat), rr_vs E ws (l.set k v) (l'.set k w)
  | [], _, h, k => by rw [show _ = [] from h]; exact rfl
  | _ :: _, _, ⟨w', u, h1, h2, h3⟩, 0 => by rw [h1]; exact ⟨w, u, rfl, hv, h3⟩
  | _ :: _, _, ⟨w', u, h1, h2, h3⟩, k + 1 => by rw [h1]; exact ⟨w', u.set k w, rfl, h2, rr_vs.set hv h3 k⟩
theorem rr_vs.app {E : rr_E} {ws : va_W} : ∀ {a b a' b' : List Value}, rr_vs E ws a a' → rr_vs E ws b b' → rr_vs E ws (a ++ b) (a' ++ b')
  | [], _, _, _, h1, h2 => by rw [show _ = [] from h1]; exact h2
  | _ :: _, _, _, _, ⟨w', u, h1, h2, h3⟩, hb => by rw [h1]; exact ⟨w', _, rfl, h2, rr_vs.app h3 hb⟩
theorem rr_vs.split {E : rr_E} {ws : va_W} : ∀ {a b l : List Value}, rr_vs E ws (a ++ b) l → ∃ a' b', l = a' ++ b' ∧ rr_vs E ws a a' ∧ rr_vs E ws b b'
  | [], _, l, h => ⟨[], l, rfl, rfl, h⟩
  | _ :: _, _, _, ⟨w, u, h1, h2, h3⟩ => by
    obtain ⟨a', b', g1, g2, g3⟩ := rr_vs.split h3
    exact ⟨w :: a', b', by rw [h1, g1]; rfl, ⟨w, a', rfl, h2, g2⟩, g3⟩
theorem rr_vs.rev {E : rr_E} {ws : va_W} : ∀ {a a' : List Value}, rr_vs E ws a a' → rr_vs E ws a.reverse a'.reverse
  | [], _, h => by rw [show _ = [] from h]; exact rfl
  | _ :: _, _, ⟨w, u, h1, h2, h3⟩ => by
    rw [h1, List.reverse_cons, List.reverse_cons]
    exact rr_vs.app (rr_vs.rev h3) ⟨w, [], rfl, h2, rfl⟩
theorem rr_ls.fil {E : rr_E} {ws : va_W} (P : Nat → Nat → Bool) : ∀ {l l' : List (Nat × Value)}, rr_ls E ws l l' → rr_ls E ws (l.filter (fun q => P q.1 q.2.category)) (l'.filter (fun q => P q.1 q.2.category))
  | [], _, h => by rw [show _ = [] from h]; exact rfl
  | q :: t, _, ⟨w, u, h1, h2, h3⟩ => by
    rw [h1, List.filter_cons, List.filter_cons, h2.cat]
    have := rr_ls.fil P h3
    by_cases hp : P q.1 q.2.category = true
    · rw [if_pos hp, if_pos hp]
      exact ⟨w, _, rfl, h2, this⟩
    · rw [if_neg hp, if_neg hp]
      exact this
theorem rr_M.set {E : rr_E} {h : rr_H} {ws : va_W} (hM : rr_M E h ws) {k a : Nat} {x y y0 : va_E} (hk : ws[k]? = some (a, y0)) (he : rr_e E ws x y) : rr_M E (h.set k x) (ws.set k (a, y)) := by
  obtain ⟨hl, hm⟩ := hM
  have hlt : k < ws.length := (List.getElem?_eq_some_iff.mp hk).1
  refine ⟨by rw [List.length_set, List.length_set]; exact hl, fun j z hj => ?_⟩
  by_cases q : k = j
  · subst q
    rw [List.getElem?_set_self (by omega)] at hj
    cases hj
    exact ⟨a, y, List.getElem?_set_self hlt, he.mono (rr_le.set hk)⟩
  · rw [List.getElem?_set_ne q] at hj
    obtain ⟨b, y', g1, g2⟩ := hm j z hj
    exact ⟨b, y', by rw [List.getElem?_set_ne q]; exact g1, g2.mono (rr_le.set hk)⟩
theorem rr_M.push {E : rr_E} {h : rr_H} {ws : va_W} (hM : rr_M E h ws) {q : Nat} {x y : va_E} (he : rr_e E (ws ++ [(q, y)]) x y) : rr_M E (h ++ [x]) (ws ++ [(q, y)]) := by
  obtain ⟨hl, hm⟩ := hM
  refine ⟨by simp [hl], fun j z hj => ?_⟩
  by_cases g : j < h.length
  · rw [List.getElem?_append_left g] at hj
    obtain ⟨b, y', g1, g2⟩ := hm j z hj
    exact ⟨b, y', by rw [List.getElem?_append_left (by omega)]; exact g1, g2.mono rr_le.push⟩
  · rw [List.getElem?_append_right (by omega)] at hj
    have hz : j - h.length < 1 := (List.getElem?_eq_some_iff.mp hj).1
    have hj0 : j = h.length := by omega
    subst hj0
    rw [Nat.sub_self] at hj
    cases hj
    exact ⟨q, y, by rw [← hl, List.getElem?_append_right (Nat.le_refl _), Nat.sub_self]; rfl, he⟩
/-- the texts: 18 of them, by the Model's own entries -/
def rr_S (E : rr_E) (A : Nat → Prop) (U : State) (H : Heap) : Prop :=
  va_K E.1 rr_cl (rr_tys E) U ∧ (∀ w ∈ rr_nw, va_Nw w U) ∧ vk_S rr_nS rr_len rr_byt (fun j => E.2.2.1 j) (fun j => E.2.2.1 (100 + j)) A U H ∧
  (∀ q ∈ rr_str, vk_R q.1 q.2.1 q.2.2.1 (E.2.2.1 q.2.2.2) U) ∧ va_Z "java/lang/String" "COMPACT_STRINGS" "Z" (.int 1) A U H ∧
  (va_Z "jdk/internal/util/Preconditions" "SIOOBE_FORMATTER" "Ljava/util/function/BiFunction;" .null A U H ∨ va_Z "jdk/internal/util/Preconditions" "SIOOBE_FORMATTER" "Ljava/util/function/BiFunction;" (.ref (E.2.2.1 300)) A U H) ∧
  va_T .int (E.2.2.1 200) E.2.2.2.1 (fun j => .int (E.2.2.2.2 j)) A U H
theorem rr_isN_warm {w : Cond} (h : rr_isN w = true) {s U : State} (hW : s.WarmedH U.vm) (hZ : va_Nw w s) : va_Nw w U := by
  cases w with
  | fieldLinkNest a i b n d hh => exact va_Nw.warmF hW hZ
  | methodLinkNest a i x hh => exact va_Nw.warmM hW hZ
  | _ => cases h
theorem rr_isN_tab {w : Cond} (h : rr_isN w = true) : w.onTables = true := by
  cases w with
  | fieldLinkNest a i b n d hh => rfl
  | methodLinkNest a i x hh => rfl
  | _ => cases h
theorem rr_nw_is {w : Cond} (h : w ∈ rr_nw) : rr_isN w = true := (List.mem_filter.mp h).2
/-- what stands fast, at a callee's start -/
theorem rr_S.go {E : rr_E} {A B : Nat → Prop} {s U : State} {H : Heap} {locs : List Loc} (h : rr_S E A s s.heap) (hS : va_S A s.heap H locs) (hB : ∀ q, B q → A q) (hU : U.heap = H) (hW : s.WarmedH U.vm) : rr_S E B U U.heap := by
  obtain ⟨h1, h2, h3, h4, h5, h6, h7⟩ := h
  have kp := hS.2.1
  rw [hU]
  refine ⟨va_K.moved hW.alike h1, fun w hw => rr_isN_warm (rr_nw_is hw) hW (h2 w hw), ((h3.moved hW.alike).kept kp).narrow hB, fun q hq => (h4 q hq).warm hW, ((h5.moved hW.alike).kept kp).narrow hB, ?_, ((h7.moved hW.alike).kept kp).narrow hB⟩
  rcases h6 with h6 | h6
  · exact Or.inl (((h6.moved hW.alike).kept kp).narrow hB)
  · exact Or.inr (((h6.moved hW.alike).kept kp).narrow hB)
/-- the same tables and heap: the same -/
theorem rr_S.same {E : rr_E} {A : Nat → Prop} {s U : State} {H : Heap} (h : rr_S E A s H) (hv : U.vm = s.vm) : rr_S E A U H := by
  obtain ⟨h1, h2, h3, h4, h5, h6, h7⟩ := h
  have hal : s.vm.Alike U.vm := by rw [hv]; exact Vm.Alike.refl _
  refine ⟨va_K.moved hal h1, fun w hw => va_Nw.same (rr_isN_tab (rr_nw_is hw)) hv.symm (h2 w hw), h3.moved hal, fun q hq => (h4 q hq).same hv, h5.moved hal, ?_, h7.moved hal⟩
  rcases h6 with h6 | h6
  · exact Or.inl (h6.moved hal)
  · exact Or.inr (h6.moved hal)
/-- the world: here a heap h, there the cells ws of H -/
def rr_Wd (E : rr_E) (A : Nat → Prop) (h : rr_H) (ws : va_W) (H : Heap) : Prop := rr_M E h ws ∧ va_P E.1 rr_cl ws H ∧ va_D A ws
/-- a constructor? and, of the law alone, its script -/
abbrev rr_Kd : Type := Bool × Option (Nat × (Nat → Int32))
/-- the places stay (but for the law, that gives back no place) -/
def rr_lo (kd : rr_Kd) (a b : va_W) : Prop := kd.2 = none → rr_le a b
theorem rr_lo.trans {kd : rr_Kd} {a b c : va_W} (h1 : rr_lo kd a b) (h2 : rr_le b c) : rr_lo kd a c := fun h => (h1 h).trans h2
/-- a method at work: its class, code, locals, kind of answer; ini: a constructor -/
def rr_Cx (own : String) (cc : ByteArray) (nL : Nat) (rt : Option FieldType) (kd : rr_Kd) (E : rr_E) (A : Nat → Prop) (p : Program) (s : State) (m : MethodId) (args : Array Value) (meth : Method) (c : Code) : Prop :=
  p.tables.exec = Jvm.exec ∧ c.code = cc ∧ meth.sig.returnType = rt ∧ c.maxLocals = nL ∧ s.vm.findClass own = some m.cls ∧ (∀ w ∈ rr_ws, w.before args s = true) ∧ meth.locks = false ∧ (kd.1 = true → meth.name = "<init>") ∧ rr_S E A s s.heap ∧ (∀ q : Nat, s.heap.size ≤ q → A q) ∧ ∀ X, kd.2 = some X → E.2.2.2 = X
def rr_o (E : rr_E) (ws : va_W) : Option Value → Option Value → Prop
  | none, w => w = none
  | some v, w => ∃ w', w = some w' ∧ rr_v E ws v w'
/-- at pc the method gives r back -/
def rr_Rt (cc : ByteArray) (rt : Option FieldType) (pc : Nat) (r : Option Value) : Prop := match r with
  | none => rt = none ∧ decode cc pc = .ok (.return_, 1)
  | some (.int v) => decode cc pc = .ok (.ireturn, 1) ∧ ∃ ty, rt = some ty ∧ narrow ty (.int v) = .int v
  | some (.long _) => rt = some .long ∧ decode cc pc = .ok (.lreturn, 1)
  | some (.ref _) => decode cc pc = .ok (.areturn, 1) ∧ ∃ ty, rt = some ty ∧ ((∃ n, ty = .object n) ∨ ∃ t, ty = .array t)
  | _ => False
/-- the real machine, at a frame that is like (pc, lv, st) over a heap like h, comes to its end, with an answer and a heap that Q holds of -/
def rr_A (own : String) (cc : ByteArray) (nL : Nat) (rt : Option FieldType) (kd : rr_Kd) (R : Room) (Q : Option Value → rr_H → Prop) (kc ks : Nat) (pc : Nat) (lv : List (Nat × Value)) (st : List Value) (h : rr_H) : Prop :=
  ∀ (p : Program) (l : Launch) (e : Env) (s : State) (m : MethodId) (args : Array Value) (below : List Frame) (meth : Method) (c : Code) (E : rr_E) (A : Nat → Prop) (Qf : State → Prop) (w0 : va_W), rr_Cx own cc nL rt kd E A p s m args meth c →
  (∀ (r r' : Option Value) (h' : rr_H) (us : va_W) (H : Heap) (locs : List Loc) (pc' : Nat) (ls : Array Slot), rr_Rt cc rt pc' r' → Q r h' → rr_o E us r r' → rr_Wd E A h' us H → va_S A s.heap H locs → rr_lo kd w0 us → W p l e R s m args below meth c H locs R.cells R.slots Qf (F0 m pc' ls r'.toList)) →
  ∀ (H : Heap) (locs : List Loc) (ws : va_W) (ls : Array Slot) (lv' : List (Nat × Value)) (st' : List Value), rr_Wd E A h ws H → va_S A s.heap H locs → rr_lo kd w0 ws → lv_has ls nL lv' → rr_ls E ws lv lv' → rr_vs E ws st st' → W p l e R s m args below meth c H locs kc ks Qf (F0 m pc ls st')
/-- a method's contract, over a heap h -/
def rr_Spec (d : Nat) (y : MethodName) (cc : ByteArray) (nL : Nat) (rt : Option FieldType) (mc ms : Nat) (as : List Value) (h : rr_H) (Q : Option Value → rr_H → Prop) : Prop :=
  ∀ (l : Launch) (E : rr_E) (ws : va_W) (as' : List Value) (sz : Nat), rr_M E h ws → rr_vs E ws as as' →
  Met l y (.code y cc nL rt :: rr_ws) { frames := d, cells := mc, slots := ms, locals := d * 64 }
    (va_Pc as' (fun U => U.heap.size = sz ∧ va_P E.1 rr_cl ws U.heap ∧ va_D (fun _ => True) ws ∧ rr_S E (va_A ws sz) U U.heap))
    (fun _ st oc t => (∃ (r r' : Option Value) (h' : rr_H) (us : va_W), oc = .returned r' ∧ Q r h' ∧ rr_o E us r r' ∧ rr_Wd E (va_A ws sz) h' us t.heap ∧ rr_le ws us) ∧ va_F (va_A ws sz) st t) mc ms (va_A ws sz)
theorem rr_args {E : rr_E} {ws : va_W} : ∀ {as as' : List Value} (i : Nat), rr_vs E ws as as' → rr_ls E ws (lv_args i as) (lv_args i as')
  | [], _, i, h => by rw [show _ = [] from h]; exact rfl
  | v :: t, _, i, ⟨w, u, h1, h2, h3⟩ => by
    rw [h1]
    have hc := h2.cat
    unfold lv_args
    rw [hc]
    exact ⟨w, _, rfl, h2, rr_args _ h3⟩
theorem rr_slen {E : rr_E} {ws : va_W} : ∀ {as as' : List Value}, rr_vs E ws as as' → (lg_sl as').length = (lg_sl as).length
  | [], _, h => by rw [show _ = [] from h]
  | v :: t, _, ⟨w, u, h1, h2, h3⟩ => by
    rw [h1]
    have hc := h2.cat
    have ih := rr_slen h3
    have e1 : lg_sl (w :: u) = (if w.category = 2 then [.val w, .second] else [.val w]) ++ lg_sl u := rfl
    have e2 : lg_sl (v :: t) = (if v.category = 2 then [.val v, .second] else [.val v]) ++ lg_sl t := rfl
    rw [e1, e2, List.length_append, List.length_append, ih, hc]
    split <;> rfl
/-- a walk from the entry gives the contract -/
theorem rr_met {d : Nat} {y : MethodName} {own : String} {cc : ByteArray} {nL : Nat} {rt : Option FieldType} {kd : rr_Kd} {mc ms : Nat} {as : List Value} {h : rr_H} {Q : Option Value → rr_H → Prop} (hy : plainName y.cls = true) (hown : y.cls = own) (hini : kd.1 = true → y.name = "<init>") (hk2 : kd.2 = none) (hn : (lg_sl as).length ≤ nL)
    (hA : rr_A own cc nL rt kd { frames := d, cells := mc, slots := ms, locals := d * 64 } Q 0 0 0 (lv_args 0 as) [] h) : rr_Spec d y cc nL rt mc ms as h Q := by
  intro l E ws as' sz hM hvs
  refine Met.ofW (cc := cc) (maxL := nL) (ret := rt) hy rfl ?_
  intro p e s m args below meth c s₁ B hml hv
  obtain ⟨rfl, hsz, hP, hD0, hSt⟩ := hv
  have hts := atoms_spec (ws := .code y cc nL rt :: rr_ws) B.pre
  subst hsz
  have hlocks := B.notSynchronized
  have hD := hD0.self (sz := s.heap.size)
  have hr := B.returns
  have hl := lv_entry as' (n := nL) (by rw [rr_slen hvs]; exact hn)
  rw [lg_entry_eq]
  generalize (lg_sl as' ++ List.replicate (nL - (lg_sl as').length) Slot.unset).toArray = ls at hl ⊢
  refine hA p l e s m as'.toArray below meth c E (va_A ws s.heap.size) _ ws ⟨B.exec, B.bytes, hr, hml, by rw [← hown]; exact findClass_of_methodNamed B.named, fun w hw => hts w (List.mem_cons_of_mem _ hw), hlocks, fun hi => ((name_of_methodNamed B.named B.method).1).trans (hini hi), hSt, fun q hq => Or.inr hq, fun X hX => by rw [hk2] at hX; cases hX⟩ ?_ s.heap [] ws ls (lv_args 0 as') [] ⟨hM, hP, hD⟩ va_S.rf (fun _ => rr_le.rf) hl (rr_args 0 hvs) rfl
  intro r r' h' us H locs pc' ls2 hRt hQ ho hWd hS hle0
  have hle := hle0 hk2
  have post : ∀ t : State, t.heap = H → ((∃ (r2 r2' : Option Value) (h2 : rr_H) (us2 : va_W), Outcome.returned r' = .returned r2' ∧ Q r2 h2 ∧ rr_o E us2 r2 r2' ∧ rr_Wd E (va_A ws s.heap.size) h2 us2 t.heap ∧ rr_le ws us2) ∧ va_F (va_A ws s.heap.size) s t) := fun t ht => ⟨⟨r, r', h', us, rfl, hQ, ho, by rw [ht]; exact hWd, hle⟩, hS.F ht⟩
  cases r' with
  | none =>
    obtain ⟨h1, h2⟩ := hRt
    exact W.vret B.exec B.bytes (hr.trans h1) (fun t ht hW => post t ht) hS.2.2 h2
  | some v =>
    cases v with
    | int v =>
      obtain ⟨h2, ty, h1, h3⟩ := hRt
      exact W.zret B.exec B.bytes (hr.trans h1) h3 (fun t ht hW => post t ht) hS.2.2 h2
    | long v =>
      obtain ⟨h1, h2⟩ := hRt
      exact W.lret B.exec B.bytes (hr.trans h1) (fun t ht hW => post t ht) hS.2.2 h2
    | ref a =>
      obtain ⟨h2, ty, h1, h3⟩ := hRt
      exact W.aret B.exec B.bytes (hr.trans h1) h3 (Or.inr ⟨a, rfl⟩) (fun t ht hW => post t ht) hS.2.2 h2
    | _ => exact absurd hRt id
