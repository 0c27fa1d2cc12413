section CALLS
variable {own : String} {cc : ByteArray} {nL : Nat} {rt : Option FieldType} {kd : rr_Kd} {R : Room} {Q : Option Value → rr_H → Prop} {kc ks pc : Nat} {lv : List (Nat × Value)} {st : List Value} {h : rr_H}
theorem rr_vK {E : rr_E} {ws : va_W} {j : Nat} {w : Value} : rr_v E ws (.ref (rr_K0 + j)) w ↔ w = .ref (E.2.2.1 j) := by
  unfold rr_v
  dsimp only
  rw [if_neg (Nat.not_lt.mpr (Nat.le_add_right rr_K0 j)), Nat.add_sub_cancel_left]
/-- a text -/
theorem rr_ldcS {idx j : Nat} {tx : String} (hd : decode cc pc = .ok (.ldc idx, 2)) (hs : (own, idx, tx, j) ∈ rr_str) (k : rr_A own cc nL rt kd R Q kc ks (pc + 2) lv (.ref (rr_K0 + j) :: st) h) : rr_A own cc nL rt kd R Q kc ks pc lv st h := by
  intro p l e s m args below meth c E A Qf w0 hC hret H locs ws ls l0 st' hW hS hle hl hlr hst
  obtain ⟨hx, hb, hr, hml, hown, hts, hlk, hin, hSt, hA⟩ := id hC
  exact va_ldcS hx hb hown (hSt.2.2.2.1 _ hs) hd (k p l e s m args below meth c E A Qf w0 hC hret H locs ws ls l0 _ hW hS hle hl hlr ⟨_, _, rfl, rr_vK.mpr rfl, hst⟩)
theorem rr_ldc2 {idx : Nat} {v : Int64} (hd : decode cc pc = .ok (.ldc2_w idx, 3)) (hw : Cond.constantLong own idx v ∈ rr_ws) (k : rr_A own cc nL rt kd R Q kc ks (pc + 3) lv (.long v :: st) h) : rr_A own cc nL rt kd R Q kc ks pc lv st h := by
  intro p l e s m args below meth c E A Qf w0 hC hret H locs ws ls l0 st' hW hS hle hl hlr hst
  obtain ⟨hx, hb, hr, hml, hown, hts, hlk, hin, hSt, hA⟩ := id hC
  exact lv_ldc2 hx hb hown (hts _ hw) hd (k p l e s m args below meth c E A Qf w0 hC hret H locs ws ls l0 _ hW hS hle hl hlr ⟨_, _, rfl, rfl, hst⟩)
/-- a text's bytes, its coder -/
theorem rr_getSv {idx j : Nat} (hd : decode cc pc = .ok (.getfield idx, 3)) (hw : Cond.fieldLink own idx "java/lang/String" "value" "[B" ∈ rr_ws) (hj : j < rr_nS) (k : rr_A own cc nL rt kd R Q kc ks (pc + 3) lv (.ref (rr_K0 + (100 + j)) :: st) h) : rr_A own cc nL rt kd R Q kc ks pc lv (.ref (rr_K0 + j) :: st) h := by
  intro p l e s m args below meth c E A Qf w0 hC hret H locs ws ls l0 st' hW hS hle hl hlr hst
  obtain ⟨hx, hb, hr, hml, hown, hts, hlk, hin, hSt, hA⟩ := id hC
  obtain ⟨w, u, rfl, hwv, hu⟩ := hst
  obtain rfl := rr_vK.mp hwv
  exact vk_getf hx hb (hSt.2.2.1.1 j hj).2.2.1 hS hown (hts _ hw) (fun _ h9 => h9) hd (k p l e s m args below meth c E A Qf w0 hC hret H locs ws ls l0 _ hW hS hle hl hlr ⟨_, _, rfl, rr_vK.mpr rfl, hu⟩)
theorem rr_getSc {idx j : Nat} (hd : decode cc pc = .ok (.getfield idx, 3)) (hw : Cond.fieldLink own idx "java/lang/String" "coder" "B" ∈ rr_ws) (hj : j < rr_nS) (k : rr_A own cc nL rt kd R Q kc ks (pc + 3) lv (.int 0 :: st) h) : rr_A own cc nL rt kd R Q kc ks pc lv (.ref (rr_K0 + j) :: st) h := by
  intro p l e s m args below meth c E A Qf w0 hC hret H locs ws ls l0 st' hW hS hle hl hlr hst
  obtain ⟨hx, hb, hr, hml, hown, hts, hlk, hin, hSt, hA⟩ := id hC
  obtain ⟨w, u, rfl, hwv, hu⟩ := hst
  obtain rfl := rr_vK.mp hwv
  exact vk_getf hx hb (hSt.2.2.1.1 j hj).2.1 hS hown (hts _ hw) (fun _ h9 => h9) hd (k p l e s m args below meth c E A Qf w0 hC hret H locs ws ls l0 _ hW hS hle hl hlr ⟨_, _, rfl, rfl, hu⟩)
theorem rr_lenS {j : Nat} (hd : decode cc pc = .ok (.arraylength, 1)) (hj : j < rr_nS) (k : rr_A own cc nL rt kd R Q kc ks (pc + 1) lv (.int (Int32.ofNat (rr_len.getD j 0)) :: st) h) : rr_A own cc nL rt kd R Q kc ks pc lv (.ref (rr_K0 + (100 + j)) :: st) h := by
  intro p l e s m args below meth c E A Qf w0 hC hret H locs ws ls l0 st' hW hS hle hl hlr hst
  obtain ⟨hx, hb, hr, hml, hown, hts, hlk, hin, hSt, hA⟩ := id hC
  obtain ⟨w, u, rfl, hwv, hu⟩ := hst
  obtain rfl := rr_vK.mp hwv
  exact va_tlen hx hb (hSt.2.2.1.1 j hj).2.2.2 hS rfl hd (k p l e s m args below meth c E A Qf w0 hC hret H locs ws ls l0 _ hW hS hle hl hlr ⟨_, _, rfl, rfl, hu⟩)
theorem rr_baldS {j : Nat} {i : Int32} (hd : decode cc pc = .ok (.baload, 1)) (hj : j < rr_nS) (hi : vp_in i (rr_len.getD j 0)) (k : rr_A own cc nL rt kd R Q kc ks (pc + 1) lv (.int ((rr_byt.getD j []).getD i.toNatClampNeg 0) :: st) h) : rr_A own cc nL rt kd R Q kc ks pc lv (.int i :: .ref (rr_K0 + (100 + j)) :: st) h := by
  intro p l e s m args below meth c E A Qf w0 hC hret H locs ws ls l0 st' hW hS hle hl hlr hst
  obtain ⟨hx, hb, hr, hml, hown, hts, hlk, hin, hSt, hA⟩ := id hC
  obtain ⟨w, u, rfl, hwv, hu⟩ := hst
  obtain ⟨w2, u2, rfl, hwv2, hu2⟩ := hu
  obtain rfl : w = .int i := hwv
  obtain rfl := rr_vK.mp hwv2
  exact va_tb hx hb (hSt.2.2.1.1 j hj).2.2.2 hS hi rfl hd (k p l e s m args below meth c E A Qf w0 hC hret H locs ws ls l0 _ hW hS hle hl hlr ⟨_, _, rfl, rfl, hu2⟩)
theorem rr_getsC {idx : Nat} (hd : decode cc pc = .ok (.getstatic idx, 3)) (hw : Cond.fieldLink own idx "java/lang/String" "COMPACT_STRINGS" "Z" ∈ rr_ws) (k : rr_A own cc nL rt kd R Q kc ks (pc + 3) lv (.int 1 :: st) h) : rr_A own cc nL rt kd R Q kc ks pc lv st h := by
  intro p l e s m args below meth c E A Qf w0 hC hret H locs ws ls l0 st' hW hS hle hl hlr hst
  obtain ⟨hx, hb, hr, hml, hown, hts, hlk, hin, hSt, hA⟩ := id hC
  exact va_gets hx hb hSt.2.2.2.2.1 hS hown (hts _ hw) (fun _ h9 => h9) hd (k p l e s m args below meth c E A Qf w0 hC hret H locs ws ls l0 _ hW hS hle hl hlr ⟨_, _, rfl, rfl, hst⟩)
theorem rr_getsF {idx : Nat} (hd : decode cc pc = .ok (.getstatic idx, 3)) (hw : Cond.fieldLink own idx "jdk/internal/util/Preconditions" "SIOOBE_FORMATTER" "Ljava/util/function/BiFunction;" ∈ rr_ws) (k : ∀ v : Value, v = .null ∨ v = .ref (rr_K0 + 300) → rr_A own cc nL rt kd R Q kc ks (pc + 3) lv (v :: st) h) : rr_A own cc nL rt kd R Q kc ks pc lv st h := by
  intro p l e s m args below meth c E A Qf w0 hC hret H locs ws ls l0 st' hW hS hle hl hlr hst
  obtain ⟨hx, hb, hr, hml, hown, hts, hlk, hin, hSt, hA⟩ := id hC
  rcases hSt.2.2.2.2.2.1 with hZ | hZ
  · exact va_gets hx hb hZ hS hown (hts _ hw) (fun _ h9 => h9) hd (k .null (Or.inl rfl) p l e s m args below meth c E A Qf w0 hC hret H locs ws ls l0 _ hW hS hle hl hlr ⟨_, _, rfl, rfl, hst⟩)
  · exact va_gets hx hb hZ hS hown (hts _ hw) (fun _ h9 => h9) hd (k _ (Or.inr rfl) p l e s m args below meth c E A Qf w0 hC hret H locs ws ls l0 _ hW hS hle hl hlr ⟨_, _, rfl, rr_vK.mpr rfl, hst⟩)
/-- the script -/
theorem rr_slen2 {L : Nat} {xs : Nat → Int32} (hkd : kd.2 = some (L, xs)) (hd : decode cc pc = .ok (.arraylength, 1)) (k : rr_A own cc nL rt kd R Q kc ks (pc + 1) lv (.int (Int32.ofNat L) :: st) h) : rr_A own cc nL rt kd R Q kc ks pc lv (.ref (rr_K0 + 200) :: st) h := by
  intro p l e s m args below meth c E A Qf w0 hC hret H locs ws ls l0 st' hW hS hle hl hlr hst
  obtain ⟨hx, hb, hr, hml, hown, hts, hlk, hin, hSt, hA⟩ := id hC
  obtain ⟨w, u, rfl, hwv, hu⟩ := hst
  obtain rfl := rr_vK.mp hwv
  have hX := hA.2 _ hkd
  have hT := hSt.2.2.2.2.2.2
  rw [hX] at hT
  exact va_tlen hx hb hT hS rfl hd (k p l e s m args below meth c E A Qf w0 hC hret H locs ws ls l0 _ hW hS hle hl hlr ⟨_, _, rfl, rfl, hu⟩)
theorem rr_sld {L : Nat} {xs : Nat → Int32} {i : Int32} (hkd : kd.2 = some (L, xs)) (hd : decode cc pc = .ok (.iaload, 1)) (hi : vp_in i L) (k : rr_A own cc nL rt kd R Q kc ks (pc + 1) lv (.int (xs i.toNatClampNeg) :: st) h) : rr_A own cc nL rt kd R Q kc ks pc lv (.int i :: .ref (rr_K0 + 200) :: st) h := by
  intro p l e s m args below meth c E A Qf w0 hC hret H locs ws ls l0 st' hW hS hle hl hlr hst
  obtain ⟨hx, hb, hr, hml, hown, hts, hlk, hin, hSt, hA⟩ := id hC
  obtain ⟨w, u, rfl, hwv, hu⟩ := hst
  obtain ⟨w2, u2, rfl, hwv2, hu2⟩ := hu
  obtain rfl : w = .int i := hwv
  obtain rfl := rr_vK.mp hwv2
  have hX := hA.2 _ hkd
  have hT := hSt.2.2.2.2.2.2
  rw [hX] at hT
  exact va_ti hx hb hT hS hi rfl hd (k p l e s m args below meth c E A Qf w0 hC hret H locs ws ls l0 _ hW hS hle hl hlr ⟨_, _, rfl, rfl, hu2⟩)
theorem rr_vs_plain {E : rr_E} {ws : va_W} : ∀ {l : List Value}, l.all rr_plain = true → rr_vs E ws l l
  | [], _ => rfl
  | v :: t, h => by
    rw [List.all_cons, Bool.and_eq_true] at h
    refine ⟨v, t, rfl, ?_, rr_vs_plain h.2⟩
    cases v with
    | ref i => cases h.1
    | _ => exact rfl
theorem rr_new {idx ci : Nat} {fs : List Value} (hd : decode cc pc = .ok (.new idx, 3)) (hL : rr_NL own idx ci fs) (hc : kc + 1 ≤ R.cells) (hs : ks + fs.length ≤ R.slots) (hlen : h.length < rr_K0) (k : rr_A own cc nL rt kd R Q (kc + 1) (ks + fs.length) (pc + 3) lv (.ref h.length :: st) (h ++ [.inr (ci, fs)])) : rr_A own cc nL rt kd R Q kc ks pc lv st h := by
  intro p l e s m args below meth c E A Qf w0 hC hret H locs ws ls l0 st' hW hS hle hl hlr hst
  obtain ⟨hx, hb, hr, hml, hown, hts, hlk, hin, hSt, hA⟩ := id hC
  obtain ⟨C, T, hcl, q1, q2, q3, q4, q5⟩ := hL
  obtain ⟨c1, c2, c3⟩ := rr_clok ci C T _ hcl
  refine va_new (D := E.1) hx hb hts c1 (rr_ty ci) c2 hown (hts _ q1) (hts _ q2) (hts _ q3) hSt.1 hW.2.1 hW.2.2 hS hA.1 hcl q4 hc hs hd (fun q H1 hP1 hD1 hS1 => ?_)
  have hle2 : rr_le ws (ws ++ [(q, .inr (ci, fs))]) := rr_le.push
  refine k p l e s m args below meth c E A Qf w0 hC hret H1 locs _ ls l0 _ ⟨hW.1.push ⟨fs, rfl, rr_vs_plain q5⟩, hP1, hD1⟩ hS1 (hle.trans hle2) hl (hlr.mono hle2) ⟨_, _, rfl, ?_, hst.mono hle2⟩
  unfold rr_v
  dsimp only
  rw [if_pos hlen]
  exact ⟨q, _, by rw [← hW.1.1, List.getElem?_append_right (Nat.le_refl _), Nat.sub_self]; rfl, rfl⟩
theorem rr_newI {n : Int32} (N : Nat) (hd : decode cc pc = .ok (.newarray .int, 2)) (hn : ¬ n < 0) (hN : n.toNatClampNeg = N) (hb4 : N ≤ 100000000) (hc : kc + 1 ≤ R.cells) (hs : ks + N ≤ R.slots) (hlen : h.length < rr_K0) (k : rr_A own cc nL rt kd R Q (kc + 1) (ks + N) (pc + 2) lv (.ref h.length :: st) (h ++ [.inl (0, N, .inl (fun _ => 0))])) : rr_A own cc nL rt kd R Q kc ks pc lv (.int n :: st) h := by
  intro p l e s m args below meth c E A Qf w0 hC hret H locs ws ls l0 st' hW hS hle hl hlr hst
  obtain ⟨hx, hb, hr, hml, hown, hts, hlk, hin, hSt, hA⟩ := id hC
  obtain ⟨w, u, rfl, hwv, hu⟩ := hst
  obtain rfl : w = .int n := hwv
  refine va_newa (D := E.1) (atype := .int) (ty := .int) hx hb (hts _ rr_wI) rfl hSt.1 hW.2.1 hW.2.2 hS hA.1 (a0 := (N, .inl (fun _ => 0))) (fun cA => rfl) hn hN (by simp [componentBytes]; omega) hc hs hd (fun q cA H1 hK1 hP1 hD1 hS1 => ?_)
  have e1 := (hK1.2 2 _ rfl).2
  have e2 := (hSt.1.2 0 _ rfl).2
  obtain rfl : E.2.1 0 = cA := Option.some.inj (e2.symm.trans e1)
  have hle2 : rr_le ws (ws ++ [(q, .inl (E.2.1 0, N, .inl (fun _ => 0)))]) := rr_le.push
  refine k p l e s m args below meth c E A Qf w0 hC hret H1 locs _ ls l0 _ ⟨hW.1.push rfl, hP1, hD1⟩ hS1 (hle.trans hle2) hl (hlr.mono hle2) ⟨_, _, rfl, ?_, hu.mono hle2⟩
  unfold rr_v
  dsimp only
  rw [if_pos hlen]
  exact ⟨q, _, by rw [← hW.1.1, List.getElem?_append_right (Nat.le_refl _), Nat.sub_self]; rfl, rfl⟩
theorem rr_newB {n : Int32} (N : Nat) (hd : decode cc pc = .ok (.newarray .byte, 2)) (hn : ¬ n < 0) (hN : n.toNatClampNeg = N) (hb4 : N ≤ 100000000) (hc : kc + 1 ≤ R.cells) (hs : ks + N ≤ R.slots) (hlen : h.length < rr_K0) (k : rr_A own cc nL rt kd R Q (kc + 1) (ks + N) (pc + 2) lv (.ref h.length :: st) (h ++ [.inl (1, N, .inl (fun _ => 0))])) : rr_A own cc nL rt kd R Q kc ks pc lv (.int n :: st) h := by
  intro p l e s m args below meth c E A Qf w0 hC hret H locs ws ls l0 st' hW hS hle hl hlr hst
  obtain ⟨hx, hb, hr, hml, hown, hts, hlk, hin, hSt, hA⟩ := id hC
  obtain ⟨w, u, rfl, hwv, hu⟩ := hst
  obtain rfl : w = .int n := hwv
  refine va_newa (D := E.1) (atype := .byte) (ty := .byte) hx hb (hts _ rr_wB) rfl hSt.1 hW.2.1 hW.2.2 hS hA.1 (a0 := (N, .inl (fun _ => 0))) (fun cA => rfl) hn hN (by simp [componentBytes]; omega) hc hs hd (fun q cA H1 hK1 hP1 hD1 hS1 => ?_)
  have e1 := (hK1.2 2 _ rfl).2
  have e2 := (hSt.1.2 1 _ rfl).2
  obtain rfl : E.2.1 1 = cA := Option.some.inj (e2.symm.trans e1)
  have hle2 : rr_le ws (ws ++ [(q, .inl (E.2.1 1, N, .inl (fun _ => 0)))]) := rr_le.push
  refine k p l e s m args below meth c E A Qf w0 hC hret H1 locs _ ls l0 _ ⟨hW.1.push rfl, hP1, hD1⟩ hS1 (hle.trans hle2) hl (hlr.mono hle2) ⟨_, _, rfl, ?_, hu.mono hle2⟩
  unfold rr_v
  dsimp only
  rw [if_pos hlen]
  exact ⟨q, _, by rw [← hW.1.1, List.getElem?_append_right (Nat.le_refl _), Nat.sub_self]; rfl, rfl⟩
/-- Object(): nothing -/
theorem rr_objInit {idx a : Nat} (hd : decode cc pc = .ok (.invokespecial idx, 3)) (hw : Cond.methodLink own idx objectInit ∈ rr_ws) (hrm : 1 ≤ R.frames) (hrl : 12 + ((st.map fun v => v.category).sum) ≤ R.locals) (k : rr_A own cc nL rt kd R Q kc ks (pc + 3) lv st h) : rr_A own cc nL rt kd R Q kc ks pc lv (.ref a :: st) h := by
  intro p l e s m args below meth c E A Qf w0 hC hret H locs ws ls l0 st' hW hS hle hl hlr hst
  obtain ⟨hx, hb, hr, hml, hown, hts, hlk, hin, hSt, hA⟩ := id hC
  obtain ⟨w, u, rfl, hwv, hu⟩ := hst
  obtain ⟨b, rfl⟩ := rr_refv hwv
  have hloc : 2 * (F0 m pc ls (.ref b :: u)).monitorRoom + (u.map fun v => v.category).sum + 12 ≤ R.locals := by
    rw [hu.cats]
    show 2 * 0 + _ + 12 ≤ R.locals
    omega
  refine W.objInit hx hb hown (hts _ hw) (hts _ rr_wO1) (hts _ rr_wO2) rfl (by rw [hml]; exact hl.1) rfl hd hrm hloc ?_
  exact k p l e s m args below meth c E A Qf w0 hC hret H locs ws ls l0 _ hW hS hle hl hlr hu
/-! Calls. -/
theorem rr_good {y : MethodName} {c2 : ByteArray} {n2 : Nat} {r2 : Option FieldType} (hm : Cond.code y c2 n2 r2 ∈ rr_ws) : GoodIn rr_ws (.code y c2 n2 r2 :: rr_ws) := by
  intro w hw
  have hw2 : w ∈ rr_ws := by
    rcases List.mem_cons.mp hw with rfl | hw
    · exact hm
    · exact hw
  exact ⟨hw2, good_of_word (List.mem_filter.mp hw2).2⟩
theorem rr_free {A : Nat → Prop} {ws : va_W} {H0 H : Heap} {locs : List Loc} (hD : va_D A ws) (hS : va_S A H0 H locs) (hA : ∀ q : Nat, H0.size ≤ q → A q) : ∀ q, va_A ws H.size q → A q := by
  rintro q (⟨k, e, hk⟩ | hq)
  · exact hD.2 k (q, e) hk
  · exact hA q (Nat.le_trans hS.1 hq)
def rr_Qm (E : rr_E) (ws : va_W) (sz : Nat) (Qc : Option Value → rr_H → Prop) : Array Value → State → Outcome → State → Prop := fun _ st oc t => (∃ (r r' : Option Value) (h' : rr_H) (us : va_W), oc = .returned r' ∧ Qc r h' ∧ rr_o E us r r' ∧ rr_Wd E (va_A ws sz) h' us t.heap ∧ rr_le ws us) ∧ va_F (va_A ws sz) st t
def rr_Pm (E : rr_E) (ws : va_W) (sz : Nat) (as' : List Value) : Array Value → State → Prop := va_Pc as' (fun U => U.heap.size = sz ∧ va_P E.1 rr_cl ws U.heap ∧ va_D (fun _ => True) ws ∧ rr_S E (va_A ws sz) U U.heap)
theorem rr_blind {E : rr_E} {ws : va_W} {sz : Nat} {as' : List Value} : FrameBlind (rr_Pm E ws sz as') := by
  intro a U g mk q
  obtain ⟨q0, q1, qP, qD, qS⟩ := q
  exact ⟨q0, q1, qP, qD, qS.same rfl⟩
theorem rr_pre {E : rr_E} {A : Nat → Prop} {ws : va_W} {s : State} {H : Heap} {locs : List Loc} {as' : List Value} {h : rr_H} (hW : rr_Wd E A h ws H) (hS : va_S A s.heap H locs) (hA : ∀ q : Nat, s.heap.size ≤ q → A q) (hSt : rr_S E A s s.heap) : ∀ U : State, U.heap = H → s.WarmedH U.vm → rr_Pm E ws H.size as' as'.toArray U :=
  fun U hU hWm => ⟨rfl, by rw [hU], by rw [hU]; exact hW.2.1, hW.2.2.weaken (fun _ _ _ _ => trivial), hSt.go hS (rr_free hW.2.2 hS hA) hU hWm⟩
theorem rr_callX {p : Program} {l : Launch} {e : Env} {s : State} {m : MethodId} {args : Array Value} {below : List Frame} {meth : Method} {c : Code} {H : Heap} {locs : List Loc} {Qf : State → Prop} {mc ms : Nat} {ls : Array Slot} {st0 rest : List Value} {E : rr_E} {A : Nat → Prop} {ws : va_W} {Qc : Option Value → rr_H → Prop} {a : Array Value} {h : rr_H}
    (hr : va_Run p l e R s m args below meth c H locs kc ks mc ms (F0 m pc ls st0) rest (rr_Qm E ws H.size Qc a) (va_A ws H.size)) (hW : rr_Wd E A h ws H) (hS : va_S A s.heap H locs) (hA : ∀ q : Nat, s.heap.size ≤ q → A q)
    (kk : ∀ (r r' : Option Value) (h' : rr_H) (us : va_W) (H1 : Heap) (locs1 : List Loc), Qc r h' → rr_o E us r r' → rr_Wd E A h' us H1 → va_S A s.heap H1 locs1 → rr_le ws us → W p l e R s m args below meth c H1 locs1 (kc + mc) (ks + ms) Qf (F0 m (pc + 3) ls (r'.toList ++ rest))) : W p l e R s m args below meth c H locs kc ks Qf (F0 m pc ls st0) := by
  intro T hT X
  obtain ⟨v, st₀, t, T', L, h0, X', hL, e1, e2, ⟨⟨r, r', h', us, hv, hq, ho, hWd, hle⟩, hz, hk⟩, st⟩ := hr T hT X
  cases hv
  rw [h0] at hz hk
  have hF := rr_free hW.2.2 hS hA
  obtain ⟨t2, a1, b1⟩ := kk r v h' us T'.heap (locs ++ L) hq ho ⟨hWd.1, by rw [e1]; exact hWd.2.1, hWd.2.2.weaken (fun _ _ _ hh => hF _ hh)⟩
    ⟨Nat.le_trans hS.1 (by rw [e1]; exact hz), fun q h1 h2 => by rw [e1, hk q (Nat.lt_of_lt_of_le h1 hS.1) (fun z => h2 (hF q z))]; exact hS.2.1 q h1 h2, fun q hq => by
      rcases List.mem_append.mp hq with h | h
      · exact hS.2.2 q h
      · exact hF _ (hL q h)⟩ hle T' rfl X'
  exact ⟨t2, st t2 a1, b1⟩
theorem rr_o.vs {E : rr_E} {us : va_W} {r r' : Option Value} (h : rr_o E us r r') : rr_vs E us r.toList r'.toList := by
  cases r with
  | none => rw [show r' = none from h]; exact rfl
  | some v =>
    obtain ⟨w, h1, h2⟩ := h
    rw [h1]
    exact ⟨w, [], rfl, h2, rfl⟩
theorem rr_sum8 {E : rr_E} {ws : va_W} {m : MethodId} {ls : Array Slot} {st0 : List Value} {a b : List Value} (h : rr_vs E ws a b) (h8 : (a.map fun v => v.category).sum ≤ 8) : 2 * (F0 m pc ls st0).monitorRoom + (b.map fun v => v.category).sum ≤ 8 := lv_room (by rw [h.cats]; exact h8)
/-- a method of an object -/
theorem rr_callV0 {d idx n : Nat} {y : MethodName} {c2 : ByteArray} {n2 : Nat} {r2 : Option FieldType} {mc ms a : Nat} {As rest : List Value} {Qc : Option Value → rr_H → Prop} (hd : decode cc pc = .ok (.invokevirtual idx, 3)) (hL : rr_LV own idx y n) (hm : Cond.code y c2 n2 r2 ∈ rr_ws) (hSp : rr_Spec d y c2 n2 r2 mc ms (.ref a :: As) h Qc)
    (hrecv : ∀ (s : State) (E : rr_E) (A : Nat → Prop) (ws : va_W) (H : Heap) (locs : List Loc) (b : Nat), rr_S E A s s.heap → va_S A s.heap H locs → rr_Wd E A h ws H → rr_v E ws (.ref a) (.ref b) → ∃ cell : Cell, H[b]? = some cell ∧ cell.vm.isStatics = false ∧ s.vm.findClass y.cls = some cell.cls)
    (hn : As.length = n) (hst0 : st = As.reverse ++ .ref a :: rest) (h8 : (rest.map fun v => v.category).sum ≤ 8) (hR1 : d + 1 ≤ R.frames) (hR2 : 8 + (n2 + 11) + d * 64 ≤ R.locals) (hc : kc + mc ≤ R.cells) (hs : ks + ms ≤ R.slots)
    (k : ∀ r h', Qc r h' → rr_A own cc nL rt kd R Q (kc + mc) (ks + ms) (pc + 3) lv (r.toList ++ rest) h') : rr_A own cc nL rt kd R Q kc ks pc lv st h := by
  intro p l e s m args below meth c E A Qf w0 hC hret H locs ws ls l0 st' hW hS hle hl hlr hst
  obtain ⟨hx, hb, hr, hml, hown, hts, hlk, hin, hSt, hA⟩ := id hC
  rw [hst0] at hst
  obtain ⟨A', B', rfl, g1, g2⟩ := hst.split
  obtain ⟨w, u, rfl, hwv, hu⟩ := g2
  obtain ⟨b, rfl⟩ := rr_refv hwv
  obtain ⟨l1, l2, l3, l4, l5⟩ := hL
  have hAs : rr_vs E ws As A'.reverse := by have := g1.rev; rwa [List.reverse_reverse] at this
  have hM := hSp l E ws (.ref b :: A'.reverse) H.size hW.1 ⟨_, _, rfl, hwv, hAs⟩
  have hst1 : A' ++ .ref b :: u = A'.reverse.reverse ++ .ref b :: u := by rw [List.reverse_reverse]
  have hlen : A'.reverse.length = n := by rw [hAs.length]; exact hn
  have hP : PreV s H y.cls b (rr_Pm E ws H.size (.ref b :: A'.reverse)) A'.reverse := ⟨rr_blind, hrecv s E A ws H locs b hSt hS hW hwv, rr_pre hW hS hA.1 hSt⟩
  have hrun : va_Run p l e R s m args below meth c H locs kc ks mc ms (F0 m pc ls (A' ++ .ref b :: u)) u (rr_Qm E ws H.size Qc (Value.ref b :: A'.reverse).toArray) (va_A ws H.size) := by
    rcases l1 with l1 | ⟨host, l1⟩
    · exact va_runV ⟨hx, hb, hml, hown, hts⟩ hM ⟨callB_of n hts (rr_good hm) rfl rfl rfl (hts _ l4) (hts _ l1) l5 ⟨hR1, hR2⟩, hts _ l2, hts _ l3⟩ hP rfl hlen hl.1 hst1 (rr_sum8 hu h8) hd ⟨hc, hs⟩
    · exact va_runVN ⟨hx, hb, hml, hown, hts⟩ hM ⟨va_cnB n hts (rr_good hm) rfl rfl rfl (hSt.2.1 _ l1) (hts _ l4) l5 ⟨hR1, hR2⟩, hts _ l2, hts _ l3⟩ hP rfl hlen hl.1 hst1 (rr_sum8 hu h8) hd ⟨hc, hs⟩
  refine rr_callX hrun hW hS hA.1 (fun r r' h' us H1 locs1 q1 q2 q3 q4 q5 => ?_)
  exact k r h' q1 p l e s m args below meth c E A Qf w0 hC hret H1 locs1 us ls l0 _ q3 q4 (hle.trans q5) hl (hlr.mono q5) (rr_vs.app q2.vs (hu.mono q5))
theorem rr_callV {d idx n : Nat} {y : MethodName} {c2 : ByteArray} {n2 : Nat} {r2 : Option FieldType} {mc ms a ci : Nat} {fs : List Value} {As rest : List Value} {Qc : Option Value → rr_H → Prop} (hd : decode cc pc = .ok (.invokevirtual idx, 3)) (hL : rr_LV own idx y n) (hm : Cond.code y c2 n2 r2 ∈ rr_ws) (hSp : rr_Spec d y c2 n2 r2 mc ms (.ref a :: As) h Qc) (ha : h[a]? = some (.inr (ci, fs))) (hci : (rr_cl[ci]?).map (fun q => q.1) = some y.cls)
    (hn : As.length = n) (hst0 : st = As.reverse ++ .ref a :: rest) (h8 : (rest.map fun v => v.category).sum ≤ 8) (hR1 : d + 1 ≤ R.frames) (hR2 : 8 + (n2 + 11) + d * 64 ≤ R.locals) (hc : kc + mc ≤ R.cells) (hs : ks + ms ≤ R.slots)
    (k : ∀ r h', Qc r h' → rr_A own cc nL rt kd R Q (kc + mc) (ks + ms) (pc + 3) lv (r.toList ++ rest) h') (hk : Nat.ble rr_K0 a = false := by rfl) : rr_A own cc nL rt kd R Q kc ks pc lv st h := by
  refine rr_callV0 hd hL hm hSp ?_ hn hst0 h8 hR1 hR2 hc hs k
  intro s E A ws H locs b hSt hS hW hv
  obtain ⟨b', y', e1, g1, fs', rfl, g3⟩ := rr_at hW hv ha hk
  cases e1
  cases hq : rr_cl[ci]? with
  | none => rw [hq] at hci; cases hci
  | some q =>
    rw [hq] at hci
    have h1 : q.1 = y.cls := Option.some.inj hci
    rw [← h1]
    exact va_recv hSt.1 hW.2.1 hq g1
/-- a method of a text -/
theorem rr_callS0 {d idx n : Nat} {y : MethodName} {c2 : ByteArray} {n2 : Nat} {r2 : Option FieldType} {mc ms j : Nat} {As rest : List Value} {Qc : Option Value → rr_H → Prop} (hd : decode cc pc = .ok (.invokevirtual idx, 3)) (hL : rr_LV own idx y n) (hm : Cond.code y c2 n2 r2 ∈ rr_ws) (hSp : rr_Spec d y c2 n2 r2 mc ms (.ref (rr_K0 + j) :: As) h Qc) (hj : j < rr_nS) (hci : y.cls = "java/lang/String")
    (hn : As.length = n) (hst0 : st = As.reverse ++ .ref (rr_K0 + j) :: rest) (h8 : (rest.map fun v => v.category).sum ≤ 8) (hR1 : d + 1 ≤ R.frames) (hR2 : 8 + (n2 + 11) + d * 64 ≤ R.locals) (hc : kc + mc ≤ R.cells) (hs : ks + ms ≤ R.slots)
    (k : ∀ r h', Qc r h' → rr_A own cc nL rt kd R Q (kc + mc) (ks + ms) (pc + 3) lv (r.toList ++ rest) h') : rr_A own cc nL rt kd R Q kc ks pc lv st h := by
  refine rr_callV0 hd hL hm hSp ?_ hn hst0 h8 hR1 hR2 hc hs k
  intro s E A ws H locs b hSt hS hW hv
  have hb := rr_vK.mp hv
  cases hb
  rw [hci]
  exact vk_recv hSt.2.2.1 hj hS
/-- a static method -/
theorem rr_callS {d idx n : Nat} {y : MethodName} {c2 : ByteArray} {n2 : Nat} {r2 : Option FieldType} {mc ms : Nat} {As rest : List Value} {Qc : Option Value → rr_H → Prop} (hd : decode cc pc = .ok (.invokestatic idx, 3)) (hL : rr_LS own idx y n) (hm : Cond.code y c2 n2 r2 ∈ rr_ws) (hSp : rr_Spec d y c2 n2 r2 mc ms As h Qc)
    (hn : As.length = n) (hst0 : st = As.reverse ++ rest) (h8 : (rest.map fun v => v.category).sum ≤ 8) (hR1 : d + 1 ≤ R.frames) (hR2 : 8 + (n2 + 11) + d * 64 ≤ R.locals) (hc : kc + mc ≤ R.cells) (hs : ks + ms ≤ R.slots)
    (k : ∀ r h', Qc r h' → rr_A own cc nL rt kd R Q (kc + mc) (ks + ms) (pc + 3) lv (r.toList ++ rest) h') : rr_A own cc nL rt kd R Q kc ks pc lv st h := by
  intro p l e s m args below meth c E A Qf w0 hC hret H locs ws ls l0 st' hW hS hle hl hlr hst
  obtain ⟨hx, hb, hr, hml, hown, hts, hlk, hin, hSt, hA⟩ := id hC
  rw [hst0] at hst
  obtain ⟨A', u, rfl, g1, hu⟩ := hst.split
  obtain ⟨l1, l2, l4, l5⟩ := hL
  have hAs : rr_vs E ws As A'.reverse := by have := g1.rev; rwa [List.reverse_reverse] at this
  have hM := hSp l E ws A'.reverse H.size hW.1 hAs
  have hst1 : A' ++ u = A'.reverse.reverse ++ u := by rw [List.reverse_reverse]
  have hlen : A'.reverse.length = n := by rw [hAs.length]; exact hn
  have hP : PreS s H (rr_Pm E ws H.size A'.reverse) A'.reverse := ⟨rr_blind, rr_pre hW hS hA.1 hSt⟩
  have hrun : va_Run p l e R s m args below meth c H locs kc ks mc ms (F0 m pc ls (A' ++ u)) u (rr_Qm E ws H.size Qc A'.reverse.toArray) (va_A ws H.size) := by
    rcases l1 with l1 | ⟨host, l1⟩
    · exact va_runS ⟨hx, hb, hml, hown, hts⟩ hM ⟨callB_of n hts (rr_good hm) rfl rfl rfl (hts _ l4) (hts _ l1) l5 ⟨hR1, hR2⟩, hts _ l2⟩ hP rfl hlen hl.1 hst1 (rr_sum8 hu h8) hd ⟨hc, hs⟩
    · exact va_runSN ⟨hx, hb, hml, hown, hts⟩ hM ⟨va_cnB n hts (rr_good hm) rfl rfl rfl (hSt.2.1 _ l1) (hts _ l4) l5 ⟨hR1, hR2⟩, hts _ l2, trivial⟩ hP rfl hlen hl.1 hst1 (rr_sum8 hu h8) hd ⟨hc, hs⟩
  refine rr_callX hrun hW hS hA.1 (fun r r' h' us H1 locs1 q1 q2 q3 q4 q5 => ?_)
  exact k r h' q1 p l e s m args below meth c E A Qf w0 hC hret H1 locs1 us ls l0 _ q3 q4 (hle.trans q5) hl (hlr.mono q5) (rr_vs.app q2.vs (hu.mono q5))
/-- a constructor -/
theorem rr_callI {d idx n : Nat} {y : MethodName} {c2 : ByteArray} {n2 : Nat} {mc ms a : Nat} {As rest : List Value} {Qc : Option Value → rr_H → Prop} (hd : decode cc pc = .ok (.invokespecial idx, 3)) (hL : rr_LI own idx y n) (hm : Cond.code y c2 n2 none ∈ rr_ws) (hSp : rr_Spec d y c2 n2 none mc ms (.ref a :: As) h Qc)
    (hn : As.length = n) (hst0 : st = As.reverse ++ .ref a :: rest) (h8 : (rest.map fun v => v.category).sum ≤ 8) (hR1 : d + 1 ≤ R.frames) (hR2 : 8 + (n2 + 11) + d * 64 ≤ R.locals) (hc : kc + mc ≤ R.cells) (hs : ks + ms ≤ R.slots)
    (k : ∀ r h', Qc r h' → rr_A own cc nL rt kd R Q (kc + mc) (ks + ms) (pc + 3) lv (r.toList ++ rest) h') : rr_A own cc nL rt kd R Q kc ks pc lv st h := by
  intro p l e s m args below meth c E A Qf w0 hC hret H locs ws ls l0 st' hW hS hle hl hlr hst
  obtain ⟨hx, hb, hr, hml, hown, hts, hlk, hin, hSt, hA⟩ := id hC
  rw [hst0] at hst
  obtain ⟨A', B', rfl, g1, g2⟩ := hst.split
  obtain ⟨w, u, rfl, hwv, hu⟩ := g2
  obtain ⟨b, rfl⟩ := rr_refv hwv
  obtain ⟨l1, l2, l3, l4, l5⟩ := hL
  have hAs : rr_vs E ws As A'.reverse := by have := g1.rev; rwa [List.reverse_reverse] at this
  have hM := hSp l E ws (.ref b :: A'.reverse) H.size hW.1 ⟨_, _, rfl, hwv, hAs⟩
  have hst1 : A' ++ .ref b :: u = A'.reverse.reverse ++ .ref b :: u := by rw [List.reverse_reverse]
  have hlen : A'.reverse.length = n := by rw [hAs.length]; exact hn
  have hP : PreS s H (rr_Pm E ws H.size (.ref b :: A'.reverse)) (.ref b :: A'.reverse) := ⟨rr_blind, rr_pre hW hS hA.1 hSt⟩
  have hrun : va_Run p l e R s m args below meth c H locs kc ks mc ms (F0 m pc ls (A' ++ .ref b :: u)) u (rr_Qm E ws H.size Qc (Value.ref b :: A'.reverse).toArray) (va_A ws H.size) := by
    rcases l1 with l1 | ⟨host, l1⟩
    · exact va_runI ⟨hx, hb, hml, hown, hts⟩ hM ⟨callB_of n hts (rr_good hm) rfl rfl rfl (hts _ l4) (hts _ l1) l5 ⟨hR1, hR2⟩, l3, hts _ l2⟩ hP rfl hlen hl.1 hst1 (rr_sum8 hu h8) hd ⟨hc, hs⟩
    · exact va_runIN ⟨hx, hb, hml, hown, hts⟩ hM ⟨va_cnB n hts (rr_good hm) rfl rfl rfl (hSt.2.1 _ l1) (hts _ l4) l5 ⟨hR1, hR2⟩, l3, hts _ l2⟩ hP rfl hlen hl.1 hst1 (rr_sum8 hu h8) hd ⟨hc, hs⟩
  refine rr_callX hrun hW hS hA.1 (fun r r' h' us H1 locs1 q1 q2 q3 q4 q5 => ?_)
  exact k r h' q1 p l e s m args below meth c E A Qf w0 hC hret H1 locs1 us ls l0 _ q3 q4 (hle.trans q5) hl (hlr.mono q5) (rr_vs.app q2.vs (hu.mono q5))
end CALLS
