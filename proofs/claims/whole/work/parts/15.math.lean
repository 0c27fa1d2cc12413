/-! Math.min and System.arraycopy, by the kit. -/

theorem ml_To_67 : Cond.methodLink R_To 67 Lib.MathLoose.min_long.x ∈ rr_ws := rr_inw 322 (by decide +kernel) (by decide +kernel)
theorem ml_Mo_90 : Cond.methodLink R_Mo 90 Lib.MathLoose.min_long.x ∈ rr_ws := rr_inw 554 (by decide +kernel) (by decide +kernel)
theorem ml_Ar_304 : Cond.methodLink R_Ar 304 Lib.Math.min.name ∈ rr_ws := rr_inw 618 (by decide +kernel) (by decide +kernel)
theorem mw_J : Cond.static Lib.MathLoose.min_long.x ∈ rr_ws ∧ Cond.initialized "java/lang/Math" ∈ rr_ws ∧ Cond.code Lib.MathLoose.min_long.x Lib.MathLoose.min_long.code 4 (some .long) ∈ rr_ws := ⟨rr_inw 323 (by decide +kernel) (by decide +kernel), rr_inw 58 (by decide +kernel) (by decide +kernel), rr_inw 324 (by decide +kernel) (by decide +kernel)⟩
theorem mw_I : Cond.static Lib.Math.min.name ∈ rr_ws ∧ Cond.initialized "java/lang/Math" ∈ rr_ws ∧ Cond.code Lib.Math.min.name Lib.Math.min.code 2 (some .int) ∈ rr_ws := ⟨rr_inw 619 (by decide +kernel) (by decide +kernel), rr_inw 58 (by decide +kernel) (by decide +kernel), rr_inw 620 (by decide +kernel) (by decide +kernel)⟩
section MATH
variable {own : String} {cc : ByteArray} {nL : Nat} {rt : Option FieldType} {kd : rr_Kd} {R : Room} {Q : Option Value → rr_H → Prop} {kc ks pc : Nat} {lv : List (Nat × Value)} {st : List Value} {h : rr_H}
theorem rr_minJ {idx : Nat} {x y : Int64} (hd : decode cc pc = .ok (.invokestatic idx, 3)) (hm : Cond.methodLink own idx Lib.MathLoose.min_long.x ∈ rr_ws) (hf : 1 ≤ R.frames) (hlo : (st.map fun v => v.category).sum + 15 ≤ R.locals) (hc : kc ≤ R.cells) (hs : ks ≤ R.slots) (k : rr_A own cc nL rt kd R Q kc ks (pc + 3) lv (.long (if y < x then y else x) :: st) h) : rr_A own cc nL rt kd R Q kc ks pc lv (.long y :: .long x :: st) h := by
  intro p l e s m args below meth c E A Qf w0 hC hret H locs ws ls l0 st' hW hS hle hl hlr hst
  obtain ⟨hx, hb, hr, hml, hown, hts, hlk, hin, hSt, hA⟩ := id hC
  obtain ⟨w, u, rfl, hwv, hu⟩ := hst
  obtain ⟨w2, u2, rfl, hwv2, hu2⟩ := hu
  obtain rfl : w = .long y := hwv
  obtain rfl : w2 = .long x := hwv2
  exact va_mmin_long hx hb (by rw [hml]; exact hl.1.symm) hown (hts _ hm) (hts _ mw_J.1) (hts _ mw_J.2.1) (hts _ mw_J.2.2) hf (by rw [hu2.cats]; exact hlo) hc hs hd (k p l e s m args below meth c E A Qf w0 hC hret H locs ws ls l0 _ hW hS hle hl hlr ⟨_, _, rfl, rfl, hu2⟩)
theorem rr_minI {idx : Nat} {x y : Int32} (hd : decode cc pc = .ok (.invokestatic idx, 3)) (hm : Cond.methodLink own idx Lib.Math.min.name ∈ rr_ws) (hf : 1 ≤ R.frames) (hlo : (st.map fun v => v.category).sum + 13 ≤ R.locals) (hc : kc ≤ R.cells) (hs : ks ≤ R.slots) (k : rr_A own cc nL rt kd R Q kc ks (pc + 3) lv (.int (if y < x then y else x) :: st) h) : rr_A own cc nL rt kd R Q kc ks pc lv (.int y :: .int x :: st) h := by
  intro p l e s m args below meth c E A Qf w0 hC hret H locs ws ls l0 st' hW hS hle hl hlr hst
  obtain ⟨hx, hb, hr, hml, hown, hts, hlk, hin, hSt, hA⟩ := id hC
  obtain ⟨w, u, rfl, hwv, hu⟩ := hst
  obtain ⟨w2, u2, rfl, hwv2, hu2⟩ := hu
  obtain rfl : w = .int y := hwv
  obtain rfl : w2 = .int x := hwv2
  exact va_mmin hx hb (by rw [hml]; exact hl.1.symm) hown (hts _ hm) (hts _ mw_I.1) (hts _ mw_I.2.1) (hts _ mw_I.2.2) hf (by rw [hu2.cats]; exact hlo) hc hs hd (k p l e s m args below meth c E A Qf w0 hC hret H locs ws ls l0 _ hW hS hle hl hlr ⟨_, _, rfl, rfl, hu2⟩)
theorem rr_copyI {idx a b n0 n1 : Nat} {f g : Nat → Int32} {sp dp n : Int32} (hd : decode cc pc = .ok (.invokestatic idx, 3)) (hm : Cond.methodLink own idx arraycopyName ∈ rr_ws) (ha : h[a]? = some (.inl (0, n0, .inl f))) (hb2 : h[b]? = some (.inl (0, n1, .inl g))) (h1 : ¬ sp < 0) (h2 : ¬ dp < 0) (h3 : ¬ n < 0) (h4 : sp.toNatClampNeg + n.toNatClampNeg ≤ n0) (h5 : dp.toNatClampNeg + n.toNatClampNeg ≤ n1) (hf : 1 ≤ R.frames) (hlo : (st.map fun v => v.category).sum + 18 ≤ R.locals)
    (k : rr_A own cc nL rt kd R Q kc ks (pc + 3) lv st (h.set b (.inl (0, n1, .inl (va_cpy f g sp.toNatClampNeg dp.toNatClampNeg n.toNatClampNeg))))) (hka : Nat.ble rr_K0 a = false := by rfl) (hkb : Nat.ble rr_K0 b = false := by rfl) : rr_A own cc nL rt kd R Q kc ks pc lv (.int n :: .int dp :: .ref b :: .int sp :: .ref a :: st) h := by
  intro p l e s m args below meth c E A Qf w0 hC hret H locs ws ls l0 st' hW hS hle hl hlr hst
  obtain ⟨hx, hb, hr, hml, hown, hts, hlk, hin, hSt, hA⟩ := id hC
  obtain ⟨w, u, rfl, hwv, hu⟩ := hst
  obtain ⟨w2, u2, rfl, hwv2, hu2⟩ := hu
  obtain ⟨w3, u3, rfl, hwv3, hu3⟩ := hu2
  obtain ⟨w4, u4, rfl, hwv4, hu4⟩ := hu3
  obtain ⟨w5, u5, rfl, hwv5, hu5⟩ := hu4
  obtain rfl : w = .int n := hwv
  obtain rfl : w2 = .int dp := hwv2
  obtain rfl : w4 = .int sp := hwv4
  obtain ⟨b', y, rfl, g1, rfl⟩ := rr_at hW hwv3 hb2 hkb
  obtain ⟨a', y, rfl, g2, rfl⟩ := rr_at hW hwv5 ha hka
  refine va_copyi (D := E.1) hx hb (by rw [hml]; exact hl.1.symm) hown (hts _ hm) (hts _ rr_wSy.1) (hts _ rr_wSy.2.1) (hts _ rr_wSy.2.2) hSt.1 hW.2.1 hW.2.2 hS a b 0 0 g2 g1 rfl rfl rfl h1 h2 h3 h4 h5 (fun _ _ => rfl) hf (by rw [hu5.cats]; exact hlo) hd ?_
  intro H1 locs1 hP1 hD1 hS1
  have hle2 := rr_le.set (y := .inl (E.2.1 0, n1, .inl (va_cpy f g sp.toNatClampNeg dp.toNatClampNeg n.toNatClampNeg))) g1
  exact k p l e s m args below meth c E A Qf w0 hC hret H1 locs1 _ ls l0 _ ⟨hW.1.set g1 rfl, hP1, hD1⟩ hS1 (hle.trans hle2) hl (hlr.mono hle2) (hu5.mono hle2)
end MATH
