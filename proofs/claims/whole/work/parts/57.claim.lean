/-! THE CLAIM OUT OF ONE WALK OF THE LAW'S BODY. Your part is whole_start (and what it stands on); all else here is the same for every law, but numbers. -/
def R_law : String := "RuleRunnerLaw"
def lw_P (b : Addr) (xs : List Int32) (args : Array Value) (s : State) : Prop := args = #[.ref b] ∧ s.IntsAt b xs ∧ xs.length ≤ 3072 ∧ (Jvm.Cond.and given_1 narrow_1).before args s = true
def lw_Q (_ : Array Value) (s : State) (o : Outcome) (t : State) : Prop := o = .returned (some (.int 1)) ∧ Framed s o t [] 600000 7302250
def lw_Z (below : List Frame) (a : Array Value) (s : State) : State → Prop := fun t => ∃ o, t.status = .running ∧ Ended t below o ∧ lw_Q a s o t
/-- the law's own end, with 1 on the stack, nothing written that was there before, its room as the claim has it -/
theorem lw_ret {p : Program} {l : Launch} {e : Env} {s : State} {m : MethodId} {below : List Frame} {meth : Method} {c : Code} {b : Nat} (hx : p.tables.exec = Jvm.exec) (hb : c.code = code) (hr : meth.sig.returnType = ret) (hlocks : meth.locks = false) {pc : Nat} {H : Heap} {ls : Array Slot} (hdg : decode code pc = .ok (.ireturn, 1)) : W p l e room_1 s m #[Value.ref b] below meth c H [] 600000 7302250 (lw_Z below #[Value.ref b] s) (F0 m pc ls [.int 1]) := by
  intro T hT X
  obtain ⟨fs, hret, hrun, hended, hW, hframe⟩ := X.leave (v := some (.int 1)) (hlocks := hlocks) (fun h => by rw [hr] at h; cases h)
  have hmeth' : T.vm.method? m = some meth := X.method'
  refine ⟨T.setFrames fs, ?_, .returned (some (.int 1)), hrun, hended, rfl, ⟨_, rfl⟩, hW, hframe⟩
  jvm_step X.here [X.here.top, hx, hb, hdg, hmeth', hr, ret, narrow_b1]
  (try refine ⟨rfl, ?_⟩); (try refine ⟨rfl, ?_⟩)
  first | (intro acts; rw [hret _ acts rfl rfl rfl]) | rw [hret _ _ rfl rfl rfl]
  exact Steps.refl _
/-- what holds at the law's entry: the machine, the code, the tables' words (any of lw_tbl by 'hts w (by decide +kernel)'), the script of L ints xs at the cell b, what the Statement gives of the start (any of its parts by flat_of_before) -/
def lw_At (p : Program) (s : State) (m : MethodId) (meth : Method) (c : Code) (b L : Nat) (xs : Nat → Int32) : Prop :=
  p.tables.exec = Jvm.exec ∧ c.code = code ∧ meth.sig.returnType = ret ∧ c.maxLocals = 4 ∧ s.vm.findClass R_law = some m.cls ∧ (∀ w ∈ lw_tbl, w.before #[Value.ref b] s = true) ∧ va_X b L xs s s.heap ∧ b < s.heap.size ∧ meth.locks = false ∧ (Jvm.Cond.and given_1 narrow_1).before #[Value.ref b] s = true
set_option maxRecDepth 100000 in
set_option maxHeartbeats 4000000 in
theorem whole_start {p : Program} {e : Env} {s : State} {m : MethodId} {below : List Frame} {meth : Method} {c : Code} (l : Launch) {b L : Nat} {xs : Nat → Int32} (hL : L ≤ 3072) (C0 : lw_At p s m meth c b L xs) : W p l e room_1 s m #[Value.ref b] below meth c s.heap [] 0 0 (lw_Z below #[Value.ref b] s) (entryFrame m ([Value.ref b] : List Value).toArray 4) := by
  obtain ⟨hx, hb, hr, hml, hown, hts, hX, hbl, hlocks, hgv⟩ := id C0
  have hws : ∀ w ∈ rr_ws, w.before #[Value.ref b] s = true := fun w hw => hts w (List.mem_filter.mp hw).1
  have hA0 : ∀ a : Nat, a < s.heap.size → ¬ (fun q : Nat => s.heap.size ≤ q) a := fun a h => Nat.not_le.mpr h
  have hfl : ∀ (i : Nat) (w : Cond), rr_fl[i]? = some w → w.before #[Value.ref b] s = true := fun i w h => flat_of_before _ hgv w (List.mem_of_getElem? h)
  obtain ⟨c0, i0, k0⟩ := u_known (C := R_Co) (T := T_Co) (N := 5) (n := 5) hws wi_Co (hts (.instantiable R_Co 5) (List.mem_of_getElem? (i := 116) (by decide +kernel)))
  obtain ⟨c1, i1, k1⟩ := u_known (C := R_Ma) (T := T_Ma) (N := 11) (n := 11) hws wi_Ma (hts (.instantiable R_Ma 11) (List.mem_of_getElem? (i := 156) (by decide +kernel)))
  obtain ⟨c2, i2, k2⟩ := u_known (C := R_Re) (T := T_Re) (N := 4) (n := 4) hws wi_Re (hts (.instantiable R_Re 4) (List.mem_of_getElem? (i := 87) (by decide +kernel)))
  obtain ⟨c3, i3, k3⟩ := u_known (C := R_Ta) (T := T_Ta) (N := 2) (n := 2) hws wi_Ta (hts (.instantiable R_Ta 2) (List.mem_of_getElem? (i := 70) (by decide +kernel)))
  obtain ⟨c4, i4, k4⟩ := u_known (C := R_To) (T := T_To) (N := 4) (n := 4) hws wi_To (hts (.instantiable R_To 4) (List.mem_of_getElem? (i := 93) (by decide +kernel)))
  obtain ⟨c5, i5, k5⟩ := u_known (C := R_Ru) (T := T_Ru) (N := 4) (n := 4) hws wi_Ru (hts (.instantiable R_Ru 4) (List.mem_of_getElem? (i := 62) (by decide +kernel)))
  obtain ⟨c6, i6, k6⟩ := u_known (C := R_Mo) (T := T_Mo) (N := 20) (n := 20) hws wi_Mo (hts (.instantiable R_Mo 20) (List.mem_of_getElem? (i := 447) (by decide +kernel)))
  obtain ⟨cI, kI, mI, f1, f2, f3⟩ := Cond.arrayClass_spec (hws _ rr_wI)
  obtain ⟨cB, kB, mB, g1, g2, g3⟩ := Cond.arrayClass_spec (hws _ rr_wB)
  obtain ⟨adK, adV, hS1, hS2⟩ := vk_Sof (args := #[Value.ref b]) (s := s) (N := 18) (tm := rr_tm) (len := rr_len) (byt := rr_byt) (A := fun q : Nat => s.heap.size ≤ q) rr_l31 (fun i hi => hfl _ _ (rr_oE i hi)) (fun i hi => hfl _ _ (rr_oC i hi)) (fun i hi => hfl _ _ (rr_oA i hi)) (fun i hi => hfl _ _ (rr_oL i hi)) (fun i hi j hj => hfl _ _ (rr_oB i hi j hj)) (fun i j hi hj hij => (rr_oN i hi j hj hij).elim (fun h => Or.inl (hfl _ _ h)) (fun h => Or.inr (hfl _ _ h))) hA0
  have hZ1 : va_Z "java/lang/String" "COMPACT_STRINGS" "Z" (.int 1) (fun q : Nat => s.heap.size ≤ q) s s.heap := va_Zof (args := #[Value.ref b]) (hts _ (List.mem_of_getElem? (i := 264) (by decide +kernel))) (hts _ (List.mem_of_getElem? (i := 54) (by decide +kernel))) (va_eqi (hfl _ _ rr_qZ)) hA0
  have hZ2 : va_Zq "jdk/internal/util/Preconditions" "SIOOBE_FORMATTER" "Ljava/util/function/BiFunction;" (fun q : Nat => s.heap.size ≤ q) s s.heap := va_Zqof (args := #[Value.ref b]) (hts _ (List.mem_of_getElem? (i := 280) (by decide +kernel))) (hts _ (List.mem_of_getElem? (i := 56) (by decide +kernel))) (hfl _ _ rr_qF) hA0
  obtain ⟨t, hZ3⟩ : ∃ t : Nat, va_Z "jdk/internal/util/Preconditions" "SIOOBE_FORMATTER" "Ljava/util/function/BiFunction;" .null (fun q : Nat => s.heap.size ≤ q) s s.heap ∨ va_Z "jdk/internal/util/Preconditions" "SIOOBE_FORMATTER" "Ljava/util/function/BiFunction;" (.ref t) (fun q : Nat => s.heap.size ≤ q) s s.heap := by
    rcases hZ2 with h | ⟨t, h⟩
    · exact ⟨0, Or.inl h⟩
    · exact ⟨t, Or.inr h⟩
  have hT : va_T .int b L (fun j => .int (xs j)) (fun q : Nat => s.heap.size ≤ q) s s.heap := by
    obtain ⟨scr, h1, h2, h3, h4, h5⟩ := hX
    exact ⟨scr, h1, h2, h3, Nat.le_of_eq h4.symm, by rw [h4] <;> rfl, h5, hA0 b hbl⟩
  obtain ⟨E, hE1, hE2, hE3, hE4, hE5, hE6, hE7, hE8, hE9⟩ : ∃ E : rr_E, (∀ (k : Nat) (q : vw_C), rr_cl[k]? = some q → u_Kn s q.1 q.2.1 q.2.2 (E.1.1 k) (E.1.2 k)) ∧ E.2.1 0 = cI ∧ E.2.1 1 = cB ∧ (∀ i, i < 18 → E.2.2.1 i = adK i) ∧ (∀ i, i < 18 → E.2.2.1 (100 + i) = adV i) ∧ E.2.2.1 200 = b ∧ E.2.2.1 300 = t ∧ E.2.2.2.1 = L ∧ E.2.2.2 = (L, xs) := by
    refine ⟨((fun k => [c0, c1, c2, c3, c4, c5, c6].getD k 0, fun k => [i0, i1, i2, i3, i4, i5, i6].getD k (fun _ => 0)), (fun k => if k = 0 then cI else cB), (fun k => if k < 100 then adK k else if k < 200 then adV (k - 100) else if k = 200 then b else t), L, xs), ?_, rfl, rfl, fun i hi => ?_, fun i hi => ?_, rfl, rfl, rfl, rfl⟩
    · intro k q hq
      match k, hq with
      | 0, hq => cases hq; exact k0
      | 1, hq => cases hq; exact k1
      | 2, hq => cases hq; exact k2
      | 3, hq => cases hq; exact k3
      | 4, hq => cases hq; exact k4
      | 5, hq => cases hq; exact k5
      | 6, hq => cases hq; exact k6
      | k + 7, hq => simp at hq
    · show (if i < 100 then adK i else _) = adK i
      rw [if_pos (by omega)]
    · show (if 100 + i < 100 then _ else if 100 + i < 200 then adV (100 + i - 100) else _) = adV i
      rw [if_neg (by omega), if_pos (by omega), Nat.add_sub_cancel_left]
  have hev : ∀ i, i < 18 → (rr_tm i).eval #[Value.ref b] s none [] s = some (.ref (E.2.2.1 i)) := fun i hi => by rw [hE4 i hi]; exact hS2 i hi
  have hSS : rr_S E (fun q : Nat => s.heap.size ≤ q) s s.heap := by
    refine ⟨⟨hE1, fun k q hq => ?_⟩, fun w hw => va_Nw.of (rr_isN_tab (rr_nw_is hw)) (hts w (List.mem_filter.mp hw).1), ⟨fun i hi => ?_, fun i j hi hj h => ?_⟩, fun q hq => ?_, hZ1, by rw [hE7]; exact hZ3, by rw [hE6, hE9]; exact hT⟩
    · match k, hq with
      | 0, hq => cases hq; rw [hE2]; exact ⟨fun n z => ⟨fun k h => (by cases h), kI, f2, mI, f3⟩, f1⟩
      | 1, hq => cases hq; rw [hE3]; exact ⟨fun n z => ⟨fun k h => (by cases h), kB, g2, mB, g3⟩, g1⟩
      | k + 2, hq => simp [rr_tys] at hq
    · have h9 := hS1.1 i hi
      rw [← hE4 i hi, ← hE5 i hi] at h9
      exact h9
    · have h9 := hS1.2 i j hi hj
      rw [← hE4 i hi, ← hE4 j hj] at h9
      exact h9 h
    · have hr9 : ∀ (r : String × Nat × String × Nat), r ∈ rr_str → (Cond.stringRef r.1 r.2.1 r.2.2.1).before #[Value.ref b] s = true := by
        intro r hr
        have h1 : some (Cond.stringRef r.1 r.2.1 r.2.2.1) ∈ rr_str.map (fun q => some (Cond.stringRef q.1 q.2.1 q.2.2.1)) := List.mem_map.mpr ⟨r, hr, rfl⟩
        rw [rr_oS] at h1
        obtain ⟨i, -, hi⟩ := List.mem_map.mp h1
        exact hts _ (List.mem_of_getElem? hi)
      have hq1 := hr9 q hq
      simp only [rr_str, List.mem_cons, List.not_mem_nil, or_false] at hq
      rcases hq with rfl | rfl | rfl | rfl | rfl | rfl | rfl | rfl | rfl | rfl | rfl | rfl | rfl | rfl | rfl | rfl | rfl | rfl | rfl | rfl | rfl | rfl | rfl | rfl | rfl
      · exact vk_R.of hq1 (hev 6 (by decide))
      · exact vk_R.of hq1 (hev 0 (by decide))
      · exact vk_R.of hq1 (hev 1 (by decide))
      · exact vk_R.of hq1 (hev 2 (by decide))
      · exact vk_R.of hq1 (hev 3 (by decide))
      · exact vk_R.of hq1 (hev 4 (by decide))
      · exact vk_R.of hq1 (hev 5 (by decide))
      · exact vk_R.of hq1 (va_eqR (hfl _ _ rr_q0) (hev 0 (by decide)))
      · exact vk_R.of hq1 (va_eqR (hfl _ _ rr_q1) (hev 1 (by decide)))
      · exact vk_R.of hq1 (va_eqR (hfl _ _ rr_q2) (hev 2 (by decide)))
      · exact vk_R.of hq1 (va_eqR (hfl _ _ rr_q3) (hev 3 (by decide)))
      · exact vk_R.of hq1 (va_eqR (hfl _ _ rr_q4) (hev 4 (by decide)))
      · exact vk_R.of hq1 (va_eqR (hfl _ _ rr_q5) (hev 5 (by decide)))
      · exact vk_R.of hq1 (va_eqR (hfl _ _ rr_q6) (hev 6 (by decide)))
      · exact vk_R.of hq1 (hev 7 (by decide))
      · exact vk_R.of hq1 (hev 8 (by decide))
      · exact vk_R.of hq1 (hev 9 (by decide))
      · exact vk_R.of hq1 (hev 10 (by decide))
      · exact vk_R.of hq1 (hev 11 (by decide))
      · exact vk_R.of hq1 (hev 12 (by decide))
      · exact vk_R.of hq1 (hev 13 (by decide))
      · exact vk_R.of hq1 (hev 14 (by decide))
      · exact vk_R.of hq1 (hev 15 (by decide))
      · exact vk_R.of hq1 (hev 16 (by decide))
      · exact vk_R.of hq1 (hev 17 (by decide))
  have hl := lv_entry ([.ref b]) (n := 4) (Nat.le_of_ble_eq_true rfl)
  rw [lg_entry_eq]
  generalize (lg_sl ([.ref b]) ++ List.replicate (4 - (lg_sl ([.ref b])).length) Slot.unset).toArray = ls at hl ⊢
  have hl : lv_has ls 4 [(0, .ref b)] := hl
  refine lw_main (xs := xs) hL p l e s m #[Value.ref b] below meth c E (fun q : Nat => s.heap.size ≤ q) (lw_Z below #[Value.ref b] s) [] ⟨hx, hb, hr, hml, hown, hws, hlocks, fun h => (by cases h), hSS, fun _ h => h, fun X hX => (by cases hX; exact hE9)⟩ ?_ s.heap [] [] ls [(0, .ref b)] [] ⟨⟨rfl, fun k x h => (by simp at h)⟩, fun k q h => (by simp at h), fun i j p q h => (by simp at h), fun k q h => (by simp at h)⟩ va_S.rf (fun h => (by cases h)) hl ⟨.ref b, [], rfl, ?_, rfl⟩ rfl
  · intro r r' h' us H locs pc' ls2 hRt hQ ho hWd hS hle
    obtain rfl : r = some (.int 1) := hQ
    obtain ⟨w', rfl, hw'⟩ := ho
    obtain rfl : w' = .int 1 := hw'
    exact va_forget (fun q hq => hS.2.2 q hq) (lw_ret hx hb hr hlocks hRt.1)
  · unfold rr_v
    dsimp only
    rw [if_neg (show ¬ rr_K0 + 200 < rr_K0 by omega), Nat.add_sub_cancel_left, hE6]
set_option maxHeartbeats 4000000 in
theorem lw_walk (l : Launch) (b : Addr) (xs : List Int32) : MetFree l x (headSpec (Jvm.Cond.code x code maxLocals ret :: tables_1) room_1) (lw_P b xs) (fun _ _ _ _ _ => True) lw_Q := by
  refine MetFree.of_bodyS (code := code) (maxLocals := maxLocals) (ret := ret) (by decide) ?_ ?_
  · intro args s m h hn
    obtain ⟨meth, c, h1, h2, h3, h4, h5, h6, -, -⟩ := Cond.code_spec hn (atoms_spec (ws := Jvm.Cond.code x code maxLocals ret :: tables_1) h _ List.mem_cons_self)
    exact ⟨meth, c, h1, h2, h3, h4, h5, h6⟩
  · intro p e s m args below meth c s₁ B hml0 hP _
    obtain ⟨rfl, hx, hbd, hgv⟩ := hP
    obtain ⟨scr, harrAt, hlist, hof, hsmall⟩ := hx
    obtain ⟨hcb, hkn, -, -⟩ := State.arrayAt?_spec harrAt
    have hown : s.vm.findClass R_law = some m.cls := findClass_of_methodNamed B.named
    have hts0 : ∀ c ∈ (Jvm.Cond.code x code maxLocals ret :: tables_1), c.before #[Value.ref b] s = true := atoms_spec (ws := Jvm.Cond.code x code maxLocals ret :: tables_1) B.pre
    have hts : ∀ w ∈ lw_tbl, w.before #[Value.ref b] s = true := k2_hts_sels lw_privs (fun w hw => hts0 w (List.mem_cons_of_mem _ hw)) lw_privs_ok
    have hml : c.maxLocals = 4 := B.maxLocals_eq (hts0 _ List.mem_cons_self)
    have X₀ : Stand p l e room_1 s m #[Value.ref b] below meth c s₁ [] 0 0 := Stand.of_body B
    have hh0 : s₁.heap = s.heap := by rw [B.state]; rfl
    have hsz : scr.slots.size = xs.length := by rw [← Array.length_toList, hlist, List.length_map]
    have hval : ∀ j : Nat, j < xs.length → scr.slots[j]? = some (.int (xs.getD j 0)) := fun j hj => by
      rw [← Array.getElem?_toList, hlist]
      simp [hj]
    have hbl : b < s.heap.size := (Array.getElem?_eq_some_iff.mp hcb).1
    have hX : va_X b xs.length (fun j => xs.getD j 0) s s.heap := ⟨scr, hcb, hof, hkn, hsz, hval⟩
    have K : W p l e room_1 s m #[Value.ref b] below meth c s₁.heap [] 0 0 (lw_Z below #[Value.ref b] s) (entryFrame m ([Value.ref b] : List Value).toArray 4) := by
      rw [hh0]
      exact whole_start l hbd ⟨B.exec, B.bytes, B.returns, hml, hown, hts, hX, hbl, B.notSynchronized, hgv⟩
    obtain ⟨t, a1, o, b1, b2, b3⟩ := K s₁ rfl X₀
    exact ⟨t, o, a1, b1, b2, b3⟩
theorem lw_pre_spec {args : Array Value} {s : State} (h : (Jvm.Cond.and given_1 narrow_1).before args s = true) (hr : rest_1_c.before args s = true) : ∃ (b : Addr) (xs : List Int32), lw_P b xs args s := by
  have hs := flat_of_before _ h
  have hq := flat_of_before _ hr
  have hc : (Cond.count 1).before args s = true := hs _ (by decide +kernel)
  have harr : (Cond.arrayOf (.arg 0) .int).before args s = true := hs _ (by decide +kernel)
  have hle : (Cond.le (.length (.arg 0)) (.int 3072)).before args s = true := hs _ (by decide +kernel)
  have hlen : (Cond.isInt (.length (.arg 0))).before args s = true := hq _ (by decide +kernel)
  have hall : (Cond.all (.arg 0) (.isInt (.elem (.arg 0) (.index 0)))).before args s = true := hq _ (by decide +kernel)
  obtain ⟨b, xs, hb, hx⟩ := State.ints_of_pre rfl harr hlen hall
  have hsm : xs.length < 2 ^ 31 := hx.choose_spec.2.2.2
  have hev : (Term.length (.arg 0)).eval args s none [] s = some (.int xs.length.toInt32) := hx.length_eval hb
  have hv := Cond.le_ints hev (show (Term.int 3072).eval args s none [] s = some (.int 3072) from rfl)
  have hd : xs.length.toInt32 ≤ 3072 := by
    simpa [Cond.before, Cond.holds, hv] using hle
  have hN : xs.length ≤ 3072 := (Int32.ofNat_le_ofNat hsm (by decide)).mp (show Int32.ofNat xs.length ≤ Int32.ofNat 3072 from hd)
  exact ⟨b, xs, Cond.one_arg hc (show args[0]? = some (.ref b) from hb), hx, hN, h⟩
theorem lw_comes (l : Launch) : Comes l x (Jvm.Cond.code x code maxLocals ret :: tables_1) room_1 (fun tb e args s => Calls_1 tb e args s ∧ rest_1 tb e args s ∧ Pre_1 tb e args s)
    (fun _ _ args s o t => lw_Q args s o t) := by
  intro p e ha hc hk s m args below hf hfit hheap happ hpre
  obtain ⟨b, xs, hP⟩ := lw_pre_spec hpre.2.2 hpre.2.1
  obtain ⟨k, o, h1, h2, h3, hQ⟩ := lw_walk l b xs p e ha hc hk s m args below hf ((Spec.applies_iff_loose hf).mp happ).1 hP trivial
  exact ⟨k, o, h1, h2, h3, hQ⟩
theorem lw_frame {s t : State} {o : Outcome} {args : Array Value} (h : Framed s o t [] 600000 7302250) :
    Framed s o t (fieldLocs frame_1_writes args s ++ arrayLocs frame_1_arrays args s ++ staticLocs frame_1_statics s) 600000 7302250 := h
theorem lw_limb (L : Cond) (hL : ∀ (args : Array Value) (s t : State), L.after args s (.returned (some (.int 1))) t = true) :
    ArmFor flags0 classFile x code maxLocals ret World_1 tables_1 room_1 Calls_1 rest_1 Pre_1
      (fun tb e a s o t => postC L tb e a s o t ∧ Framed s o t (fieldLocs frame_1_writes a s ++ arrayLocs frame_1_arrays a s ++ staticLocs frame_1_statics s) 600000 7302250) := by
  intro l _ _ _ p e ha hc hk s m args below hf hfit hheap happ hpre
  obtain ⟨k, o, h1, h2, h3, rfl, hF⟩ := lw_comes l p e ha hc hk s m args below hf hfit hheap happ hpre
  exact ⟨k, _, h1, h2, h3, hL args s _, lw_frame hF⟩
theorem i_vc : Claimed_1_1 ∧ Claimed_1_2 := ⟨lw_limb limb_1_1 (fun args s t => by simp [limb_1_1, Cond.after, Cond.holds, Cond.value]), lw_limb limb_1_2 (fun args s t => Cond.after_iff.mpr (by
  first | (rw [show limb_1_2 = Cond.eq .result (.int 1) from rfl, Cond.eq_ints (x := 1) (y := 1) rfl rfl]; simp; done) | (simp [limb_1_2, Cond.value, Term.eval]; done)))⟩
