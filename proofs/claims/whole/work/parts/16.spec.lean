/-! What both programs compute: tokens. -/
def sp_b (b : Bool) : Int32 := cond b 1 0
def sp_isL (x : Int32) : Bool := decide (97 ≤ x) && decide (x ≤ 122)
def sp_isD (x : Int32) : Bool := decide (48 ≤ x) && decide (x ≤ 57)
/-- the first place from p on, of the next k, where P doesn't hold -/
def sp_run (P : Int32 → Bool) (f : Nat → Int32) : Nat → Nat → Nat
  | p, 0 => p
  | p, k + 1 => if P (f p) = true then sp_run P f (p + 1) k else p
def sp_dg (x : Int32) : Nat := x.toNatClampNeg - 48
/-- the number that the digits from p on say, a ahead of them -/
def sp_nv (f : Nat → Int32) : Nat → Nat → Nat → Nat
  | _, 0, a => a
  | p, k + 1, a => if sp_isD (f p) = true then sp_nv f (p + 1) k (a * 10 + sp_dg (f p)) else a
def sp_eqs (f : Nat → Int32) (p j : Nat) : Nat → Nat → Bool
  | _, 0 => true
  | i, k + 1 => decide (f (p + i) = sp_ch j i) && sp_eqs f p j (i + 1) k
def sp_spell (f : Nat → Int32) (p e j : Nat) : Bool := decide (p + rr_len.getD j 0 = e) && sp_eqs f p j 0 (rr_len.getD j 0)
/-- kinds of tokens: 0 end, 1 none, 2 if, 3 then, 4 else, 5 and, 6 server, 7 stamp, 8 c, 9 number, 10 = 11 # 12 < 13 > 14 + 15 - 16 * 17 := 18 , 19 ( 20 ) -/
def sp_wk (f : Nat → Int32) (p e : Nat) : Nat := if sp_spell f p e 6 = true then 8 else if sp_spell f p e 0 = true then 2 else if sp_spell f p e 1 = true then 3 else if sp_spell f p e 2 = true then 4 else if sp_spell f p e 3 = true then 5 else if sp_spell f p e 4 = true then 6 else if sp_spell f p e 5 = true then 7 else 1
def sp_sk (x : Int32) : Nat := if x = 61 then 10 else if x = 35 then 11 else if x = 60 then 12 else if x = 62 then 13 else if x = 43 then 14 else if x = 45 then 15 else if x = 42 then 16 else if x = 44 then 18 else if x = 40 then 19 else if x = 41 then 20 else 1
/-- the token at p (no blank, below n): its kind, its value, the place behind it -/
def sp_tok (f : Nat → Int32) (n p : Nat) : Nat × Int32 × Nat :=
  if sp_isL (f p) = true then (sp_wk f p (sp_run sp_isL f p (n - p)), 0, sp_run sp_isL f p (n - p))
  else if sp_isD (f p) = true then (if sp_nv f p (n - p) 0 < 2147483648 then (9, nI (sp_nv f p (n - p) 0), sp_run sp_isD f p (n - p)) else (1, 0, sp_run sp_isD f p (n - p)))
  else if f p = 58 ∧ p + 1 < n ∧ f (p + 1) = 61 then (17, 0, p + 2)
  else (sp_sk (f p), 0, p + 1)
/-- the next token from p on, blanks passed: kind, value, place, the place behind it -/
def sp_next (f : Nat → Int32) (n p : Nat) : Nat × Int32 × Nat × Nat :=
  let q := sp_run (fun x => decide (x = 32)) f p (n - p)
  if q < n then ((sp_tok f n q).1, (sp_tok f n q).2.1, q, (sp_tok f n q).2.2) else (0, 0, n, n)
theorem sp_run_ge {P : Int32 → Bool} {f : Nat → Int32} : ∀ (k p : Nat), p ≤ sp_run P f p k ∧ sp_run P f p k ≤ p + k
  | 0, p => ⟨Nat.le_refl _, Nat.le_refl _⟩
  | k + 1, p => by
    unfold sp_run
    split
    · have := sp_run_ge (P := P) (f := f) k (p + 1)
      omega
    · omega
theorem sp_run_pos {P : Int32 → Bool} {f : Nat → Int32} {k p : Nat} (hk : 0 < k) (hp : P (f p) = true) : p < sp_run P f p k := by
  obtain ⟨k, rfl⟩ : ∃ j, k = j + 1 := ⟨k - 1, by omega⟩
  unfold sp_run
  rw [if_pos hp]
  have := sp_run_ge (P := P) (f := f) k (p + 1)
  omega
theorem sp_isD_of {x : Int32} (h : sp_isD x = true) : ∃ c : Nat, 48 ≤ c ∧ c ≤ 57 ∧ x = nI c := by
  unfold sp_isD at h
  simp only [Bool.and_eq_true, decide_eq_true_eq] at h
  obtain ⟨h1, h2⟩ := h
  have h0 : ¬ x < 0 := by
    intro q
    have a : x.toInt < 0 := by simpa using Int32.lt_iff_toInt_lt.mp q
    have b : (48 : Int) ≤ x.toInt := by simpa using Int32.le_iff_toInt_le.mp h1
    omega
  obtain ⟨j, hj, rfl⟩ := nI_of h0
  refine ⟨j, ?_, ?_, rfl⟩
  · exact (nI_leI (a := 48) (b := j) (by omega) hj).mp h1
  · exact (nI_leI (a := j) (b := 57) hj (by omega)).mp h2
