/-! two lines instead of one: shared by the two sides -/
def lbS (m : Nat) : Nat := m &&& (1024 - m)
def lbA : Bool := (List.range 1024).all (fun m => m == 0 || ((nI m &&& -(nI m)) == nI (lbS m) && (decide (lbS m ≤ m) && [1, 2, 4, 8, 16, 32, 64, 128, 256, 512].contains (lbS m))))
theorem lbA_t : lbA = true := by decide +kernel
def lbB : Bool := [1, 2, 4, 8, 16, 32, 64, 128, 256, 512].all (fun P => decide (0 < P) && (List.range P).all (fun x => x &&& P == 0))
theorem lbB_t : lbB = true := by decide +kernel
theorem lbS_fact {m : Nat} (h : m < 1024) (h0 : 0 < m) : (nI m &&& -(nI m)) = nI (lbS m) ∧ lbS m ≤ m ∧ 0 < lbS m ∧ ∀ x, x < lbS m → x &&& lbS m = 0 := by
  have h1 := List.all_eq_true.mp lbA_t m (List.mem_range.mpr h)
  rw [Bool.or_eq_true, beq_iff_eq, Bool.and_eq_true, beq_iff_eq, Bool.and_eq_true, decide_eq_true_eq] at h1
  rcases h1 with h1 | ⟨h1, h2, h3⟩
  · omega
  · have h4 := List.all_eq_true.mp lbB_t (lbS m) (List.contains_iff_mem.mp h3)
    rw [Bool.and_eq_true, decide_eq_true_eq] at h4
    exact ⟨h1, h2, h4.1, fun x hx => beq_iff_eq.mp (List.all_eq_true.mp h4.2 x (List.mem_range.mpr hx))⟩
def spT (set part : Nat) : Bool := clr part set == 0 && part &&& lbS set != 0
def spN (gr so : Nat → Nat) (set part : Nat) (b : Nat × Nat × Nat × Nat) : Nat × Nat × Nat × Nat :=
  if b.1 = 1 ∧ b.2.2.1 < gr part + gr (clr set part) then b else
  if so part = 0 ∨ so (clr set part) = 0 then b else
  if b.1 = 0 ∨ gr part + gr (clr set part) < b.2.2.1 ∨ b.2.2.2 < (so part - 1) + (so (clr set part) - 1) then (1, part, gr part + gr (clr set part), (so part - 1) + (so (clr set part) - 1)) else b
def spF (gr so : Nat → Nat) (set : Nat) : Nat → Nat × Nat × Nat × Nat
  | 0 => (0, 0, 0, 0)
  | k + 1 => if spT set k then spN gr so set k (spF gr so set k) else spF gr so set k
theorem spF_low {gr so : Nat → Nat} {set : Nat} (h : set < 1024) (h0 : 0 < set) : ∀ k, k ≤ lbS set → spF gr so set k = (0, 0, 0, 0)
  | 0, _ => rfl
  | k + 1, hk => by
    have h1 : spT set k = false := by
      unfold spT
      rw [(lbS_fact h h0).2.2.2 k (by omega)]
      exact Bool.and_false _
    rw [spF, h1]
    exact spF_low h h0 k (by omega)
def spOk (b : Nat × Nat × Nat × Nat) : Prop := b.1 ≤ 1 ∧ b.2.1 < 1024 ∧ b.2.2.1 ≤ 100 ∧ b.2.2.2 ≤ 1000
theorem spN_ok {gr so : Nat → Nat} {set part : Nat} {b : Nat × Nat × Nat × Nat} (hg : ∀ m, gr m ≤ 50) (hs : ∀ m, so m ≤ 201) (hp : part < 1024) (hb : spOk b) : spOk (spN gr so set part b) := by
  unfold spN
  split
  · exact hb
  · split
    · exact hb
    · split
      · have := hg part
        have := hg (clr set part)
        have := hs part
        have := hs (clr set part)
        exact ⟨Nat.le_refl _, hp, by show gr part + gr (clr set part) ≤ 100; omega, by show (so part - 1) + (so (clr set part) - 1) ≤ 1000; omega⟩
      · exact hb
theorem spF_ok {gr so : Nat → Nat} {set : Nat} (hg : ∀ m, gr m ≤ 50) (hs : ∀ m, so m ≤ 201) : ∀ k, k ≤ 1024 → spOk (spF gr so set k)
  | 0, _ => by rw [spF]; exact ⟨Nat.zero_le _, by decide, Nat.zero_le _, Nat.zero_le _⟩
  | k + 1, hk => by
    rw [spF]
    split
    · exact spN_ok hg hs (by omega) (spF_ok hg hs k (by omega))
    · exact spF_ok hg hs k (by omega)
theorem spN_1 {gr so : Nat → Nat} {set part : Nat} {b : Nat × Nat × Nat × Nat} (h : b.1 = 1 ∧ b.2.2.1 < gr part + gr (clr set part)) : spN gr so set part b = b := by unfold spN; rw [if_pos h]
theorem spN_2 {gr so : Nat → Nat} {set part : Nat} {b : Nat × Nat × Nat × Nat} (h : so part = 0 ∨ so (clr set part) = 0) : spN gr so set part b = b := by
  unfold spN
  rw [if_pos h]
  split <;> rfl
theorem spN_3 {gr so : Nat → Nat} {set part : Nat} {b : Nat × Nat × Nat × Nat} (h1 : ¬ (b.1 = 1 ∧ b.2.2.1 < gr part + gr (clr set part))) (h2 : ¬ (so part = 0 ∨ so (clr set part) = 0)) (h3 : b.1 = 0 ∨ gr part + gr (clr set part) < b.2.2.1 ∨ b.2.2.2 < (so part - 1) + (so (clr set part) - 1)) : spN gr so set part b = (1, part, gr part + gr (clr set part), (so part - 1) + (so (clr set part) - 1)) := by
  unfold spN; rw [if_neg h1, if_neg h2, if_pos h3]
theorem spN_4 {gr so : Nat → Nat} {set part : Nat} {b : Nat × Nat × Nat × Nat} (h3 : ¬ (b.1 = 0 ∨ gr part + gr (clr set part) < b.2.2.1 ∨ b.2.2.2 < (so part - 1) + (so (clr set part) - 1))) : spN gr so set part b = b := by
  unfold spN
  rw [if_neg h3]
  split
  · rfl
  · split <;> rfl
theorem clr_xor {set part : Nat} (h : clr part set = 0) : set ^^^ part = clr set part := by
  apply Nat.eq_of_testBit_eq
  intro i
  have h1 := congrArg (fun z => z.testBit i) h
  simp only [clr_bit, Nat.zero_testBit] at h1
  rw [Nat.testBit_xor, clr_bit]
  cases hp : part.testBit i <;> cases hs : set.testBit i <;> rw [hp, hs] at h1 <;> first | rfl | cases h1
theorem clr_pos {set part : Nat} (h : clr part set = 0) (hlt : part < set) : 0 < clr set part := by
  rcases Nat.eq_zero_or_pos (clr set part) with e | e
  · exfalso
    rw [← clr_xor h] at e
    have : set = part := by
      apply Nat.eq_of_testBit_eq
      intro i
      have h1 := congrArg (fun z => z.testBit i) e
      simp only [Nat.testBit_xor, Nat.zero_testBit] at h1
      cases hp : part.testBit i <;> cases hs : set.testBit i <;> rw [hp, hs] at h1 <;> first | rfl | cases h1
    omega
  · exact e
theorem spT_f1 {set part : Nat} (h : clr part set ≠ 0) : spT set part = false := by unfold spT; rw [beq_eq_false_iff_ne.mpr h, Bool.false_and]
theorem spT_f2 {set part : Nat} (h : part &&& lbS set = 0) : spT set part = false := by unfold spT; rw [h]; exact Bool.and_false _
theorem spT_t {set part : Nat} (h1 : clr part set = 0) (h2 : part &&& lbS set ≠ 0) : spT set part = true := by unfold spT; rw [h1, bne_iff_ne.mpr h2]; rfl
theorem spF_yes {gr so : Nat → Nat} {set k : Nat} (h : spT set k = true) : spF gr so set (k + 1) = spN gr so set k (spF gr so set k) := by rw [spF, if_pos h]
theorem spF_no {gr so : Nat → Nat} {set k : Nat} (h : spT set k = false) : spF gr so set (k + 1) = spF gr so set k := by rw [spF, h]; rfl
theorem grS_le {ki : Nat → Nat} {c h m : Nat} (hc : c ≤ 10) (h1 : 1 ≤ h) (h9 : h ≤ 9) : grS ki c h m ≤ 50 := by
  unfold grS
  have := hdS_le ki m c
  exact Nat.le_trans (Nat.div_le_self _ _) (by omega)
def soF (r : Nat) (rd C : Nat → Nat → Nat) (c : Nat) (co ki ag re : Nat → Nat) (s a bell h set : Nat) : Nat := (soS r rd C (rdG set c co re) (pcG set c co ki ag) s a bell h).1
def spV (b : Nat × Nat × Nat × Nat) (g : Nat) (w : Int32) : Int32 := if b.1 = 0 then -9 else if w = 0 then nI b.2.1 else if w = 1 then nI b.2.2.1 else if w = 2 then nI b.2.2.2 else nI b.2.2.1 - nI g
def spR (n c s : Nat) (C : Nat → Nat → Nat) (co ki ag : Nat → Nat) (setv cov bv hv wv : Int32) : Option Int32 :=
  if ¬ isN n cov then some (-1) else if ¬ (isSB c setv = true ∧ isB 2 6 (nI (popS setv.toNatClampNeg)) ∧ isB 0 200 bv ∧ isB 0 100 hv ∧ isB 0 3 wv) then some (-2) else if ¬ stB C s cov.toNatClampNeg (gL (pcG setv.toNatClampNeg c co ki ag) 7) = true then some (-3) else none
def splitB (r s : Nat) (rd C : Nat → Nat → Nat) (c : Nat) (co ki ag re : Nat → Nat) (h setn a bell hh : Nat) : Nat × Nat × Nat × Nat := spF (grS ki c h) (soF r rd C c co ki ag re s a bell hh) setn setn
theorem stI_n9 {b : Nat} (h : b ≤ 201) (h0 : b ≠ 0) : stI b = nI (b - 1) := by unfold stI; rw [if_neg h0]
theorem spR_eq {n c s : Nat} {C : Nat → Nat → Nat} {co ki ag : Nat → Nat} {setv cov bv hv wv : Int32} (h1 : isB 2 6 (nI (popS setv.toNatClampNeg))) (h2 : isB 0 3 wv) : spR n c s C co ki ag setv cov bv hv wv = stR n c s C co ki ag setv cov bv hv := by
  unfold spR stR
  have hA : ∀ x : Prop, ¬ ¬ x → x := fun x => Classical.byContradiction
  by_cases e : isN n cov
  · rw [if_neg (show ¬ ¬ isN n cov from fun q => q e), if_neg (show ¬ ¬ isN n cov from fun q => q e)]
    by_cases e2 : isSB c setv = true ∧ isB 0 200 bv ∧ isB 0 100 hv
    · rw [if_neg (show ¬ ¬ (isSB c setv = true ∧ isB 2 6 (nI (popS setv.toNatClampNeg)) ∧ isB 0 200 bv ∧ isB 0 100 hv ∧ isB 0 3 wv) from fun q => q ⟨e2.1, h1, e2.2.1, e2.2.2, h2⟩), if_neg (show ¬ ¬ (isSB c setv = true ∧ isB 0 200 bv ∧ isB 0 100 hv) from fun q => q e2)]
    · rw [if_pos (show ¬ (isSB c setv = true ∧ isB 2 6 (nI (popS setv.toNatClampNeg)) ∧ isB 0 200 bv ∧ isB 0 100 hv ∧ isB 0 3 wv) from fun q => e2 ⟨q.1, q.2.2.1, q.2.2.2.1⟩), if_pos e2]
  · rw [if_pos (show ¬ isN n cov from e), if_pos (show ¬ isN n cov from e)]
