/-! what a call refuses (its answer), shared by the two sides -/
abbrev isB (lo hi : Int) (v : Int32) : Prop := lo ≤ v.toInt ∧ v.toInt ≤ hi
abbrev isN (c : Nat) (v : Int32) : Prop := 0 ≤ v.toInt ∧ v.toInt < c
def isS (c : Nat) (s : Int32) : Prop := ∃ m : Nat, 0 < m ∧ m < 2 ^ c ∧ s = nI m
def childR (n c : Nat) (kd co ag re : Int32) : Option Int32 :=
  if ¬ isN n co then some (-1) else if ¬ (isB 0 2 kd ∧ isB 4 11 ag ∧ isB 0 60 re) then some (-2) else if c = 10 then some (-4) else none
def readyR (c : Nat) (x v : Int32) : Option Int32 := if ¬ isN c x then some (-1) else if ¬ isB 0 60 v then some (-2) else none
def tieR (c : Nat) (x y v : Int32) : Option Int32 := if ¬ (isN c x ∧ isN c y) then some (-1) else if x = y ∨ ¬ isB 0 2 v then some (-2) else none
def ofChildR (c : Nat) (x w : Int32) : Option Int32 := if ¬ isN c x then some (-1) else if ¬ isB 0 7 w then some (-2) else none
def helperR (hc : Nat) (d : Int32) : Option Int32 := if ¬ isB 0 31 d then some (-2) else if hc = 5 then some (-4) else none
def daysR (hc : Nat) (x d : Int32) : Option Int32 := if ¬ isN hc x then some (-1) else if ¬ isB 0 31 d then some (-2) else none
def sheetR (k s n : Int32) : Option (Int32 × Nat) := if ¬ isB 0 3 k then some (-1, 0) else if ¬ isB 0 2 s ∨ 100 < n.toInt then some (-2, 0) else if n.toInt < 0 then some (-14, 4) else none
def putR (th : Nat → Bool) (ct : Nat → Nat) (k i : Int32) : Option (Int32 × Nat) := if ¬ isB 0 3 k then some (-1, 0) else if th k.toNatClampNeg = false then some (-11, 1) else if ¬ isN (ct k.toNatClampNeg) i then some (-13, 3) else none
def cellR (th : Nat → Bool) (so ct : Nat → Nat) (k i s : Int32) : Option Nat := if ¬ (isB 0 3 k ∧ isB 0 2 s) then some 0 else if th k.toNatClampNeg = false then some 1 else if ¬ nI (so k.toNatClampNeg) = s then some 2 else if ¬ isN (ct k.toNatClampNeg) i then some 3 else none
def copyR (th : Nat → Bool) (so ct : Nat → Nat) (k i o j n : Int32) : Option (Int32 × Nat) := if ¬ (isB 0 3 k ∧ isB 0 3 o) then some (-1, 0) else if th k.toNatClampNeg = false ∨ th o.toNatClampNeg = false then some (-11, 1) else if ¬ so k.toNatClampNeg = so o.toNatClampNeg then some (-12, 2) else
  if ¬ (0 ≤ i.toInt ∧ 0 ≤ j.toInt ∧ 0 ≤ n.toInt ∧ i.toInt + n.toInt ≤ ct k.toNatClampNeg ∧ j.toInt + n.toInt ≤ ct o.toNatClampNeg) then some (-13, 3) else none
def asR (c : Nat) (ki : Nat → Nat) (x k : Int32) : Int32 × Nat := if ¬ isN c x then (-1, 0) else if ¬ isB 0 2 k then (-2, 0) else if k.toInt ≤ ki x.toNatClampNeg then (1, 0) else (-12, 2)
def tagS (ki : Nat → Nat) (j : Nat) (tr : Int32) : Int32 × Int32 := if ki j = 2 then (60, 31 * tr + 5) else (nI j, 31 * tr + 4)
def tellS (ki ag : Nat → Nat) (j : Nat) (tr : Int32) : Int32 × Int32 := if ki j = 2 then (nI (2 * ag j + 100), 31 * (31 * (31 * (31 * tr + 3) + 2) + 1) + 1) else if ki j = 1 then (nI (ag j + 100), 31 * (31 * tr + 2) + 1) else (nI (ag j), 31 * tr + 1)
def ofChildS (ki co ag re : Nat → Nat) (T : Nat → Nat → Nat) (c j w : Nat) : Int32 := if w = 0 then nI (ki j) else if w = 1 then nI (co j) else if w = 2 then nI (ag j) else if w = 3 then nI (re j) else if w = 4 then nI (paceS (ki j) (ag j)) else if w = 5 then (if ki j = 2 then 3 else 1) else if w = 6 then nI (tm T c j 1) else nI (tm T c j 2)
def fu {α : Type} (f : Nat → α) (k : Nat) (v : α) : Nat → α := fun j => if j = k then v else f j
theorem fu_same {α : Type} (f : Nat → α) (k : Nat) (v : α) : fu f k v k = v := if_pos rfl
theorem fu_ne {α : Type} (f : Nat → α) {k j : Nat} (v : α) (h : j ≠ k) : fu f k v j = f j := if_neg h
def Tset (T : Nat → Nat → Nat) (x y v : Nat) : Nat → Nat → Nat := fun a b => if (a = x ∧ b = y) ∨ (a = y ∧ b = x) then v else T a b
def Tnew (T : Nat → Nat → Nat) (c : Nat) : Nat → Nat → Nat := fun a b => if a = c ∨ b = c then 0 else T a b
theorem isN_of {c : Nat} {v : Int32} (h : isN c v) : ∃ j, j < c ∧ v = nI j := i_natlt h.1 h.2
theorem isN_nI {c j : Nat} (hj : j < c) (hc : c < 2 ^ 31) : isN c (nI j) := by
  unfold isN; rw [nI_toInt (by omega)]; omega
theorem isB_of {h : Nat} {v : Int32} (q : isB 0 h v) : ∃ j, j ≤ h ∧ v = nI j := by
  obtain ⟨j, hj, e⟩ := i_natlt (n := h + 1) q.1 (by have := q.2; omega)
  exact ⟨j, by omega, e⟩
theorem tm_new {T : Nat → Nat → Nat} {c x v : Nat} (hx : x < c) (hv : 0 < v) : tm (Tnew T c) (c + 1) x v = tm T c x v := by
  apply Nat.eq_of_testBit_eq
  intro i
  unfold tm
  rw [msk_bit, msk_bit]
  unfold Tnew
  by_cases h : i < c
  · rw [if_neg (by omega)]; simp [h, Nat.lt_succ_of_lt h]
  · by_cases h2 : i = c
    · subst h2; simp; omega
    · simp [show ¬ i < c + 1 by omega, h]
theorem tm_new0 {T : Nat → Nat → Nat} {c v : Nat} (hv : 0 < v) : tm (Tnew T c) (c + 1) c v = 0 := by
  apply Nat.eq_of_testBit_eq
  intro i
  unfold tm
  rw [msk_bit]
  unfold Tnew
  simp; omega
theorem tm_bind {T : Nat → Nat → Nat} {c x y v w : Nat} (hy : y < c) (hxy : x ≠ y) : bindS (tm T c x w) y v w = tm (Tset T x y v) c x w := by
  apply Nat.eq_of_testBit_eq
  intro i
  unfold tm bindS
  have hne : ¬ (x = y) := hxy
  by_cases hi : i = y
  · subst hi
    split
    · rename_i h; rw [Nat.testBit_or, Nat.testBit_two_pow_self]; simp [msk_bit, Tset, h, hy]
    · rename_i h; rw [clr_bit, Nat.testBit_two_pow_self]; simp [msk_bit, Tset, h]
  · have e : Tset T x y v x i = T x i := by unfold Tset; rw [if_neg]; omega
    split
    · rw [Nat.testBit_or, msk_bit, msk_bit, Nat.testBit_two_pow, e]; simp; omega
    · rw [clr_bit, msk_bit, msk_bit, Nat.testBit_two_pow, e]; simp; omega
theorem tm_keep {T : Nat → Nat → Nat} {c x y v w a : Nat} (h1 : a ≠ x) (h2 : a ≠ y) : tm (Tset T x y v) c a w = tm T c a w := by
  unfold tm
  refine msk_cong (fun i _ => ?_)
  unfold Tset
  rw [if_neg (by omega)]
theorem Tset_sym (T : Nat → Nat → Nat) (x y v : Nat) : Tset T x y v = Tset T y x v := by
  funext a b; unfold Tset
  by_cases h : (a = x ∧ b = y) ∨ (a = y ∧ b = x)
  · rw [if_pos h, if_pos (by omega)]
  · rw [if_neg h, if_neg (by omega)]
theorem bond_T {T : Nat → Nat → Nat} {c x y : Nat} (hy : y < c) (h3 : T x y < 3) : bondS (tm T c x 1) (tm T c x 2) y = T x y := by
  unfold bondS tm
  rw [msk_bit, msk_bit]
  simp only [hy, decide_true, Bool.true_and, beq_iff_eq]
  split
  · omega
  · split <;> omega
