/-! gates: what a set has at its corners -/
theorem max_nI {a b : Nat} (ha : a < 2 ^ 31) (hb : b < 2 ^ 31) : (if nI a < nI b then nI b else nI a) = nI (max a b) := by
  split
  · rename_i h; rw [fa_lt, nI_toInt ha, nI_toInt hb] at h; rw [Nat.max_eq_right (by omega)]
  · rename_i h; rw [fa_lt, nI_toInt ha, nI_toInt hb] at h; rw [Nat.max_eq_left (by omega)]
def mxS (q : Nat → Bool) (v : Nat → Nat) : Nat → Nat
  | 0 => 0
  | x + 1 => if q x then max (mxS q v x) (v x) else mxS q v x
theorem mxS_le {q : Nat → Bool} {v : Nat → Nat} {b : Nat} : ∀ x, (∀ y, y < x → q y = true → v y ≤ b) → mxS q v x ≤ b
  | 0, _ => Nat.zero_le _
  | x + 1, h => by
    have ih := mxS_le x (fun y hy => h y (by omega))
    rw [mxS]
    split
    · rename_i hq; have := h x (by omega) hq; omega
    · exact ih
theorem mxS_ext {q : Nat → Bool} {v : Nat → Nat} {c : Nat} (h : ∀ x, c ≤ x → q x = false) : ∀ k, mxS q v (c + k) = mxS q v c
  | 0 => rfl
  | k + 1 => by rw [← Nat.add_assoc, mxS, h (c + k) (by omega), if_neg (by decide), mxS_ext h k]
theorem mxS_pos {q : Nat → Bool} {v : Nat → Nat} (hv : ∀ x, 0 < v x) : ∀ x, 0 < mxS q v x ↔ ∃ y, y < x ∧ q y = true
  | 0 => ⟨fun h => by rw [mxS] at h; omega, fun ⟨y, hy, _⟩ => by omega⟩
  | x + 1 => by
    have ih := mxS_pos (q := q) hv x
    have := hv x
    rw [mxS]
    constructor
    · intro h
      split at h
      · rename_i hq; exact ⟨x, by omega, hq⟩
      · obtain ⟨y, hy, e⟩ := ih.mp h; exact ⟨y, by omega, e⟩
    · rintro ⟨y, hy, e⟩
      split
      · omega
      · rename_i hq
        by_cases e2 : y = x
        · subst e2; exact absurd e hq
        · exact ih.mpr ⟨y, by omega, e⟩
def atS (set : Nat) (co : Nat → Nat) (g : Nat) : Nat → Bool := fun x => set.testBit x && co x == g
def rdG (set c : Nat) (co re : Nat → Nat) (g : Nat) : Nat := mxS (atS set co g) re c
def pcG (set c : Nat) (co ki ag : Nat → Nat) (g : Nat) : Nat := mxS (atS set co g) (fun x => paceS (ki x) (ag x)) c
theorem paceS_b (k a : Nat) : 1 ≤ paceS k a ∧ paceS k a ≤ 4 := by
  unfold paceS; repeat' split
  all_goals omega
theorem pcG_le (set c : Nat) (co ki ag : Nat → Nat) (g : Nat) : pcG set c co ki ag g ≤ 4 := mxS_le c (fun y _ _ => (paceS_b _ _).2)
theorem atS_hi {set c : Nat} {co : Nat → Nat} (h : set < 2 ^ c) (g x : Nat) (hx : c ≤ x) : atS set co g x = false := by
  unfold atS
  rw [Nat.testBit_lt_two_pow (Nat.lt_of_lt_of_le h (Nat.pow_le_pow_right (by decide) hx))]; rfl
/-- the gates, rising -/
def gL (pc : Nat → Nat) : Nat → List Nat
  | 0 => []
  | g + 1 => if 0 < pc g then gL pc g ++ [g] else gL pc g
theorem gL_len (pc : Nat → Nat) : ∀ g, (gL pc g).length ≤ g
  | 0 => Nat.le_refl 0
  | g + 1 => by
    have := gL_len pc g
    rw [gL]; split
    · rw [List.length_append]; simp; omega
    · omega
theorem gL_mem {pc : Nat → Nat} {x : Nat} : ∀ g, x ∈ gL pc g ↔ x < g ∧ 0 < pc x
  | 0 => by rw [gL]; simp
  | g + 1 => by
    rw [gL]
    have ih := gL_mem (pc := pc) (x := x) g
    by_cases h : 0 < pc g
    · rw [if_pos h, List.mem_append, ih, List.mem_singleton]
      constructor
      · rintro (q | q)
        · exact ⟨by omega, q.2⟩
        · exact ⟨by omega, by rw [q]; exact h⟩
      · intro q
        by_cases e : x = g
        · exact Or.inr e
        · exact Or.inl ⟨by omega, q.2⟩
    · rw [if_neg h, ih]
      constructor
      · intro q; exact ⟨by omega, q.2⟩
      · intro q
        by_cases e : x = g
        · subst e; exact absurd q.2 h
        · exact ⟨by omega, q.2⟩
/-- an order kept in a row -/
def ordA (I : KI) (p : Nat) (og : List Nat) : Prop := ∀ k, k < og.length → I p k = nI (og.getD k 0)
theorem ordA.snoc {I : KI} {p g : Nat} {og : List Nat} (h : ordA I p og) : ordA (upI I p og.length (nI g)) p (og ++ [g]) := by
  intro k hk
  rw [List.length_append] at hk
  simp only [List.length_cons, List.length_nil] at hk
  by_cases e : k = og.length
  · subst e
    rw [upI_same, List.getD_eq_getElem?_getD, List.getElem?_append_right (Nat.le_refl _), Nat.sub_self]; rfl
  · rw [upI_k _ _ e, h k (by omega), List.getD_eq_getElem?_getD, List.getD_eq_getElem?_getD, List.getElem?_append_left (by omega)]
theorem ordA.fr {I I' : KI} {p : Nat} {og : List Nat} (h : ordA I p og) (hf : I' p = I p) : ordA I' p og := fun k hk => by rw [hf]; exact h k hk
/-- cells taken as an order -/
def seenS (cd : Nat → Int32) : Nat → Nat
  | 0 => 0
  | k + 1 => seenS cd k ||| 2 ^ (cd k).toNatClampNeg
def gateB (pc : Nat → Nat) (v : Int32) : Bool := decide (isN 7 v) && decide (0 < pc v.toNatClampNeg)
def odS (pc : Nat → Nat) (cd : Nat → Int32) : Nat → Bool
  | 0 => true
  | k + 1 => odS pc cd k && (gateB pc (cd k) && !(seenS cd k).testBit (cd k).toNatClampNeg)
theorem odS_down {pc : Nat → Nat} {cd : Nat → Int32} {k : Nat} (h : odS pc cd (k + 1) = false) : ∀ j, odS pc cd (k + 1 + j) = false
  | 0 => h
  | j + 1 => by rw [← Nat.add_assoc, odS, odS_down h j]; rfl
theorem odS_f {pc : Nat → Nat} {cd : Nat → Int32} {k n : Nat} (hk : k < n) (h : ¬ (gateB pc (cd k) = true ∧ (seenS cd k).testBit (cd k).toNatClampNeg = false)) : odS pc cd n = false := by
  have h1 : odS pc cd (k + 1) = false := by
    rw [odS]
    cases h2 : gateB pc (cd k) <;> cases h3 : (seenS cd k).testBit (cd k).toNatClampNeg <;> simp_all
  have h2 := odS_down h1 (n - (k + 1))
  rw [show k + 1 + (n - (k + 1)) = n by omega] at h2
  exact h2
theorem odS_t {pc : Nat → Nat} {cd : Nat → Int32} {k : Nat} (h0 : odS pc cd k = true) (h : gateB pc (cd k) = true) (h2 : (seenS cd k).testBit (cd k).toNatClampNeg = false) : odS pc cd (k + 1) = true := by
  rw [odS, h0, h, h2]; rfl
theorem gateB_t {pc : Nat → Nat} {v : Int32} : gateB pc v = true ↔ isN 7 v ∧ 0 < pc v.toNatClampNeg := by
  unfold gateB; rw [Bool.and_eq_true, decide_eq_true_iff, decide_eq_true_iff]
def ogS (cd : Nat → Int32) : Nat → List Nat
  | 0 => []
  | k + 1 => ogS cd k ++ [(cd k).toNatClampNeg]
theorem ogS_len (cd : Nat → Int32) : ∀ k, (ogS cd k).length = k
  | 0 => rfl
  | k + 1 => by rw [ogS, List.length_append, ogS_len cd k]; rfl
theorem seenS_lt {pc : Nat → Nat} {cd : Nat → Int32} : ∀ k, odS pc cd k = true → seenS cd k < 128
  | 0, _ => by rw [seenS]; omega
  | k + 1, h => by
    rw [odS, Bool.and_eq_true, Bool.and_eq_true] at h
    have ih := seenS_lt k h.1
    have g := (gateB_t.mp h.2.1).1
    obtain ⟨j, hj, e⟩ := isN_of g
    rw [seenS, e, nI_clamp (by omega)]
    exact Nat.or_lt_two_pow (n := 7) ih (Nat.lt_of_lt_of_le (Nat.pow_lt_pow_right (by decide) hj) (Nat.le_refl _))
theorem ogS_gate {pc : Nat → Nat} {cd : Nat → Int32} : ∀ k, odS pc cd k = true → ∀ x, x ∈ ogS cd k → x < 7 ∧ 0 < pc x
  | 0, _, x, hx => by cases hx
  | k + 1, h, x, hx => by
    rw [odS, Bool.and_eq_true, Bool.and_eq_true] at h
    rw [ogS, List.mem_append, List.mem_singleton] at hx
    rcases hx with hx | hx
    · exact ogS_gate k h.1 x hx
    · obtain ⟨g, g2⟩ := gateB_t.mp h.2.1
      obtain ⟨j, hj, e⟩ := isN_of g
      rw [hx]
      refine ⟨?_, g2⟩
      rw [e, nI_clamp (by omega)]; exact hj
/-- the class's gates -/
def cGt (I : KI) (pc rdy : Nat → Nat) (og : List Nat) : Prop := I 50 0 = nI og.length ∧ (∀ g, g < 7 → I 52 g = nI (rdy g) ∧ I 53 g = nI (pc g)) ∧ ordA I 51 og
theorem cGt.fr {I I' : KI} {pc rdy : Nat → Nat} {og : List Nat} (h : cGt I pc rdy og) (hf : ∀ p, 50 ≤ p → p ≤ 53 → I' p = I p) : cGt I' pc rdy og := by
  refine ⟨by rw [hf 50 (by decide) (by decide)]; exact h.1, fun g hg => ?_, h.2.2.fr (hf 51 (by decide) (by decide))⟩
  rw [hf 52 (by decide) (by decide), hf 53 (by decide) (by decide)]
  exact h.2.1 g hg
