/-! the corners of a set, as bits -/
def cmS (set : Nat) (co : Nat → Nat) : Nat → Nat
  | 0 => 0
  | x + 1 => cmS set co x ||| (if set.testBit x then 2 ^ co x else 0)
theorem cmS_bit {set : Nat} {co : Nat → Nat} {g : Nat} : ∀ x, (cmS set co x).testBit g = true ↔ ∃ y, y < x ∧ atS set co g y = true
  | 0 => by
    constructor
    · intro h; rw [cmS, Nat.zero_testBit] at h; cases h
    · rintro ⟨y, h, _⟩; omega
  | x + 1 => by
    have e0 : (if set.testBit x = true then 2 ^ co x else 0).testBit g = true ↔ atS set co g x = true := by
      unfold atS
      rw [Bool.and_eq_true, beq_iff_eq]
      by_cases h : set.testBit x = true
      · rw [if_pos h, Nat.testBit_two_pow, decide_eq_true_eq]
        exact ⟨fun q => ⟨h, q⟩, fun q => q.2⟩
      · rw [if_neg h, Nat.zero_testBit]
        exact ⟨fun q => absurd q (by decide), fun q => absurd q.1 h⟩
    rw [cmS, Nat.testBit_or, Bool.or_eq_true, cmS_bit x, e0]
    constructor
    · rintro (⟨y, hy, h⟩ | h)
      · exact ⟨y, by omega, h⟩
      · exact ⟨x, by omega, h⟩
    · rintro ⟨y, hy, h⟩
      by_cases e : y = x
      · subst e; exact Or.inr h
      · exact Or.inl ⟨y, by omega, h⟩
theorem cmS_lt {set : Nat} {co : Nat → Nat} : ∀ x, (∀ y, y < x → co y < 7) → cmS set co x < 2 ^ 7
  | 0, _ => Nat.two_pow_pos 7
  | x + 1, h => by
    rw [cmS]
    refine Nat.or_lt_two_pow (cmS_lt x (fun y hy => h y (by omega))) ?_
    split
    · exact Nat.pow_lt_pow_right (by decide) (h x (by omega))
    · decide
theorem cmS_gate {set c g : Nat} {co ki ag : Nat → Nat} : (cmS set co c).testBit g = decide (0 < pcG set c co ki ag g) := by
  have h1 := cmS_bit (set := set) (co := co) (g := g) c
  have h2 := mxS_pos (q := atS set co g) (v := fun x => paceS (ki x) (ag x)) (fun x => (paceS_b _ _).1) c
  unfold pcG
  rw [Bool.eq_iff_iff, h1, decide_eq_true_eq, h2]
theorem pop_gL {m : Nat} {pc : Nat → Nat} (h : ∀ g, m.testBit g = decide (0 < pc g)) : ∀ g, pop m g = (gL pc g).length
  | 0 => rfl
  | g + 1 => by
    rw [pop, gL, pop_gL h g, h g]
    by_cases e : 0 < pc g
    · rw [if_pos (decide_eq_true e), if_pos e, List.length_append]; rfl
    · rw [if_neg (fun q => e (of_decide_eq_true q)), if_neg e]; rfl
theorem popS_gL {m : Nat} {pc : Nat → Nat} (h : ∀ g, m.testBit g = decide (0 < pc g)) (hm : m < 2 ^ 7) : popS m = (gL pc 7).length := by
  rw [popS_of hm (by decide), pop_gL h]
theorem pcG_lt {set c n : Nat} {co ki ag : Nat → Nat} (h : ∀ x, x < c → co x < n) {g : Nat} (hg : 0 < pcG set c co ki ag g) : g < n := by
  obtain ⟨y, hy, h1⟩ := (mxS_pos (q := atS set co g) (v := fun x => paceS (ki x) (ag x)) (fun x => (paceS_b _ _).1) c).mp hg
  unfold atS at h1
  rw [Bool.and_eq_true, beq_iff_eq] at h1
  have := h y hy
  omega
theorem rdG_le {set c : Nat} {co re : Nat → Nat} (h : ∀ x, x < c → re x ≤ 60) (g : Nat) : rdG set c co re g ≤ 60 := mxS_le c (fun y hy _ => h y hy)
theorem gL_lt {set c n : Nat} {co ki ag : Nat → Nat} (h : ∀ x, x < c → co x < n) {x : Nat} (hx : x ∈ gL (pcG set c co ki ag) 7) : x < n := pcG_lt h (gL_mem 7 |>.mp hx).2
theorem mxS_max {q : Nat → Bool} {v : Nat → Nat} {x : Nat} (h : q x = true) : mxS q v (x + 1) = max (mxS q v x) (v x) := by rw [mxS, if_pos h]
theorem mxS_skip {q : Nat → Bool} {v : Nat → Nat} {x : Nat} (h : ¬ q x = true) : mxS q v (x + 1) = mxS q v x := by rw [mxS, if_neg h]
theorem atS_t {set g x : Nat} {co : Nat → Nat} (h1 : set.testBit x = true) (h2 : co x = g) : atS set co g x = true := by unfold atS; rw [h1, h2]; simp
theorem atS_f {set g x : Nat} {co : Nat → Nat} (h : set.testBit x = false ∨ co x ≠ g) : ¬ atS set co g x = true := by
  unfold atS
  rw [Bool.and_eq_true, beq_iff_eq]
  rintro ⟨h1, h2⟩
  rcases h with h | h
  · rw [h] at h1; cases h1
  · exact h h2
