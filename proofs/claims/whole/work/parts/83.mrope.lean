/-! the reference's rope -/
def rsOk (set emp : Nat) (rs : List Nat) : Prop := (∀ y, y ∈ rs → y = 99 ∨ set.testBit y = true) ∧ ∀ i, i < rs.length → (rs.getD (rs.length - 1 - i) 99 = 99 ↔ i = emp)
theorem rsOk.cons {set emp x : Nat} {rs : List Nat} (h : rsOk set emp rs) (hx : set.testBit x = true) (hs : set < 1024) (he : rs.length ≠ emp) : rsOk set emp (x :: rs) := by
  refine ⟨fun y hy => ?_, fun i hi => ?_⟩
  · rcases List.mem_cons.mp hy with e | e
    · exact Or.inr (e ▸ hx)
    · exact h.1 y e
  · rw [List.length_cons] at hi ⊢
    by_cases e : i = rs.length
    · subst e
      rw [show rs.length + 1 - 1 - rs.length = 0 by omega]
      have := bit_lt10 hs hx
      show x = 99 ↔ _
      exact ⟨fun q => by omega, fun q => absurd q he⟩
    · rw [show rs.length + 1 - 1 - i = (rs.length - 1 - i) + 1 by omega]
      exact h.2 i (by omega)
theorem rsOk.none {set emp : Nat} {rs : List Nat} (h : rsOk set emp rs) (he : rs.length = emp) : rsOk set emp (99 :: rs) := by
  refine ⟨fun y hy => ?_, fun i hi => ?_⟩
  · rcases List.mem_cons.mp hy with e | e
    · exact Or.inl e
    · exact h.1 y e
  · rw [List.length_cons] at hi ⊢
    by_cases e : i = rs.length
    · subst e
      rw [show rs.length + 1 - 1 - rs.length = 0 by omega]
      exact ⟨fun _ => he, fun _ => rfl⟩
    · rw [show rs.length + 1 - 1 - i = (rs.length - 1 - i) + 1 by omega]
      exact h.2 i (by omega)
theorem rsOk.h0 {set emp : Nat} {rs : List Nat} (h : rsOk set emp rs) (h1 : 1 ≤ rs.length) : rs.getD 0 99 = 99 ↔ rs.length - 1 = emp := by
  have := h.2 (rs.length - 1) (by omega)
  rw [show rs.length - 1 - (rs.length - 1) = 0 by omega] at this
  exact this
theorem rsOk.h1 {set emp : Nat} {rs : List Nat} (h : rsOk set emp rs) (h1 : 2 ≤ rs.length) : rs.getD 1 99 = 99 ↔ rs.length - 2 = emp := by
  have := h.2 (rs.length - 2) (by omega)
  rw [show rs.length - 1 - (rs.length - 2) = 1 by omega] at this
  exact this
theorem getD_end {rs : List Nat} {i : Nat} (h : rs.length ≤ i) : rs.getD i 99 = 99 := by
  rw [List.getD_eq_getElem?_getD, List.getElem?_eq_none h]; rfl
def bk (n first emp : Nat) : Int32 := if n = emp + 1 ∧ first < n then nI n - 2 else nI n - 1
def lyS (I0 : KI) (J0 : KJ) (loops : Nat) (I : KI) (J : KJ) (rs : List Nat) (cu u f : Nat) (b : Nat × List Nat) : Prop :=
  (∀ q, q ≠ 85 → q ≠ 105 → q ≠ 106 → I q = I0 q) ∧ (∀ j, j ≠ 35 → I 85 j = I0 85 j) ∧ (∀ q, q ≠ 85 → J q = J0 q) ∧ (∀ j, j ≠ 36 → J 85 j = J0 85 j) ∧ rowA I 105 rs ∧ I 105 rs.length = (if cu = 0 then -9 else nI (cu - 1)) ∧ (∀ i, rs.length < i → i < 8 → I 105 i = -9) ∧ u < 1024 ∧ (∀ y, y < 10 → (cu = 0 ∨ y ≠ cu - 1) → u.testBit y = rs.contains y) ∧ (cu ≠ 0 → cu ≤ 10 ∧ rs.contains (cu - 1) = false) ∧ J 85 36 = lN f ∧ I 85 35 = stI b.1 ∧ b.1 ≤ 10 ∧ (b.1 ≠ 0 → b.2.length = loops ∧ ∀ i, i < 8 → I 106 i = (if i < loops then seatI (b.2.getD (loops - 1 - i) 99) else -9))
theorem cuI {cu : Nat} (h : cu ≤ 10) : ((if cu = 0 then -9 else nI (cu - 1)) : Int32) = -9 ↔ cu = 0 := by
  by_cases e : cu = 0
  · rw [if_pos e]; exact ⟨fun _ => e, fun _ => rfl⟩
  · rw [if_neg e]
    refine ⟨fun q => ?_, fun q => absurd q e⟩
    have := congrArg Int32.toInt q
    rw [nI_toInt (by omega)] at this
    simp only [Int32.reduceToInt] at this
    omega
theorem drop_rev {rs : List Nat} {k : Nat} (h : k < rs.length) : rs.drop k = rs.getD k 99 :: rs.drop (k + 1) := by
  rw [List.drop_eq_getElem_cons h, List.getD_eq_getElem?_getD, List.getElem?_eq_getElem h]; rfl
theorem drop_get0 (rs : List Nat) (k : Nat) : (rs.drop k).getD 0 99 = rs.getD k 99 := by
  rw [List.getD_eq_getElem?_getD, List.getD_eq_getElem?_getD, List.getElem?_drop, Nat.add_zero]
