/-! the class's rope -/
def rpC (I : KI) (cnt loops emp W old c : Nat) (fx qx : Nat → Nat) : Prop := I 57 4 = nI cnt ∧ I 57 5 = nI loops ∧ I 57 6 = empI emp ∧ I 57 7 = nI old ∧ I 57 8 = nI W ∧ ∀ x, x < c → I 58 x = nI (fx x) ∧ I 59 x = nI (qx x)
theorem rpC.fr {I I' : KI} {cnt loops emp W old c : Nat} {fx qx : Nat → Nat} (h : rpC I cnt loops emp W old c fx qx) (hj : ∀ j, j ≠ 9 → j ≠ 10 → I' 57 j = I 57 j) (h1 : I' 58 = I 58) (h2 : I' 59 = I 59) : rpC I' cnt loops emp W old c fx qx := by
  obtain ⟨a1, a2, a3, a4, a5, a6⟩ := h
  exact ⟨by rw [hj 4 (by decide) (by decide)]; exact a1, by rw [hj 5 (by decide) (by decide)]; exact a2, by rw [hj 6 (by decide) (by decide)]; exact a3, by rw [hj 7 (by decide) (by decide)]; exact a4, by rw [hj 8 (by decide) (by decide)]; exact a5, fun x hx => by rw [h1, h2]; exact a6 x hx⟩
def bAt (rs : List Nat) (v : Int32) : Nat := if v.toInt < 0 then 0 else btS (rs.getD (rs.length - 1 - v.toNatClampNeg) 99)
theorem bAt_1 {rs : List Nat} (h : 1 ≤ rs.length) (h2 : rs.length < 2 ^ 31) : bAt rs (nI (rs.length - 1)) = btS (rs.getD 0 99) := by
  unfold bAt
  rw [if_neg (by rw [nI_toInt (by omega)]; omega), nI_clamp (by omega), show rs.length - 1 - (rs.length - 1) = 0 by omega]
theorem bAt_2 {rs : List Nat} (h2 : rs.length < 2 ^ 31) : bAt rs (nI rs.length - 2) = btS (rs.getD 1 99) := by
  unfold bAt
  by_cases e : rs.length < 2
  · have h3 : (nI rs.length - 2).toInt < 0 := by
      rw [fb_subI (by rw [nI_toInt (by omega)]; simp only [Int32.reduceToInt]; omega) (by rw [nI_toInt (by omega)]; simp only [Int32.reduceToInt]; omega), nI_toInt (by omega)]
      simp only [Int32.reduceToInt]; omega
    rw [if_pos h3]
    match rs, e with
    | [], _ => rfl
    | [a], _ => rfl
    | a :: b :: l, e => exact absurd e (by simp)
  · have h3 : nI rs.length - 2 = nI (rs.length - 2) := nI_sub (b := 2) (by omega) (by omega)
    rw [h3, if_neg (by rw [nI_toInt (by omega)]; omega), nI_clamp (by omega), show rs.length - 1 - (rs.length - 2) = 1 by omega]
theorem two_neg (n : Nat) (h2 : n < 2 ^ 31) : (nI n - 2).toInt < 0 ∨ isN n (nI n - 2) := by
  have e : (nI n - 2).toInt = (n : Int) - 2 := by
    rw [fb_subI (by rw [nI_toInt (by omega)]; simp only [Int32.reduceToInt]; omega) (by rw [nI_toInt (by omega)]; simp only [Int32.reduceToInt]; omega), nI_toInt (by omega)]
    rfl
  unfold isN
  rw [e]; omega
theorem and_or0 {q a b : Nat} : q &&& (a ||| b) = 0 ↔ q &&& a = 0 ∧ q &&& b = 0 := by
  constructor
  · intro h
    have hb : ∀ i, (q.testBit i && (a.testBit i || b.testBit i)) = false := fun i => by
      have := congrArg (fun z => z.testBit i) h
      simpa [Nat.testBit_and, Nat.testBit_or] using this
    constructor
    · apply Nat.eq_of_testBit_eq
      intro i
      have := hb i
      rw [Nat.testBit_and, Nat.zero_testBit]
      revert this
      cases q.testBit i <;> cases a.testBit i <;> cases b.testBit i <;> simp
    · apply Nat.eq_of_testBit_eq
      intro i
      have := hb i
      rw [Nat.testBit_and, Nat.zero_testBit]
      revert this
      cases q.testBit i <;> cases a.testBit i <;> cases b.testBit i <;> simp
  · rintro ⟨h1, h2⟩
    apply Nat.eq_of_testBit_eq
    intro i
    have e1 : (q.testBit i && a.testBit i) = false := by have := congrArg (fun z => z.testBit i) h1; simpa [Nat.testBit_and] using this
    have e2 : (q.testBit i && b.testBit i) = false := by have := congrArg (fun z => z.testBit i) h2; simpa [Nat.testBit_and] using this
    rw [Nat.testBit_and, Nat.testBit_or, Nat.zero_testBit]
    revert e1 e2
    cases q.testBit i <;> cases a.testBit i <;> cases b.testBit i <;> simp
theorem and_pow0 {q s : Nat} : q &&& 2 ^ s = 0 ↔ q.testBit s = false := by
  constructor
  · intro h
    have := congrArg (fun z => z.testBit s) h
    simpa [Nat.testBit_and, Nat.testBit_two_pow_self] using this
  · intro h
    apply Nat.eq_of_testBit_eq
    intro i
    rw [Nat.testBit_and, Nat.testBit_two_pow, Nat.zero_testBit]
    by_cases e : s = i
    · subst e; rw [h]; rfl
    · rw [decide_eq_false e, Bool.and_false]
theorem tm_bit {T : Nat → Nat → Nat} {c x v set s : Nat} (hs : set.testBit s = true) (hc : s < c) : (tm T c x v &&& set).testBit s = (T x s == v) := by
  unfold tm
  rw [Nat.testBit_and, msk_bit, hs, decide_eq_true hc]; simp
theorem near_1 {T : Nat → Nat → Nat} {c x set s : Nat} (h : s = 99 ∨ (set.testBit s = true ∧ s < c)) : (tm T c x 2 &&& set) &&& btS s = 0 ↔ seatQ T s x = false := by
  unfold btS seatQ
  by_cases e : s = 99
  · rw [if_pos e, Nat.and_zero]; simp [e]
  · obtain ⟨h1, h2⟩ := h.resolve_left e
    rw [if_neg e, and_pow0, tm_bit h1 h2, decide_eq_true e, Bool.true_and]
theorem pop_one {q s : Nat} (hs : s < 10) (hq : q < 1024) : popS (q &&& 2 ^ s) = if q.testBit s then 1 else 0 := by
  have hlt : q &&& 2 ^ s < 2 ^ 10 := Nat.lt_of_le_of_lt Nat.and_le_left hq
  rw [popS_of hlt (by decide)]
  have h0 : ∀ n, pop 0 n = 0 := by
    intro n
    induction n with
    | zero => rfl
    | succ n ih => rw [pop, ih, Nat.zero_testBit]; rfl
  by_cases e : q.testBit s = true
  · rw [if_pos e]
    have hb : (q &&& 2 ^ s).testBit s = true := by rw [Nat.testBit_and, e, Nat.testBit_two_pow_self]; rfl
    have h1 := pop_clr hb 10 hs
    have h2 : clr (q &&& 2 ^ s) (2 ^ s) = 0 := by
      apply Nat.eq_of_testBit_eq
      intro i
      rw [clr_bit, Nat.testBit_and, Nat.zero_testBit]
      cases q.testBit i <;> cases (2 ^ s).testBit i <;> rfl
    rw [h2, h0] at h1
    omega
  · rw [if_neg e, and_pow0.mpr (eq_false_of_ne_true e), h0]
theorem popS_0 : popS 0 = 0 := by decide
theorem more_1 {T : Nat → Nat → Nat} {c x set s : Nat} (hset : set < 1024) (h : s = 99 ∨ (set.testBit s = true ∧ s < c)) : popS ((tm T c x 1 &&& set) &&& btS s) = if frS T s x = true then 1 else 0 := by
  unfold btS frS
  by_cases e : s = 99
  · rw [if_pos e, Nat.and_zero, popS_0]; simp [e]
  · obtain ⟨h1, h2⟩ := h.resolve_left e
    rw [if_neg e, pop_one (bit_lt10 hset h1) (Nat.lt_of_le_of_lt Nat.and_le_right hset), tm_bit h1 h2, decide_eq_true e, Bool.true_and]
theorem btS_lt {set s : Nat} (hset : set < 1024) (h : s = 99 ∨ set.testBit s = true) : btS s < 1024 := by
  unfold btS
  by_cases e : s = 99
  · rw [if_pos e]; decide
  · rw [if_neg e]
    have hs := bit_lt10 hset (h.resolve_left e)
    have h2 : 2 ^ s < 2 ^ 10 := Nat.pow_lt_pow_right (by decide) hs
    omega
theorem getD_in {set : Nat} {rs : List Nat} (h : ∀ y, y ∈ rs → y = 99 ∨ set.testBit y = true) (i : Nat) : rs.getD i 99 = 99 ∨ set.testBit (rs.getD i 99) = true := by
  by_cases e : i < rs.length
  · refine h _ ?_
    rw [List.getD_eq_getElem?_getD, List.getElem?_eq_getElem e]
    exact List.getElem_mem e
  · left
    rw [List.getD_eq_getElem?_getD, List.getElem?_eq_none (by omega)]; rfl
def fillP (ad : Nat → Nat) (J : KJ) (t cnt loops emp W old c set r : Nat) (T : Nat → Nat → Nat) (ag : Nat → Nat) (k : Nat) : Prop :=
  ∀ (I : KI) (rs : List Nat) (left f : Nat) (b : Nat × List Nat) (Q : KI → KJ → KR → Prop), rs.length + k = loops → (cnt = 1 → 1 ≤ k) → rpC I cnt loops emp W old c (fun x => tm T c x 1 &&& set) (fun x => tm T c x 2 &&& set) → rowA I 60 rs → (∀ y, y ∈ rs → y = 99 ∨ set.testBit y = true) → lfS set rs left → left < 1024 → I 57 9 = nI f → I 57 10 = nI b.1 + (-1) → b.1 ≤ 10 → (b.1 ≠ 0 → rowA I 61 b.2 ∧ b.2.length = loops) →
  (∀ I' f' b', (∀ q, q ≠ 57 → q ≠ 60 → q ≠ 61 → I' q = I q) → (∀ j, j ≠ 9 → j ≠ 10 → I' 57 j = I 57 j) → (∀ i, i < rs.length → I' 60 i = I 60 i) → (cnt = 1 → f' = f + (fillS (cdS set T ag r) emp k rs).length) → (cnt ≠ 1 → b' = bsF (rowF T) (fillS (cdS set T ag r) emp k rs) b) → I' 57 9 = nI f' → I' 57 10 = nI b'.1 + (-1) → b'.1 ≤ 10 → (b'.1 ≠ 0 → rowA I' 61 b'.2 ∧ b'.2.length = loops) → Q I' J (rf t)) →
  Mv (k + 3) yX5_fill (wm yX5_fill cX5_fill 7 none) [.ref (ad 57), .int (nI rs.length), .int (nI left), .int (nI (rowS T rs))] ad I J (rf t) Q
theorem rowS_le (T : Nat → Nat → Nat) : ∀ rs : List Nat, rowS T rs ≤ rs.length
  | [] => Nat.le_refl _
  | x :: rs => by
    have := rowS_le T rs
    rw [rowS, List.length_cons]
    split <;> omega
