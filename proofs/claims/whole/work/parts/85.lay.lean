section
variable {I0 I I2 : KI} {J0 J : KJ} {loops x cu u f emp set : Nat} {rs : List Nat} {b : Nat × List Nat}
theorem lyS.exh (h : lyS I0 J0 loops I J rs cu u f b) {uu : Nat} (hu : uu < 1024) (hub : ∀ y, y < 10 → uu.testBit y = rs.contains y) : lyS I0 J0 loops (upI I 105 rs.length (-9)) J rs 0 uu f b := by
  obtain ⟨a1, a2, a3, a4, a5, a6, a7, a8, a9, a10, a11, a12, a13, a14⟩ := h
  refine ⟨fun q q1 q2 q3 => by rw [upI_row _ _ q2]; exact a1 q q1 q2 q3, fun j hj => by rw [upI_row _ _ (by decide)]; exact a2 j hj, a3, a4, a5.fr (fun i hi => upI_k _ _ (by omega)), by rw [upI_same]; rfl, fun i hi hi2 => by rw [upI_k _ _ (by omega)]; exact a7 i hi hi2, hu, fun y hy _ => hub y hy, fun e => absurd rfl e, a11, by rw [upI_row _ _ (by decide)]; exact a12, a13, fun e => ⟨(a14 e).1, fun i hi => by rw [upI_row _ _ (by decide)]; exact (a14 e).2 i hi⟩⟩
theorem lyS.deep (h : lyS I0 J0 loops I J rs cu u f b) (hx : x < 10) (hl : rs.length + 1 < 8) {uu : Nat} (hu : uu < 1024) (hub : ∀ y, y < 10 → uu.testBit y = rs.contains y) : lyS I0 J0 loops (upI I 105 rs.length (nI x)) J (x :: rs) 0 (uu ||| 2 ^ x) f b := by
  obtain ⟨a1, a2, a3, a4, a5, a6, a7, a8, a9, a10, a11, a12, a13, a14⟩ := h
  have h2x : 2 ^ x < 2 ^ 10 := Nat.pow_lt_pow_right (by decide) hx
  refine ⟨fun q q1 q2 q3 => by rw [upI_row _ _ q2]; exact a1 q q1 q2 q3, fun j hj => by rw [upI_row _ _ (by decide)]; exact a2 j hj, a3, a4, (a5.fr (fun i hi => upI_k _ _ (by omega))).cons (by rw [upI_same]; exact (if_neg (by omega)).symm), ?_, fun i hi hi2 => ?_, Nat.or_lt_two_pow (n := 10) hu h2x, fun y hy _ => ?_, fun e => absurd rfl e, a11, by rw [upI_row _ _ (by decide)]; exact a12, a13, fun e => ⟨(a14 e).1, fun i hi => by rw [upI_row _ _ (by decide)]; exact (a14 e).2 i hi⟩⟩
  · rw [List.length_cons, upI_k _ _ (by omega)]; exact a7 _ (by omega) (by omega)
  · rw [List.length_cons] at hi; rw [upI_k _ _ (by omega)]; exact a7 i (by omega) hi2
  · rw [Nat.testBit_or, hub y hy, Nat.testBit_two_pow, List.contains_cons]
    by_cases e : x = y
    · subst e; simp
    · rw [decide_eq_false e, show (y == x) = false from beq_eq_false_iff_ne.mpr (fun q => e q.symm)]; simp
theorem lyS.push99 (h : lyS I0 J0 loops I J rs 0 u f b) (hl : rs.length + 1 < 8) : lyS I0 J0 loops I J (99 :: rs) 0 u f b := by
  obtain ⟨a1, a2, a3, a4, a5, a6, a7, a8, a9, a10, a11, a12, a13, a14⟩ := h
  refine ⟨a1, a2, a3, a4, a5.cons a6, ?_, fun i hi hi2 => ?_, a8, fun y hy e => ?_, fun e => absurd rfl e, a11, a12, a13, a14⟩
  · rw [List.length_cons]; exact a7 _ (by omega) (by omega)
  · rw [List.length_cons] at hi; exact a7 i (by omega) hi2
  · rw [a9 y hy (Or.inl rfl), List.contains_cons, show (y == 99) = false from beq_eq_false_iff_ne.mpr (by omega)]; rfl
theorem lyS.pop99 (h : lyS I0 J0 loops I J (99 :: rs) 0 u f b) : lyS I0 J0 loops I J rs 0 u f b := by
  obtain ⟨a1, a2, a3, a4, a5, a6, a7, a8, a9, a10, a11, a12, a13, a14⟩ := h
  refine ⟨a1, a2, a3, a4, a5.tail, a5.last, fun i hi hi2 => ?_, a8, fun y hy e => ?_, fun e => absurd rfl e, a11, a12, a13, a14⟩
  · by_cases e : i = (99 :: rs).length
    · subst e; exact a6
    · exact a7 i (by rw [List.length_cons] at e ⊢; omega) hi2
  · rw [a9 y hy (Or.inl rfl), List.contains_cons, show (y == 99) = false from beq_eq_false_iff_ne.mpr (by omega)]; rfl
theorem lyS.pop (h : lyS I0 J0 loops I J (x :: rs) 0 u f b) (hx : x < 10) (hn : rs.contains x = false) : lyS I0 J0 loops I J rs (x + 1) u f b := by
  obtain ⟨a1, a2, a3, a4, a5, a6, a7, a8, a9, a10, a11, a12, a13, a14⟩ := h
  refine ⟨a1, a2, a3, a4, a5.tail, by rw [a5.last]; unfold seatI; rw [if_neg (by omega), if_neg (by omega)]; rfl, fun i hi hi2 => ?_, a8, fun y hy e => ?_, fun _ => ⟨by omega, hn⟩, a11, a12, a13, a14⟩
  · by_cases e : i = (x :: rs).length
    · subst e; exact a6
    · exact a7 i (by rw [List.length_cons] at e ⊢; omega) hi2
  · rw [a9 y hy (Or.inl rfl), List.contains_cons, show (y == x) = false from beq_eq_false_iff_ne.mpr (by omega)]; rfl
theorem lyS.took (h : lyS I0 J0 loops I J rs cu u f b) (hx : x < 10) (hn : rs.contains x = false) {uu : Nat} (hu : uu < 1024) (hub : ∀ y, y < 10 → uu.testBit y = rs.contains y) {J2 : KJ} (hI : ∀ q, q ≠ 85 → q ≠ 105 → q ≠ 106 → I2 q = I q) (hj : ∀ j, j ≠ 35 → I2 85 j = I 85 j) (h105 : ∀ i, i ≠ rs.length → I2 105 i = I 105 i) (h105x : I2 105 rs.length = nI x) (hJ : ∀ q, q ≠ 85 → J2 q = J q) (hJj : ∀ j, j ≠ 36 → J2 85 j = J 85 j) {f2 : Nat} {b2 : Nat × List Nat} (g1 : J2 85 36 = lN f2) (g2 : I2 85 35 = stI b2.1) (g3 : b2.1 ≤ 10) (g4 : b2.1 ≠ 0 → b2.2.length = loops ∧ ∀ i, i < 8 → I2 106 i = (if i < loops then seatI (b2.2.getD (loops - 1 - i) 99) else -9)) : lyS I0 J0 loops I2 J2 rs (x + 1) uu f2 b2 := by
  obtain ⟨a1, a2, a3, a4, a5, a6, a7, a8, a9, a10, a11, a12, a13, a14⟩ := h
  exact ⟨fun q q1 q2 q3 => by rw [hI q q1 q2 q3]; exact a1 q q1 q2 q3, fun j hj2 => by rw [hj j hj2]; exact a2 j hj2, fun q hq => by rw [hJ q hq]; exact a3 q hq, fun j hj2 => by rw [hJj j hj2]; exact a4 j hj2, a5.fr (fun i hi => h105 i (by omega)), by rw [h105x, if_neg (by omega)]; rfl, fun i hi hi2 => by rw [h105 i (by omega)]; exact a7 i hi hi2, hu, fun y hy _ => hub y hy, fun _ => ⟨by omega, hn⟩, g1, g2, g3, g4⟩
theorem lyS.clr (h : lyS I0 J0 loops I J rs cu u f b) {d : Nat} (hd : cu = d + 1) : clr u (2 ^ d) < 1024 ∧ ∀ y, y < 10 → (clr u (2 ^ d)).testBit y = rs.contains y := by
  obtain ⟨a1, a2, a3, a4, a5, a6, a7, a8, a9, a10, a11, a12, a13, a14⟩ := h
  refine ⟨Nat.lt_of_le_of_lt (clr_le _ _) a8, fun y hy => ?_⟩
  subst hd
  rw [clr_bit, Nat.testBit_two_pow]
  by_cases e : d = y
  · subst e
    have := (a10 (by omega)).2
    rw [Nat.add_sub_cancel] at this
    rw [this]; simp
  · rw [decide_eq_false e, a9 y hy (Or.inr (by omega))]; simp
end
theorem atI_eq {n emp : Nat} (h1 : 1 ≤ n) (h8 : n ≤ 8) (he : emp ≤ 98) : nI n - 1 = empI emp ↔ n - 1 = emp := by
  rw [nI_s1 n h1]
  unfold empI
  by_cases e : emp = 98
  · rw [if_pos e]
    constructor
    · intro q
      have := congrArg Int32.toInt q
      rw [nI_toInt (by omega)] at this
      simp only [Int32.reduceToInt] at this
      omega
    · intro q; omega
  · rw [if_neg e]
    exact ⟨fun q => nI_inj q (by omega) (by omega), fun q => by rw [q]⟩
theorem stI_row (n : Nat) : nI n = stI (n + 1) := by unfold stI; rw [if_neg (by omega)]; rfl
abbrev LyR (X : KX) (first emp loops m set r : Nat) : List (Nat × Value) := [(8, .int (nI first)), (5, .int (empI emp)), (4, .int (nI loops)), (3, .int (nI m)), (0, .ref (xad X 85)), (1, .int (nI set)), (2, .int (nI r))]
def layP (X : KX) (t : Nat) (I0 : KI) (J0 : KJ) (c set emp loops first m r : Nat) (T : Nat → Nat → Nat) (ag : Nat → Nat) (k : Nat) : Prop :=
  ∀ (I : KI) (J : KJ) (rs : List Nat) (cu u f : Nat) (b : Nat × List Nat), rs.length + (k + 1) = loops → rs.length ≠ emp → first ≤ rs.length → rsOk set emp rs → cu ≤ c → lyS I0 J0 loops I J rs cu u f b →
  (∀ I' J' u' f' b', lyS I0 J0 loops I' J' rs 0 u' f' b' → f' = f + (fillX (cdS set T ag r) emp k rs cu).length → b' = bsF (rowF T) (fillX (cdS set T ag r) emp k rs cu) b → Z X 0 0 (V X I' J' (rf t)) 91 ((7, .int (bk rs.length first emp)) :: (6, .int (nI u')) :: LyR X first emp loops m set r) []) →
  Z X 0 0 (V X I J (rf t)) 91 ((7, .int (nI rs.length)) :: (6, .int (nI u)) :: LyR X first emp loops m set r) []
