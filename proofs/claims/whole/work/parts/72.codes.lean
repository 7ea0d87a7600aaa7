/-! the reference's codes of orders -/
def loS (n : Nat) : Nat → Nat → Nat → Option (List Nat)
  | 0, _, _ => some []
  | k + 1, left, had => if had.testBit (left % n) then none else (loS n k (left / n) (had ||| 2 ^ (left % n))).map (fun l => l ++ [left % n])
def pmF (n code : Nat) : List (List Nat) := (List.range' code (n ^ n - code)).filterMap (fun c => loS n n c 0)
theorem pmF_none {n code : Nat} (h : code < n ^ n) (h2 : loS n n code 0 = none) : pmF n code = pmF n (code + 1) := by
  unfold pmF
  obtain ⟨d, hd⟩ : ∃ d, n ^ n - code = d + 1 := ⟨n ^ n - code - 1, by omega⟩
  rw [hd, List.range'_succ, List.filterMap_cons, h2, show n ^ n - (code + 1) = d by omega]
theorem pmF_some {n code : Nat} {p : List Nat} (h : code < n ^ n) (h2 : loS n n code 0 = some p) : pmF n code = p :: pmF n (code + 1) := by
  unfold pmF
  obtain ⟨d, hd⟩ : ∃ d, n ^ n - code = d + 1 := ⟨n ^ n - code - 1, by omega⟩
  rw [hd, List.range'_succ, List.filterMap_cons, h2, show n ^ n - (code + 1) = d by omega]
theorem pmF_end {n code : Nat} (h : n ^ n ≤ code) : pmF n code = [] := by
  unfold pmF
  rw [show n ^ n - code = 0 by omega]; rfl
theorem pmF_0 {n : Nat} (h : n ≤ 4) : pmF n 0 = pmE n := by
  match n, h with
  | 0, _ => decide +kernel
  | 1, _ => decide +kernel
  | 2, _ => decide +kernel
  | 3, _ => decide +kernel
  | 4, _ => decide +kernel
  | n + 5, h => omega
theorem pow4 {n : Nat} (h : n ≤ 4) : n ^ n ≤ 256 := by
  match n, h with
  | 0, _ => decide
  | 1, _ => decide
  | 2, _ => decide
  | 3, _ => decide
  | 4, _ => decide
  | n + 5, h => omega
theorem pmF_mem {n code : Nat} {p : List Nat} (hn : n ≤ 4) (h : code < n ^ n) (h2 : loS n n code 0 = some p) : p ∈ pmE n := by
  rw [← pmF_0 hn]
  unfold pmF
  exact List.mem_filterMap.mpr ⟨code, List.mem_range'_1.mpr ⟨Nat.zero_le _, by omega⟩, h2⟩
theorem stI_le {a b : Nat} (ha : a ≤ 201) (hb : b ≤ 201) : stI a ≤ stI b ↔ a ≤ b := by
  rw [fa_le]
  unfold stI
  by_cases e : a = 0
  · rw [if_pos e]
    by_cases e2 : b = 0
    · rw [if_pos e2]; omega
    · rw [if_neg e2, nI_toInt (by omega)]; simp only [Int32.reduceToInt]; omega
  · rw [if_neg e, nI_toInt (by omega)]
    by_cases e2 : b = 0
    · rw [if_pos e2]; simp only [Int32.reduceToInt]; omega
    · rw [if_neg e2, nI_toInt (by omega)]; omega
theorem mid_h (lo hi : Nat) (h : lo < hi) (h1 : hi < 2 ^ 28) : nI lo + (-1) + (nI hi + (-1)) + 1 = nI (lo + hi - 1) := by
  apply i_ext
  have e1 : (nI lo + (-1) + (nI hi + (-1))).toInt = (lo : Int) - 1 + (hi - 1) := by
    rw [fb_addI (by rw [nI_m1 _ (by omega), nI_m1 _ (by omega)]; omega) (by rw [nI_m1 _ (by omega), nI_m1 _ (by omega)]; omega), nI_m1 _ (by omega), nI_m1 _ (by omega)]
  rw [fb_addI (by rw [e1]; simp only [Int32.reduceToInt]; omega) (by rw [e1]; simp only [Int32.reduceToInt]; omega), e1, nI_toInt (by omega)]
  simp only [Int32.reduceToInt]
  omega
def mSg (I : KI) (G : List Nat) : Prop := I 85 27 = nI G.length ∧ ordA I 104 G
theorem mSg.fr {I I' : KI} {G : List Nat} (h : mSg I G) (h1 : I' 85 27 = I 85 27) (h2 : I' 104 = I 104) : mSg I' G := ⟨h1.trans h.1, h.2.fr h2⟩
