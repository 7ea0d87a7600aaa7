/-! ways: the least costs, by what they must satisfy -/
def w16 (rd : Nat → Nat → Nat) (k : Nat) : Nat := 16 * rd 2 k + (if 0 < rd 3 k then 1 else 0)
def w100 (rd : Nat → Nat → Nat) (k : Nat) : Nat := 100 * rd 2 k + (if 0 < rd 3 k then 1 else 0)
abbrev incS (rd : Nat → Nat → Nat) (k a : Nat) : Prop := rd 0 k = a ∨ rd 1 k = a
def othS (rd : Nat → Nat → Nat) (k a : Nat) : Nat := if rd 0 k = a then rd 1 k else rd 0 k
def okW (n r : Nat) (rd C : Nat → Nat → Nat) : Prop :=
  (∀ a, a < n → C a a = 0) ∧ (∀ a b, a < n → b < n → C a b ≤ 1048576) ∧ (∀ k a b, k < r → a < n → b < n → incS rd k a → C a b ≤ w16 rd k + C (othS rd k a) b) ∧
  (∀ a b, a < n → b < n → a ≠ b → C a b < 1048576 → ∃ k, k < r ∧ incS rd k a ∧ C a b = w16 rd k + C (othS rd k a) b)
theorem oth_lt {n r : Nat} {rd : Nat → Nat → Nat} (h : okRd n r rd) {k a : Nat} (hk : k < r) : othS rd k a < n := by
  have := h k hk; unfold othS; split <;> omega
theorem oth_ne {n r : Nat} {rd : Nat → Nat → Nat} (h : okRd n r rd) {k a : Nat} (hk : k < r) (hi : incS rd k a) : othS rd k a ≠ a := by
  have := h k hk
  unfold othS incS at *
  split <;> omega
theorem inc_oth {rd : Nat → Nat → Nat} {k a : Nat} (hi : incS rd k a) : incS rd k (othS rd k a) := by
  unfold othS incS at *
  split <;> omega
theorem oth_oth {rd : Nat → Nat → Nat} {k a : Nat} (hi : incS rd k a) : othS rd k (othS rd k a) = a := by
  unfold othS incS at *
  by_cases h : rd 0 k = a
  · rw [if_pos h]; split <;> omega
  · rw [if_neg h, if_pos rfl]; omega
theorem w16_pos {n r : Nat} {rd : Nat → Nat → Nat} (h : okRd n r rd) {k : Nat} (hk : k < r) : 16 ≤ w16 rd k ∧ w16 rd k ≤ 481 := by
  have := h k hk; unfold w16; split <;> omega
/-- how many corners are nearer -/
def rkS (C : Nat → Nat → Nat) (b c : Nat) : Nat → Nat
  | 0 => 0
  | x + 1 => rkS C b c x + if C x b < c then 1 else 0
theorem rkS_le (C : Nat → Nat → Nat) (b c : Nat) : ∀ x, rkS C b c x ≤ x
  | 0 => Nat.le_refl 0
  | x + 1 => by have := rkS_le C b c x; rw [rkS]; split <;> omega
theorem rkS_mono {C : Nat → Nat → Nat} {b c c2 : Nat} (h : c ≤ c2) : ∀ x, rkS C b c x ≤ rkS C b c2 x
  | 0 => Nat.le_refl 0
  | x + 1 => by
    have := rkS_mono (C := C) (b := b) h x
    rw [rkS, rkS]
    split
    · rw [if_pos (by omega)]; omega
    · omega
theorem rkS_lt {C : Nat → Nat → Nat} {b c2 o : Nat} (h : C o b < c2) : ∀ x, o < x → rkS C b (C o b) x < rkS C b c2 x
  | 0, hx => absurd hx (Nat.not_lt_zero o)
  | x + 1, hx => by
    rw [rkS, rkS]
    by_cases e : o = x
    · subst e
      have := rkS_mono (C := C) (b := b) (Nat.le_of_lt h) o
      rw [if_neg (Nat.lt_irrefl _), if_pos h]; omega
    · have h1 := rkS_lt h x (by omega)
      split
      · rw [if_pos (by omega)]; omega
      · omega
theorem rkS_full {C : Nat → Nat → Nat} {b a : Nat} : ∀ x, a < x → rkS C b (C a b) x < x
  | 0, hx => absurd hx (Nat.not_lt_zero a)
  | x + 1, hx => by
    rw [rkS]
    by_cases e : a = x
    · subst e
      have := rkS_le C b (C a b) a
      rw [if_neg (Nat.lt_irrefl _)]; omega
    · have h1 := rkS_full (C := C) (b := b) x (by omega : a < x)
      split <;> omega
/-- a corner's rank: below the number of corners -/
def rnk (C : Nat → Nat → Nat) (n a b : Nat) : Nat := rkS C b (C a b) n
theorem rnk_lt {C : Nat → Nat → Nat} {n a b : Nat} (ha : a < n) : rnk C n a b < n := rkS_full n ha
theorem rnk_down {C : Nat → Nat → Nat} {n a b o : Nat} (ho : o < n) (h : C o b < C a b) : rnk C n o b < rnk C n a b := rkS_lt h n ho
/-- crossings of a way are fewer than its rank -/
theorem okW_dig {n r : Nat} {rd C : Nat → Nat → Nat} (hr : okRd n r rd) (h : okW n r rd C) {b : Nat} (hb : b < n) : ∀ (f a : Nat), rnk C n a b < f → a < n → C a b < 1048576 → C a b % 16 ≤ rnk C n a b ∧ C a b / 16 ≤ 30 * rnk C n a b ∨ 16 ≤ rnk C n a b := by
  intro f
  induction f with
  | zero => intro a h; omega
  | succ f ih =>
    intro a hf ha hlt
    by_cases hab : a = b
    · subst hab
      rw [h.1 a ha]; left; omega
    · obtain ⟨k, hk, hi, he⟩ := h.2.2.2 a b ha hb hab hlt
      have ho := oth_lt hr (a := a) hk
      have hw := w16_pos hr hk
      have hd := rnk_down (a := a) (n := n) ho (show C (othS rd k a) b < C a b by omega)
      rcases ih (othS rd k a) (by omega) ho (by omega) with g | g
      · have hq := hr k hk
        by_cases h16 : 16 ≤ rnk C n a b
        · right; exact h16
        · left
          unfold w16 at he
          split at he <;> omega
      · right; omega
theorem okW_d6 {n r : Nat} {rd C : Nat → Nat → Nat} (hn : n ≤ 7) (hr : okRd n r rd) (h : okW n r rd C) {a b : Nat} (ha : a < n) (hb : b < n) (hlt : C a b < 1048576) : C a b % 16 ≤ 6 ∧ C a b / 16 ≤ 180 := by
  have h1 := rnk_lt (C := C) (b := b) ha
  rcases okW_dig hr h hb (rnk C n a b + 1) a (by omega) ha hlt with g | g <;> omega
theorem okW_small {n r : Nat} {rd C : Nat → Nat → Nat} (hn : n ≤ 7) (hr : okRd n r rd) (h : okW n r rd C) {a b : Nat} (ha : a < n) (hb : b < n) (hlt : C a b < 1048576) : C a b ≤ 2886 := by
  have := okW_d6 hn hr h ha hb hlt; omega
/-! the class's way to them: the triangle rule, mid by mid -/
def flo (C : Nat → Nat → Nat) (m : Nat) : Nat → Nat → Nat := fun a b => min (C a b) (C a m + C m b)
def okF (n r : Nat) (rd : Nat → Nat → Nat) (m : Nat) (C : Nat → Nat → Nat) : Prop :=
  (∀ a, a < n → C a a = 0) ∧ (∀ a b, a < n → b < n → C a b ≤ 1048576) ∧ (∀ k a, k < r → incS rd k a → C a (othS rd k a) ≤ w16 rd k) ∧
  (∀ a b, a < n → b < n → a ≠ b → C a b < 1048576 → ∃ k, k < r ∧ incS rd k a ∧ w16 rd k + C (othS rd k a) b ≤ C a b) ∧ (∀ x a b, x < m → x < n → a < n → b < n → C a b ≤ C a x + C x b)
theorem okF.step {n r m : Nat} {rd C : Nat → Nat → Nat} (hr : okRd n r rd) (h : okF n r rd m C) (hm : m < n) : okF n r rd (m + 1) (flo C m) := by
  obtain ⟨h0, h1, h2, h3, h4⟩ := h
  have hmm := h0 m hm
  refine ⟨fun a ha => ?_, fun a b ha hb => ?_, fun k a hk hi => ?_, fun a b ha hb hab hlt => ?_, fun x a b hx hxn ha hb => ?_⟩
  · unfold flo; have := h0 a ha; omega
  · unfold flo; have := h1 a b ha hb; omega
  · unfold flo; have := h2 k a hk hi; omega
  · by_cases hc : C a b ≤ C a m + C m b
    · have he : flo C m a b = C a b := by unfold flo; omega
      rw [he] at hlt ⊢
      obtain ⟨k, hk, hi, hle⟩ := h3 a b ha hb hab hlt
      exact ⟨k, hk, hi, by unfold flo; omega⟩
    · have he : flo C m a b = C a m + C m b := by unfold flo; omega
      rw [he] at hlt ⊢
      have ham : a ≠ m := fun e => by subst e; omega
      obtain ⟨k, hk, hi, hle⟩ := h3 a m ha hm ham (by omega)
      exact ⟨k, hk, hi, by unfold flo; omega⟩
  · unfold flo
    by_cases e : x = m
    · subst e; omega
    · have hx2 : x < m := by omega
      have g1 := h4 x a b hx2 hxn ha hb
      have g2 := h4 x m b hx2 hxn hm hb
      have g3 := h4 x a m hx2 hxn ha hm
      omega
theorem okF.fin {n r : Nat} {rd C : Nat → Nat → Nat} (hr : okRd n r rd) (h : okF n r rd n C) (hs : ∀ a b, a < n → b < n → C a b ≤ 1048576) : okW n r rd C := by
  obtain ⟨h0, h1, h2, h3, h4⟩ := h
  have hcl : ∀ k a b, k < r → a < n → b < n → incS rd k a → C a b ≤ w16 rd k + C (othS rd k a) b := fun k a b hk ha hb hi => by
    have ho := oth_lt hr (a := a) hk
    have g1 := h4 _ a b ho ho ha hb
    have g2 := h2 k a hk hi
    omega
  refine ⟨h0, h1, hcl, fun a b ha hb hab hlt => ?_⟩
  obtain ⟨k, hk, hi, hle⟩ := h3 a b ha hb hab hlt
  exact ⟨k, hk, hi, Nat.le_antisymm (hcl k a b hk ha hb hi) hle⟩
/-- direct roads: the first j of them -/
def okE (n r : Nat) (rd : Nat → Nat → Nat) (j : Nat) (C : Nat → Nat → Nat) : Prop :=
  (∀ a, a < n → C a a = 0) ∧ (∀ a b, a < n → b < n → C a b ≤ 1048576) ∧ (∀ k a, k < j → k < r → incS rd k a → C a (othS rd k a) ≤ w16 rd k) ∧
  (∀ a b, a < n → b < n → a ≠ b → C a b < 1048576 → ∃ k, k < r ∧ incS rd k a ∧ othS rd k a = b ∧ w16 rd k ≤ C a b)
def rel (C : Nat → Nat → Nat) (x y v : Nat) : Nat → Nat → Nat := fun a b => if (a = x ∧ b = y) ∨ (a = y ∧ b = x) then v else C a b
theorem okE.step {n r j : Nat} {rd C : Nat → Nat → Nat} (hr : okRd n r rd) (hj : j < r) (h : okE n r rd j C) : okE n r rd (j + 1) (rel C (rd 0 j) (rd 1 j) (min (C (rd 0 j) (rd 1 j)) (w16 rd j))) := by
  obtain ⟨h0, h1, h2, h3⟩ := h
  have hq := hr j hj
  have hsym : ∀ a b, ((a = rd 0 j ∧ b = rd 1 j) ∨ (a = rd 1 j ∧ b = rd 0 j)) → incS rd j a ∧ othS rd j a = b := by
    intro a b hab
    unfold incS othS
    rcases hab with ⟨rfl, rfl⟩ | ⟨rfl, rfl⟩
    · exact ⟨Or.inl rfl, if_pos rfl⟩
    · exact ⟨Or.inr rfl, if_neg hq.2.2.1⟩
  refine ⟨fun a ha => ?_, fun a b ha hb => ?_, fun k a hk hkr hi => ?_, fun a b ha hb hab hlt => ?_⟩
  · unfold rel; rw [if_neg (by omega)]; exact h0 a ha
  · unfold rel
    split
    · have := h1 _ _ hq.1 hq.2.1; omega
    · exact h1 a b ha hb
  · unfold rel
    split
    · rename_i hc
      by_cases e : k = j
      · subst e; omega
      · have g := h2 k a (by omega) hkr hi
        have hw := w16_pos hr hkr
        rcases hc with ⟨e1, e2⟩ | ⟨e1, e2⟩
        · rw [e2] at g; rw [e1] at g
          omega
        · -- the other way round: the same road, from its other end
          have hi2 := inc_oth hi
          have g2 := h2 k _ (by omega) hkr hi2
          rw [oth_oth hi] at g2
          rw [e2] at g2; rw [e1] at g2
          omega
    · rename_i hc
      by_cases e : k = j
      · subst e
        exact absurd (by unfold incS at hi; unfold othS; split <;> omega) hc
      · exact h2 k a (by omega) hkr hi
  · unfold rel at hlt ⊢
    by_cases hc : (a = rd 0 j ∧ b = rd 1 j) ∨ (a = rd 1 j ∧ b = rd 0 j)
    · rw [if_pos hc] at hlt ⊢
      by_cases hmin : C (rd 0 j) (rd 1 j) ≤ w16 rd j
      · rw [Nat.min_eq_left hmin] at hlt ⊢
        obtain ⟨k, hk, hi, ho, hw⟩ := h3 _ _ hq.1 hq.2.1 hq.2.2.1 hlt
        rcases hc with ⟨rfl, rfl⟩ | ⟨rfl, rfl⟩
        · exact ⟨k, hk, hi, ho, hw⟩
        · refine ⟨k, hk, ?_, ?_, hw⟩
          · rw [← ho]; exact inc_oth hi
          · rw [← ho]; exact oth_oth hi
      · rw [Nat.min_eq_right (by omega)]
        exact ⟨j, hj, (hsym a b hc).1, (hsym a b hc).2, Nat.le_refl _⟩
    · rw [if_neg hc] at hlt ⊢
      exact h3 a b ha hb hab hlt
theorem okE.F {n r : Nat} {rd C : Nat → Nat → Nat} (hr : okRd n r rd) (h : okE n r rd r C) : okF n r rd 0 C := by
  obtain ⟨h0, h1, h2, h3⟩ := h
  refine ⟨h0, h1, fun k a hk hi => h2 k a hk hk hi, fun a b ha hb hab hlt => ?_, fun x a b hx => by omega⟩
  obtain ⟨k, hk, hi, ho, hw⟩ := h3 a b ha hb hab hlt
  exact ⟨k, hk, hi, by rw [ho, h0 b hb]; omega⟩
theorem okE.zero (n r : Nat) (rd : Nat → Nat → Nat) : okE n r rd 0 (fun a b => if a = b then 0 else 1048576) := by
  refine ⟨fun a _ => if_pos rfl, fun a b _ _ => by dsimp only; split <;> omega, fun k a hk => by omega, fun a b _ _ hab hlt => by dsimp only at hlt; rw [if_neg hab] at hlt; omega⟩
