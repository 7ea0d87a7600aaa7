/-! ways: the road by which one goes on, the roads of a way -/
abbrev tgS (rd C : Nat → Nat → Nat) (a b k : Nat) : Prop := incS rd k a ∧ w16 rd k + C (othS rd k a) b = C a b
def nxS (rd C : Nat → Nat → Nat) (a b : Nat) : Nat → Nat
  | 0 => 0
  | r + 1 => if nxS rd C a b r < r then nxS rd C a b r else if tgS rd C a b r then r else r + 1
theorem nxS_le (rd C : Nat → Nat → Nat) (a b : Nat) : ∀ r, nxS rd C a b r ≤ r
  | 0 => Nat.le_refl 0
  | r + 1 => by have := nxS_le rd C a b r; rw [nxS]; split <;> (try split) <;> omega
theorem nxS_none {rd C : Nat → Nat → Nat} {a b : Nat} : ∀ r, (∀ j, j < r → ¬ tgS rd C a b j) → nxS rd C a b r = r
  | 0, _ => rfl
  | r + 1, h => by
    rw [nxS, nxS_none r (fun j hj => h j (by omega)), if_neg (Nat.lt_irrefl _), if_neg (h r (by omega))]
theorem nxS_first {rd C : Nat → Nat → Nat} {a b k : Nat} (hk : tgS rd C a b k) (h : ∀ j, j < k → ¬ tgS rd C a b j) : ∀ r, k < r → nxS rd C a b r = k
  | 0, hr => absurd hr (Nat.not_lt_zero k)
  | r + 1, hr => by
    rw [nxS]
    by_cases e : k = r
    · subst e; rw [nxS_none k h, if_neg (Nat.lt_irrefl _), if_pos hk]
    · rw [nxS_first hk h r (by omega), if_pos (by omega)]
theorem nxS_is {rd C : Nat → Nat → Nat} {a b : Nat} : ∀ r, nxS rd C a b r < r → tgS rd C a b (nxS rd C a b r)
  | 0, h => absurd h (Nat.not_lt_zero _)
  | r + 1, h => by
    rw [nxS] at h ⊢
    by_cases h1 : nxS rd C a b r < r
    · rw [if_pos h1] at h ⊢; exact nxS_is r h1
    · rw [if_neg h1] at h ⊢
      by_cases h2 : tgS rd C a b r
      · rw [if_pos h2]; exact h2
      · rw [if_neg h2] at h; omega
theorem nxS_found {rd C : Nat → Nat → Nat} {a b k : Nat} (hk : tgS rd C a b k) : ∀ r, k < r → nxS rd C a b r < r
  | 0, hr => absurd hr (Nat.not_lt_zero k)
  | r + 1, hr => by
    rw [nxS]
    by_cases h1 : nxS rd C a b r < r
    · rw [if_pos h1]; omega
    · rw [if_neg h1]
      by_cases e : k = r
      · subst e; rw [if_pos hk]; omega
      · exact absurd (nxS_found hk r (by omega)) h1
/-- on a way: the next road is one, it is tight, and leads nearer -/
theorem okW.next {n r : Nat} {rd C : Nat → Nat → Nat} (hr : okRd n r rd) (h : okW n r rd C) {a b : Nat} (ha : a < n) (hb : b < n) (hab : a ≠ b) (hlt : C a b < 1048576) :
    nxS rd C a b r < r ∧ incS rd (nxS rd C a b r) a ∧ C a b = w16 rd (nxS rd C a b r) + C (othS rd (nxS rd C a b r) a) b ∧ othS rd (nxS rd C a b r) a < n ∧ C (othS rd (nxS rd C a b r) a) b < 1048576 ∧ rnk C n (othS rd (nxS rd C a b r) a) b < rnk C n a b := by
  obtain ⟨k, hk, hi, he⟩ := h.2.2.2 a b ha hb hab hlt
  have h1 := nxS_found (rd := rd) (C := C) (a := a) (b := b) (k := k) ⟨hi, he.symm⟩ r hk
  have h2 := nxS_is r h1
  have h3 := w16_pos hr h1
  have h4 := oth_lt hr (a := a) h1
  have h5 : C (othS rd (nxS rd C a b r) a) b < C a b := by have := h2.2; omega
  exact ⟨h1, h2.1, h2.2.symm, h4, by omega, rnk_down h4 h5⟩
/-- the roads of a way, by steps -/
def wyS (r : Nat) (rd C : Nat → Nat → Nat) (b : Nat) : Nat → Nat → List Nat
  | 0, _ => []
  | f + 1, a => if a = b then [] else nxS rd C a b r :: wyS r rd C b f (othS rd (nxS rd C a b r) a)
theorem wyS_enough {n r : Nat} {rd C : Nat → Nat → Nat} (hr : okRd n r rd) (h : okW n r rd C) {b : Nat} (hb : b < n) : ∀ (f g a : Nat), a < n → C a b < 1048576 → rnk C n a b < f → rnk C n a b < g → wyS r rd C b f a = wyS r rd C b g a := by
  intro f
  induction f with
  | zero => intro g a _ _ h; omega
  | succ f ih =>
    intro g a ha hlt hf hg
    cases g with
    | zero => omega
    | succ g =>
      rw [wyS, wyS]
      by_cases e : a = b
      · rw [if_pos e, if_pos e]
      · rw [if_neg e, if_neg e]
        obtain ⟨-, -, -, h4, h5, h6⟩ := h.next hr ha hb e hlt
        rw [ih g _ h4 h5 (by omega) (by omega)]
def wy (r : Nat) (rd C : Nat → Nat → Nat) (a b : Nat) : List Nat := wyS r rd C b 7 a
theorem wy_self (r : Nat) (rd C : Nat → Nat → Nat) (a : Nat) : wy r rd C a a = [] := by unfold wy; rw [wyS, if_pos rfl]
theorem wy_step {n r : Nat} {rd C : Nat → Nat → Nat} (hn : n ≤ 7) (hr : okRd n r rd) (h : okW n r rd C) {a b : Nat} (ha : a < n) (hb : b < n) (hab : a ≠ b) (hlt : C a b < 1048576) : wy r rd C a b = nxS rd C a b r :: wy r rd C (othS rd (nxS rd C a b r) a) b := by
  obtain ⟨-, -, -, h4, h5, h6⟩ := h.next hr ha hb hab hlt
  have h7 := rnk_lt (C := C) (b := b) ha
  unfold wy
  rw [wyS, if_neg hab, wyS_enough hr h hb 6 7 _ h4 h5 (by omega) (by omega)]
theorem wy_len {n r : Nat} {rd C : Nat → Nat → Nat} (hn : n ≤ 7) (hr : okRd n r rd) (h : okW n r rd C) {b : Nat} (hb : b < n) : ∀ (f a : Nat), rnk C n a b < f → a < n → C a b < 1048576 → (wy r rd C a b).length ≤ rnk C n a b := by
  intro f
  induction f with
  | zero => intro a h; omega
  | succ f ih =>
    intro a hf ha hlt
    by_cases e : a = b
    · subst e; rw [wy_self]; exact Nat.zero_le _
    · obtain ⟨-, -, -, h4, h5, h6⟩ := h.next hr ha hb e hlt
      rw [wy_step hn hr h ha hb e hlt, List.length_cons]
      have := ih _ (by omega) h4 h5
      omega
theorem wy_len6 {n r : Nat} {rd C : Nat → Nat → Nat} (hn : n ≤ 7) (hr : okRd n r rd) (h : okW n r rd C) {a b : Nat} (ha : a < n) (hb : b < n) (hlt : C a b < 1048576) : (wy r rd C a b).length ≤ 6 := by
  have h1 := wy_len hn hr h hb (rnk C n a b + 1) a (by omega) ha hlt
  have h7 := rnk_lt (C := C) (b := b) ha
  omega
/-- what the class keeps of ways -/
def nxI (r : Nat) (rd C : Nat → Nat → Nat) (a b : Nat) : Int32 := if a = b ∨ 1048576 ≤ C a b then -9 else nI (nxS rd C a b r)
def gC (t n : Nat) (I : KI) (C : Nat → Nat → Nat) : Prop := ∀ a b, a < n → b < n → I (t + 7 + a) b = nI (C a b)
def cWy (t : Nat) (I : KI) (n r : Nat) (rd C : Nat → Nat → Nat) : Prop := gC t n I C ∧ ∀ a b, a < n → b < n → I (t + 15 + a) b = nxI r rd C a b
def frW (t : Nat) (I I' : KI) : Prop := ∀ q, ¬ (t + 7 ≤ q ∧ q ≤ t + 21) → I' q = I q
theorem frW.rf (t : Nat) (I : KI) : frW t I I := fun _ _ => rfl
theorem frW.u {t p k : Nat} {I I' : KI} {v : Int32} (h : frW t I I') (h1 : t + 7 ≤ p) (h2 : p ≤ t + 21) : frW t I (upI I' p k v) := fun q hq => by
  rw [upI_row _ _ (by omega)]; exact h q hq
theorem frW.tw {t n r s : Nat} {I I' : KI} {rd : Nat → Nat → Nat} (h : frW t I I') (hw : cTw t I n r s rd) : cTw t I' n r s rd := hw.fr (fun p _ _ => h p (by omega))
theorem cWy.fr {t n r : Nat} {I I' : KI} {rd C : Nat → Nat → Nat} (hn : n ≤ 7) (h : cWy t I n r rd C) (hf : ∀ p, t + 7 ≤ p → p ≤ t + 21 → I' p = I p) : cWy t I' n r rd C := by
  refine ⟨fun a b ha hb => ?_, fun a b ha hb => ?_⟩
  · rw [hf _ (by omega) (by omega)]; exact h.1 a b ha hb
  · rw [hf _ (by omega) (by omega)]; exact h.2 a b ha hb
/-- a grid filled row by row -/
def lexG (t o n a b : Nat) (I : KI) (D : Nat → Nat → Int32) : Prop := ∀ x y, x < n → y < n → (x < a ∨ (x = a ∧ y < b)) → I (t + o + x) y = D x y
theorem lexG.zero {t o n : Nat} {I : KI} {D : Nat → Nat → Int32} : lexG t o n 0 0 I D := fun x y _ _ h => by omega
theorem lexG.step {t o n a b : Nat} {I : KI} {D : Nat → Nat → Int32} {v : Int32} (h : lexG t o n a b I D) (hv : v = D a b) : lexG t o n a (b + 1) (upI I (t + o + a) b v) D := by
  intro x y hx hy hxy
  by_cases e : x = a ∧ y = b
  · obtain ⟨rfl, rfl⟩ := e; rw [upI_same, hv]
  · by_cases e2 : x = a
    · subst e2; rw [upI_k _ _ (by omega)]; exact h x y hx hy (by omega)
    · rw [upI_p _ _ (by omega)]; exact h x y hx hy (by omega)
theorem lexG.row {t o n a : Nat} {I : KI} {D : Nat → Nat → Int32} (h : lexG t o n a n I D) : lexG t o n (a + 1) 0 I D := fun x y hx hy _ => h x y hx hy (by omega)
theorem lexG.all {t o n : Nat} {I : KI} {D : Nat → Nat → Int32} (h : lexG t o n n 0 I D) : ∀ x y, x < n → y < n → I (t + o + x) y = D x y := fun x y hx hy => h x y hx hy (by omega)
/-- half-way through one mid -/
def mix (C : Nat → Nat → Nat) (m a b : Nat) : Nat → Nat → Nat := fun x y => if x < a ∨ (x = a ∧ y < b) then flo C m x y else C x y
theorem mix_am {C : Nat → Nat → Nat} {m a b : Nat} (h0 : C m m = 0) : mix C m a b a m = C a m := by unfold mix flo; split <;> omega
theorem mix_mb {C : Nat → Nat → Nat} {m a b : Nat} (h0 : C m m = 0) : mix C m a b m b = C m b := by unfold mix flo; split <;> omega
theorem mix_ab {C : Nat → Nat → Nat} {m a b : Nat} : mix C m a b a b = C a b := by unfold mix; rw [if_neg (by omega)]
theorem gC.step {t n m a b : Nat} {I : KI} {C : Nat → Nat → Nat} (h : gC t n I (mix C m a b)) : gC t n (upI I (t + 7 + a) b (nI (flo C m a b))) (mix C m a (b + 1)) := by
  intro x y hx hy
  by_cases e : x = a ∧ y = b
  · obtain ⟨rfl, rfl⟩ := e; rw [upI_same]; unfold mix; rw [if_pos (by omega)]
  · have e3 : mix C m a (b + 1) x y = mix C m a b x y := by
      unfold mix
      by_cases h1 : x < a ∨ x = a ∧ y < b
      · rw [if_pos h1, if_pos (by omega)]
      · rw [if_neg h1, if_neg (by omega)]
    rw [e3]
    by_cases e2 : x = a
    · subst e2; rw [upI_k _ _ (by omega)]; exact h x y hx hy
    · rw [upI_p _ _ (by omega)]; exact h x y hx hy
theorem gC.row {t n m a : Nat} {I : KI} {C : Nat → Nat → Nat} (h : gC t n I (mix C m a n)) : gC t n I (mix C m (a + 1) 0) := by
  intro x y hx hy
  rw [h x y hx hy]; unfold mix
  by_cases h1 : x < a ∨ x = a ∧ y < n
  · rw [if_pos h1, if_pos (by omega)]
  · rw [if_neg h1, if_neg (by omega)]
theorem gC.start {t n m : Nat} {I : KI} {C : Nat → Nat → Nat} (h : gC t n I C) : gC t n I (mix C m 0 0) := by
  intro x y hx hy
  rw [h x y hx hy]; unfold mix; rw [if_neg (by omega)]
theorem gC.fin {t n m : Nat} {I : KI} {C : Nat → Nat → Nat} (h : gC t n I (mix C m n 0)) : gC t n I (flo C m) := by
  intro x y hx hy
  rw [h x y hx hy]; unfold mix; rw [if_pos (by omega)]
theorem gC.both {t n x y v : Nat} {I : KI} {C : Nat → Nat → Nat} (h : gC t n I C) (hxy : x ≠ y) : gC t n (upI (upI I (t + 7 + x) y (nI v)) (t + 7 + y) x (nI v)) (rel C x y v) := by
  intro a b ha hb
  unfold rel
  by_cases e1 : a = y ∧ b = x
  · obtain ⟨rfl, rfl⟩ := e1; rw [upI_same, if_pos (by omega)]
  · have g : upI (upI I (t + 7 + x) y (nI v)) (t + 7 + y) x (nI v) (t + 7 + a) b = upI I (t + 7 + x) y (nI v) (t + 7 + a) b := by
      by_cases e : a = y
      · rw [upI_k _ _ (by omega)]
      · rw [upI_p _ _ (by omega)]
    rw [g]
    by_cases e2 : a = x ∧ b = y
    · obtain ⟨rfl, rfl⟩ := e2; rw [upI_same, if_pos (by omega)]
    · rw [if_neg (by omega)]
      by_cases e : a = x
      · rw [upI_k _ _ (by omega)]; exact h a b ha hb
      · rw [upI_p _ _ (by omega)]; exact h a b ha hb
theorem min_nI {a b : Nat} (ha : a < 2 ^ 31) (hb : b < 2 ^ 31) : (if nI b < nI a then nI b else nI a) = nI (min a b) := by
  split
  · rename_i h; rw [fa_lt, nI_toInt hb, nI_toInt ha] at h; rw [Nat.min_eq_right (by omega)]
  · rename_i h; rw [fa_lt, nI_toInt hb, nI_toInt ha] at h; rw [Nat.min_eq_left (by omega)]
