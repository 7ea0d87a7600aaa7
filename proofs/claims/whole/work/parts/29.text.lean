/-! the text of streets -/
def isD (cd : Nat → Int32) (n at' lo hi : Nat) : Prop := at' < n ∧ 48 + (lo : Int) ≤ (cd at').toInt ∧ (cd at').toInt ≤ 48 + hi
def dv (cd : Nat → Int32) (at' : Nat) : Nat := ((cd at').toInt - 48).toNat
def isC (cd : Nat → Int32) (n at' c : Nat) : Prop := at' < n ∧ cd at' = nI c
def isDb (cd : Nat → Int32) (n at' lo hi : Nat) : Bool := decide (at' < n) && (decide (48 + (lo : Int) ≤ (cd at').toInt) && decide ((cd at').toInt ≤ 48 + hi))
def isCb (cd : Nat → Int32) (n at' c : Nat) : Bool := decide (at' < n) && decide (cd at' = nI c)
theorem isDb_t {cd : Nat → Int32} {n a lo hi : Nat} : isDb cd n a lo hi = true ↔ isD cd n a lo hi := by unfold isDb isD; simp
theorem isDb_f {cd : Nat → Int32} {n a lo hi : Nat} : isDb cd n a lo hi = false ↔ ¬ isD cd n a lo hi := by rw [← isDb_t]; simp
theorem isCb_t {cd : Nat → Int32} {n a c : Nat} : isCb cd n a c = true ↔ isC cd n a c := by unfold isCb isC; simp
theorem isCb_f {cd : Nat → Int32} {n a c : Nat} : isCb cd n a c = false ↔ ¬ isC cd n a c := by rw [← isCb_t]; simp
/-- the number from a on: its value and where it ends -/
def nuP (cd : Nat → Int32) (n a : Nat) : Nat × Nat := if isDb cd n a 0 9 = true then (if isDb cd n (a + 1) 0 9 = true then (10 * dv cd a + dv cd (a + 1), a + 2) else (dv cd a, a + 1)) else (0, a)
abbrev Rd : Type := Nat × Nat × Nat × Nat × Nat × Nat
def rdP (cd : Nat → Int32) (n nc a : Nat) : Nat ⊕ Rd :=
  if isDb cd n a 0 (nc - 1) = false then .inl a else
  if isDb cd n (a + 1) 0 (nc - 1) = false ∨ dv cd (a + 1) = dv cd a then .inl (a + 1) else
  if ¬ (1 ≤ (nuP cd n (a + 2)).1 ∧ (nuP cd n (a + 2)).1 ≤ 30) then .inl (a + 2) else
  if isCb cd n (nuP cd n (a + 2)).2 99 = false then .inr (dv cd a, dv cd (a + 1), (nuP cd n (a + 2)).1, 0, 0, (nuP cd n (a + 2)).2) else
  if isDb cd n ((nuP cd n (a + 2)).2 + 1) 1 9 = false then .inl ((nuP cd n (a + 2)).2 + 1) else
  if isDb cd n ((nuP cd n (a + 2)).2 + 2) 1 9 = false then .inl ((nuP cd n (a + 2)).2 + 2) else
  .inr (dv cd a, dv cd (a + 1), (nuP cd n (a + 2)).1, dv cd ((nuP cd n (a + 2)).2 + 1), dv cd ((nuP cd n (a + 2)).2 + 2), (nuP cd n (a + 2)).2 + 3)
def rdU (rd : Nat → Nat → Nat) (r : Nat) (q : Rd) : Nat → Nat → Nat := fun f k => if k = r then (if f = 0 then q.1 else if f = 1 then q.2.1 else if f = 2 then q.2.2.1 else if f = 3 then q.2.2.2.1 else q.2.2.2.2.1) else rd f k
/-- the roads from the r-th on: fuel f; a fault's place, or how many roads, the school, the roads -/
def rrP (cd : Nat → Int32) (n nc : Nat) : Nat → Nat → Nat → (Nat → Nat → Nat) → Nat ⊕ (Nat × Nat × (Nat → Nat → Nat))
  | 0, _, a, _ => .inl a
  | f + 1, r, a, rd =>
    if isCb cd n a 59 = false then .inl a else
    if 0 < r ∧ isCb cd n (a + 1) 115 = true then
      (if isDb cd n (a + 2) 0 (nc - 1) = false then .inl (a + 2) else if a + 3 = n then .inr (r, dv cd (a + 2), rd) else .inl (a + 3)) else
    if r = 12 then .inl (a + 1) else
    match rdP cd n nc (a + 1) with
    | .inl p => .inl p
    | .inr q => rrP cd n nc f (r + 1) q.2.2.2.2.2 (rdU rd r q)
def txP (cd : Nat → Int32) (n : Nat) : Nat ⊕ (Nat × Nat × Nat × (Nat → Nat → Nat)) :=
  if isCb cd n 0 110 = false then .inl 0 else if isDb cd n 1 2 7 = false then .inl 1 else
  match rrP cd n (dv cd 1) 13 0 2 (fun _ _ => 0) with
  | .inl p => .inl p
  | .inr q => .inr (dv cd 1, q)
theorem isD.v {cd : Nat → Int32} {n a lo hi : Nat} (h : isD cd n a lo hi) : lo ≤ dv cd a ∧ dv cd a ≤ hi ∧ (cd a).toInt = 48 + (dv cd a : Int) := by
  obtain ⟨-, h1, h2⟩ := h
  unfold dv
  omega
theorem isD.i {cd : Nat → Int32} {n a lo hi : Nat} (h : isD cd n a lo hi) (hh : hi ≤ 9) : cd a - 48 = nI (dv cd a) := by
  have h1 := h.v
  apply i_ext
  have e : (48 : Int32).toInt = 48 := by decide
  rw [fb_subI (by rw [e]; omega) (by rw [e]; omega), e, nI_toInt (by omega)]
  omega
theorem isD.w {cd : Nat → Int32} {n a lo hi lo2 hi2 : Nat} (h : isD cd n a lo hi) (h1 : lo2 ≤ lo) (h2 : hi ≤ hi2) : isD cd n a lo2 hi2 := ⟨h.1, by have := h.2.1; omega, by have := h.2.2; omega⟩
theorem nuP_le {cd : Nat → Int32} {n a : Nat} : (nuP cd n a).1 ≤ 99 ∧ a ≤ (nuP cd n a).2 ∧ (a ≤ n → (nuP cd n a).2 ≤ n) := by
  unfold nuP
  split
  · rename_i h
    have h1 := (isDb_t.mp h).v
    have h3 := (isDb_t.mp h).1
    split
    · rename_i h2
      have h4 := (isDb_t.mp h2).v
      have h5 := (isDb_t.mp h2).1
      exact ⟨by dsimp only; omega, by dsimp only; omega, fun _ => by dsimp only; omega⟩
    · exact ⟨by dsimp only; omega, by dsimp only; omega, fun _ => by dsimp only; omega⟩
  · exact ⟨by show _ ≤ _; omega, by show _ ≤ _; omega, fun h => h⟩
theorem rdP_in {cd : Nat → Int32} {n nc a : Nat} {q : Rd} (hnc : 2 ≤ nc) (h : rdP cd n nc a = .inr q) : q.1 < nc ∧ q.2.1 < nc ∧ q.1 ≠ q.2.1 ∧ 1 ≤ q.2.2.1 ∧ q.2.2.1 ≤ 30 ∧ q.2.2.2.1 ≤ 9 ∧ q.2.2.2.2.1 ≤ 9 ∧ a < q.2.2.2.2.2 ∧ q.2.2.2.2.2 ≤ n := by
  unfold rdP at h
  split at h
  · cases h
  · rename_i h1
    split at h
    · cases h
    · rename_i h2
      split at h
      · cases h
      · rename_i h3
        have g1 := (isDb_t.mp (by simpa using h1)).v
        have g2 := (isDb_t.mp (by have : ¬ isDb cd n (a + 1) 0 (nc - 1) = false := fun e => h2 (Or.inl e)
                                  simpa using this)).v
        have g2n := (isDb_t.mp (by have : ¬ isDb cd n (a + 1) 0 (nc - 1) = false := fun e => h2 (Or.inl e)
                                   simpa using this)).1
        have g3 : ¬ dv cd (a + 1) = dv cd a := fun e => h2 (Or.inr e)
        have g4 := nuP_le (cd := cd) (n := n) (a := a + 2)
        have g5 := g4.2.2 (by omega)
        split at h
        · cases h
          refine ⟨?_, ?_, ?_, ?_, ?_, ?_, ?_, ?_, ?_⟩ <;> (dsimp only; omega)
        · split at h
          · cases h
          · rename_i h5
            split at h
            · cases h
            · rename_i h6
              have g6 := (isDb_t.mp (by simpa using h5)).v
              have g7 := (isDb_t.mp (by simpa using h6)).v
              have g8 := (isDb_t.mp (by simpa using h6)).1
              cases h
              refine ⟨?_, ?_, ?_, ?_, ?_, ?_, ?_, ?_, ?_⟩ <;> (dsimp only; omega)
/-- the roads of a text that is taken are as told -/
def okRd (nc r : Nat) (rd : Nat → Nat → Nat) : Prop := ∀ k, k < r → rd 0 k < nc ∧ rd 1 k < nc ∧ rd 0 k ≠ rd 1 k ∧ 1 ≤ rd 2 k ∧ rd 2 k ≤ 30 ∧ rd 3 k ≤ 9 ∧ rd 4 k ≤ 9
theorem okRd.u {nc r : Nat} {rd : Nat → Nat → Nat} (h : okRd nc r rd) {q : Rd} (hq : q.1 < nc ∧ q.2.1 < nc ∧ q.1 ≠ q.2.1 ∧ 1 ≤ q.2.2.1 ∧ q.2.2.1 ≤ 30 ∧ q.2.2.2.1 ≤ 9 ∧ q.2.2.2.2.1 ≤ 9) : okRd nc (r + 1) (rdU rd r q) := by
  intro k hk
  by_cases e : k = r
  · subst e; simpa [rdU] using hq
  · simpa [rdU, e] using h k (by omega)
theorem rrP_ok {cd : Nat → Int32} {n nc : Nat} (hnc : 2 ≤ nc) : ∀ (f r a : Nat) (rd : Nat → Nat → Nat) (q : Nat × Nat × (Nat → Nat → Nat)), r ≤ 12 → okRd nc r rd → rrP cd n nc f r a rd = .inr q → q.1 ≤ 12 ∧ q.2.1 < nc ∧ okRd nc q.1 q.2.2 := by
  intro f
  induction f with
  | zero => intro r a rd q _ _ h; simp [rrP] at h
  | succ f ih =>
    intro r a rd q hr hok h
    rw [rrP] at h
    split at h
    · cases h
    · split at h
      · split at h
        · cases h
        · rename_i h3
          split at h
          · cases h
            have g := (isDb_t.mp (by simpa using h3)).v
            exact ⟨hr, (by dsimp only; omega), hok⟩
          · cases h
      · split at h
        · cases h
        · rename_i h4
          split at h
          · cases h
          · rename_i q2 h5
            have g := rdP_in hnc h5
            exact ih (r + 1) _ _ q (by omega) (hok.u ⟨g.1, g.2.1, g.2.2.1, g.2.2.2.1, g.2.2.2.2.1, g.2.2.2.2.2.1, g.2.2.2.2.2.2.1⟩) h
theorem txP_ok {cd : Nat → Int32} {n : Nat} {q : Nat × Nat × Nat × (Nat → Nat → Nat)} (h : txP cd n = .inr q) : okTw q.1 q.2.1 q.2.2.1 q.2.2.2 ∧ 2 ≤ q.1 := by
  unfold txP at h
  split at h
  · cases h
  · split at h
    · cases h
    · rename_i h2
      have g := (isDb_t.mp (by simpa using h2)).v
      split at h
      · cases h
      · rename_i q2 h3
        cases h
        have g2 := rrP_ok g.1 13 0 2 _ _ (by omega) (fun k hk => by omega) h3
        exact ⟨⟨g.2.1, g2.1, fun _ => g2.2.1, g2.2.2⟩, g.1⟩
