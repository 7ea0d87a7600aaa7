/-! a line's steps: over roads, over a way, from gate to gate -/
def stpR (rd : Nat → Nat → Nat) (p k : Nat) : List St := (0, rd 2 k * p, 0) :: (if 0 < rd 3 k then [(1, rd 3 k, rd 4 k)] else [])
def stpW (rd : Nat → Nat → Nat) (p : Nat) : List Nat → List St
  | [] => []
  | k :: l => stpR rd p k ++ stpW rd p l
def stpL (r : Nat) (rd C : Nat → Nat → Nat) (rdy pc : Nat → Nat) (s : Nat) : List Nat → Nat → Nat → List St
  | [], a, p => stpW rd p (wy r rd C a s)
  | g :: og, a, p => stpW rd p (wy r rd C a g) ++ ((2, rdy g, 0) :: stpL r rd C rdy pc s og g (max p (pc g)))
def wkL (C : Nat → Nat → Nat) : List Nat → Nat → Bool
  | [], _ => true
  | x :: l, a => decide (C a x < 1048576) && wkL C l x
def crL (C : Nat → Nat → Nat) : List Nat → Nat → Nat
  | [], _ => 0
  | x :: l, a => C a x % 16 + crL C l x
theorem drop_cons {l : List Nat} {k : Nat} (h : k < l.length) : l.drop k = l.getD k 0 :: l.drop (k + 1) := by
  rw [List.drop_eq_getElem_cons h, List.getD_eq_getElem?_getD, List.getElem?_eq_getElem h]; rfl
theorem getD_mem {l : List Nat} {k : Nat} (h : k < l.length) : l.getD k 0 ∈ l := by
  rw [List.getD_eq_getElem?_getD, List.getElem?_eq_getElem h]; exact List.getElem_mem h
theorem getD_app {l : List Nat} {k s : Nat} (h : k ≤ l.length) : (l ++ [s]).getD k 0 = if k < l.length then l.getD k 0 else s := by
  rw [List.getD_eq_getElem?_getD]
  by_cases e : k < l.length
  · rw [if_pos e, List.getElem?_append_left e, ← List.getD_eq_getElem?_getD]
  · have e2 : k = l.length := by omega
    subst e2
    rw [if_neg e, List.getElem?_append_right (Nat.le_refl _), Nat.sub_self]; rfl
theorem crs_stpR (rd : Nat → Nat → Nat) (p k : Nat) : crs (stpR rd p k) = if 0 < rd 3 k then 1 else 0 := by
  unfold stpR
  by_cases h : 0 < rd 3 k
  · rw [if_pos h, if_pos h]; rfl
  · rw [if_neg h, if_neg h]; rfl
theorem tmx_stpR {rd : Nat → Nat → Nat} (p k t : Nat) (h : rd 4 k ≤ 9) : tmx (stpR rd p k) t ≤ t + rd 2 k * p + 9 * (if 0 < rd 3 k then 1 else 0) := by
  unfold stpR
  by_cases e : 0 < rd 3 k
  · rw [if_pos e, if_pos e]
    show t + rd 2 k * p + rd 4 k ≤ _
    omega
  · rw [if_neg e, if_neg e]
    show t + rd 2 k * p ≤ _
    omega
theorem okP_stpR {rd : Nat → Nat → Nat} (p k : Nat) (h3 : rd 3 k ≤ 9) (h : rd 4 k ≤ 9) : okP (stpR rd p k) := by
  intro x hx h1
  unfold stpR at hx
  rcases List.mem_cons.mp hx with e | e
  · subst e; cases h1
  · by_cases e2 : 0 < rd 3 k
    · rw [if_pos e2] at e
      rw [List.mem_singleton.mp e]
      exact ⟨h3, h⟩
    · rw [if_neg e2] at e; cases e
theorem w16_dm (rd : Nat → Nat → Nat) {k x : Nat} (h : x % 16 ≤ 6) : (w16 rd k + x) % 16 = (if 0 < rd 3 k then 1 else 0) + x % 16 ∧ (w16 rd k + x) / 16 = rd 2 k + x / 16 := by
  unfold w16
  split <;> omega
theorem stpW_fact {n r : Nat} {rd C : Nat → Nat → Nat} (hn : n ≤ 7) (hr : okRd n r rd) (h : okW n r rd C) {b : Nat} (hb : b < n) (p : Nat) : ∀ (f a : Nat), rnk C n a b < f → a < n → C a b < 1048576 → crs (stpW rd p (wy r rd C a b)) = C a b % 16 ∧ okP (stpW rd p (wy r rd C a b)) ∧ ∀ t, tmx (stpW rd p (wy r rd C a b)) t ≤ t + C a b / 16 * p + 9 * (C a b % 16) := by
  intro f
  induction f with
  | zero => intro a h; omega
  | succ f ih =>
    intro a hf ha hlt
    by_cases hab : a = b
    · subst hab
      rw [wy_self, h.1 a ha]
      exact ⟨rfl, okP.nil, fun t => by show t ≤ _; omega⟩
    · obtain ⟨h1, h2, h3, h4, h5, h6⟩ := okW.next hr h ha hb hab hlt
      obtain ⟨i1, i2, i3⟩ := ih _ (by omega) h4 h5
      have hk := hr _ h1
      have hd := okW_d6 hn hr h h4 hb h5
      rw [wy_step hn hr h ha hb hab hlt, stpW]
      have hw := w16_dm rd (k := nxS rd C a b r) hd.1
      rw [← h3] at hw
      refine ⟨?_, okP.app (okP_stpR p _ hk.2.2.2.2.2.1 hk.2.2.2.2.2.2) i2, fun t => ?_⟩
      · rw [crs_app, crs_stpR, i1, hw.1]
      · rw [tmx_app]
        have e1 := tmx_stpR p (nxS rd C a b r) t hk.2.2.2.2.2.2
        have e2 := i3 (tmx (stpR rd p (nxS rd C a b r)) t)
        rw [hw.1, hw.2, Nat.add_mul]
        omega
theorem stpW_c {n r : Nat} {rd C : Nat → Nat → Nat} (hn : n ≤ 7) (hr : okRd n r rd) (h : okW n r rd C) {a b : Nat} (ha : a < n) (hb : b < n) (p : Nat) (hlt : C a b < 1048576) : crs (stpW rd p (wy r rd C a b)) = C a b % 16 ∧ okP (stpW rd p (wy r rd C a b)) ∧ ∀ t, p ≤ 4 → tmx (stpW rd p (wy r rd C a b)) t ≤ t + 774 := by
  obtain ⟨h1, h2, h3⟩ := stpW_fact hn hr h hb p (rnk C n a b + 1) a (by omega) ha hlt
  refine ⟨h1, h2, fun t hp => ?_⟩
  have := h3 t
  have hd := okW_d6 hn hr h ha hb hlt
  have : C a b / 16 * p ≤ 180 * 4 := Nat.mul_le_mul hd.2 hp
  omega
theorem stpL_fact {n r s : Nat} {rd C : Nat → Nat → Nat} (hn : n ≤ 7) (hr : okRd n r rd) (h : okW n r rd C) (hs : s < n) {rdy pc : Nat → Nat} (hp4 : ∀ g, pc g ≤ 4) (hr6 : ∀ g, rdy g ≤ 60) : ∀ (og : List Nat) (a p : Nat), (∀ x, x ∈ og → x < n) → a < n → p ≤ 4 → wkL C (og ++ [s]) a = true → crs (stpL r rd C rdy pc s og a p) = crL C (og ++ [s]) a ∧ okP (stpL r rd C rdy pc s og a p) ∧ ∀ t, tmx (stpL r rd C rdy pc s og a p) t ≤ max t 60 + 774 * (og.length + 1)
  | [], a, p, _, ha, hp, hw => by
    have hlt : C a s < 1048576 := by
      simp only [List.nil_append, wkL, Bool.and_true, decide_eq_true_eq] at hw; exact hw
    obtain ⟨h1, h2, h3⟩ := stpW_c hn hr h ha hs p hlt
    refine ⟨h1, h2, fun t => ?_⟩
    have := h3 t hp
    show tmx (stpW rd p (wy r rd C a s)) t ≤ max t 60 + 774 * 1
    omega
  | g :: og, a, p, hm, ha, hp, hw => by
    have hg : g < n := hm g (List.mem_cons_self)
    simp only [List.cons_append, wkL, Bool.and_eq_true, decide_eq_true_eq] at hw
    obtain ⟨h1, h2, h3⟩ := stpW_c hn hr h ha hg p hw.1
    have hpm : max p (pc g) ≤ 4 := by have := hp4 g; omega
    obtain ⟨i1, i2, i3⟩ := stpL_fact hn hr h hs hp4 hr6 og g (max p (pc g)) (fun x hx => hm x (List.mem_cons_of_mem _ hx)) hg hpm hw.2
    rw [stpL]
    refine ⟨?_, okP.app h2 (fun x hx hx1 => ?_), fun t => ?_⟩
    · rw [crs_app, crs, i1, h1, List.cons_append, crL]
      show C a g % 16 + (0 + _) = _
      omega
    · rcases List.mem_cons.mp hx with e | e
      · subst e; cases hx1
      · exact i2 x e hx1
    · rw [tmx_app, tmx]
      have e1 := h3 t hp
      have e2 := i3 (tm1 (2, rdy g, 0) (tmx (stpW rd p (wy r rd C a g)) t))
      have e3 : tm1 (2, rdy g, 0) (tmx (stpW rd p (wy r rd C a g)) t) = max (tmx (stpW rd p (wy r rd C a g)) t) (rdy g) := rfl
      rw [e3] at e2 ⊢
      have e4 := hr6 g
      rw [List.length_cons]
      refine Nat.le_trans e2 ?_
      generalize tmx (stpW rd p (wy r rd C a g)) t = A at e1 ⊢
      generalize og.length = B
      omega
def wkB (C : Nat → Nat → Nat) (s a : Nat) (og : List Nat) : Bool := wkL C (og ++ [s]) a && decide (crL C (og ++ [s]) a ≤ 15)
theorem wkB_t {C : Nat → Nat → Nat} {s a : Nat} {og : List Nat} : wkB C s a og = true ↔ wkL C (og ++ [s]) a = true ∧ crL C (og ++ [s]) a ≤ 15 := by
  unfold wkB; rw [Bool.and_eq_true, decide_eq_true_eq]
theorem crL_le {n r : Nat} {rd C : Nat → Nat → Nat} (hn : n ≤ 7) (hr : okRd n r rd) (h : okW n r rd C) : ∀ (l : List Nat) (a : Nat), (∀ x, x ∈ l → x < n) → a < n → wkL C l a = true → crL C l a ≤ 6 * l.length
  | [], _, _, _, _ => Nat.le_refl _
  | x :: l, a, hm, ha, hw => by
    have hx : x < n := hm x (List.mem_cons_self)
    simp only [wkL, Bool.and_eq_true, decide_eq_true_eq] at hw
    have h1 := okW_d6 hn hr h ha hx hw.1
    have h2 := crL_le hn hr h l x (fun y hy => hm y (List.mem_cons_of_mem _ hy)) hx hw.2
    rw [crL, List.length_cons]; omega
