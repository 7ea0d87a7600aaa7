/-! the class's minutes -/
def cA (J : KJ) (p N : Nat) (g : Nat → Nat) : Prop := ∀ i, i < N → J p i = lN (g i)
theorem cA.up {J : KJ} {p N : Nat} {g : Nat → Nat} (h : cA J p N g) (j v : Nat) : cA (upJ J p j (lN v)) p N (fu g j v) := by
  intro i hi
  by_cases e : i = j
  · subst e; rw [upJ_same, fu_same]
  · rw [upJ_k _ _ e, fu_ne _ _ e]; exact h i hi
theorem cA.cg {J : KJ} {p N : Nat} {g f : Nat → Nat} (h : cA J p N g) (he : ∀ i, i < N → g i = f i) : cA J p N f := fun i hi => by rw [h i hi, he i hi]
theorem stepG {N d D x y : Nat} {g h : Nat → Nat} (hd : d < N) (hD : D < N) : sN (fun i => fu (fu g d x) D (fu g d x D + y) i * h i) N + g d * h d = sN (fun i => g i * h i) N + x * h d + y * h D := by
  have h1 := sN_fu (fu g d x) h (j := D) (v := fu g d x D + y) hD
  have h2 := sN_fu g h (j := d) (v := x) hd
  rw [Nat.add_mul] at h1
  omega
theorem sN_dif {u v : Nat → Nat} {d : Nat} : ∀ {n : Nat}, d < n → (∀ i, i ≠ d → u i = v i) → sN u n + v d = sN v n + u d
  | 0, h, _ => absurd h (Nat.not_lt_zero d)
  | n + 1, h, he => by
    rw [sN, sN]
    by_cases e : d = n
    · subst e
      rw [sN_cong (fun i hi => he i (by omega))]; omega
    · have h1 := sN_dif (n := n) (by omega) he
      rw [he n (by omega)]; omega
def cMn (I : KI) (J : KJ) (P : List St) (m : Nat) : Prop := ∃ (f : Nat → Nat) (e s : Nat), I 54 1 = nI e ∧ I 54 2 = nI s ∧ J 54 3 = lN (10 ^ crs P) ∧ cA J 55 136 f ∧ (∀ d, s < d → d < 136 → f d = 0) ∧ s ≤ 9 * crs P ∧ e + s ≤ tmx P m ∧ ∀ h : Nat → Nat, sN (fun d => f d * h (e + d)) 136 = ev P h m
def cZs (I : KI) (J : KJ) : Prop := ∃ s : Nat, I 54 2 = nI s ∧ s ≤ 135 ∧ ∀ d, s < d → d < 136 → J 55 d = 0
theorem cMn.z {I : KI} {J : KJ} {P : List St} {m : Nat} (h : cMn I J P m) (hc : crs P ≤ 15) : cZs I J := by
  obtain ⟨f, e, s, h1, h2, h3, h4, h5, h6, h7, h8⟩ := h
  exact ⟨s, h2, by omega, fun d hd hd2 => by rw [h4 d hd2, h5 d hd hd2]; rfl⟩
theorem cMn.fr {I I' : KI} {J J' : KJ} {P : List St} {m : Nat} (h : cMn I J P m) (hI : I' 54 = I 54) (h1 : J' 54 = J 54) (h2 : J' 55 = J 55) : cMn I' J' P m := by
  unfold cMn cA at *; rw [hI, h1, h2]; exact h
theorem cZs.fr {I I' : KI} {J J' : KJ} (h : cZs I J) (hI : I' 54 = I 54) (h2 : J' 55 = J 55) : cZs I' J' := by
  unfold cZs at *; rw [hI, h2]; exact h
theorem tot_le {f : Nat → Nat} {P : List St} {e m : Nat} (hP : okP P) (h8 : ∀ h : Nat → Nat, sN (fun d => f d * h (e + d)) 136 = ev P h m) : sN f 136 = 10 ^ crs P := by
  have h1 := h8 (fun _ => 1)
  rw [ev_c 1 P hP m, Nat.mul_one] at h1
  rw [← h1]
  exact sN_cong (fun i _ => by rw [Nat.mul_one])
theorem p10_le {k : Nat} (h : k ≤ 15) : 10 ^ k ≤ 1000000000000000 := by
  have := Nat.pow_le_pow_right (show 0 < 10 by decide) h
  exact this
theorem crs_snoc (P : List St) (x : St) : crs (P ++ [x]) = crs P + (if x.1 = 1 then 1 else 0) := by rw [crs_app]; rfl
/-- crossing, downwards -/
def hcC (o b T : Nat) (h : Nat → Nat) (i : Nat) : Nat := if T ≤ i then (10 - o) * h i + o * h (i + b) else h i
theorem hcC_step {f g h : Nat → Nat} {d o b : Nat} (hgd : g d = f d) (hd : d + b < 136) (ho : o ≤ 9)
    (inv : sN (fun i => g i * h i) 136 = sN (fun i => f i * hcC o b (d + 1) h i) 136) :
    sN (fun i => fu (fu g d (g d * (10 - o))) (d + b) (fu g d (g d * (10 - o)) (d + b) + g d * o) i * h i) 136 = sN (fun i => f i * hcC o b d h i) 136 := by
  have h1 := stepG (N := 136) (d := d) (D := d + b) (x := g d * (10 - o)) (y := g d * o) (g := g) (h := h) (by omega) hd
  have h2 := sN_dif (u := fun i => f i * hcC o b d h i) (v := fun i => f i * hcC o b (d + 1) h i) (d := d) (n := 136) (by omega) (fun i hi => by
    show f i * hcC o b d h i = f i * hcC o b (d + 1) h i
    unfold hcC
    by_cases e : d ≤ i
    · rw [if_pos e, if_pos (by omega)]
    · rw [if_neg e, if_neg (by omega)])
  have e1 : hcC o b d h d = (10 - o) * h d + o * h (d + b) := by unfold hcC; rw [if_pos (Nat.le_refl _)]
  have e2 : hcC o b (d + 1) h d = h d := by unfold hcC; rw [if_neg (by omega)]
  rw [e1, e2, Nat.mul_add, ← Nat.mul_assoc, ← Nat.mul_assoc] at h2
  rw [hgd] at h1 ⊢
  omega
/-- waiting -/
def wtF (f : Nat → Nat) (gap s : Nat) : Nat → Nat := fun i => if i = 0 then sN f (min s gap + 1) else if i + gap ≤ s then f (i + gap) else 0
theorem wtF_ev {f h : Nat → Nat} {e gap s : Nat} (hs : s ≤ 135) (hz : ∀ d, s < d → d < 136 → f d = 0) : sN (fun i => wtF f gap s i * h (e + gap + i)) 136 = sN (fun i => f i * h (max (e + i) (e + gap))) 136 := by
  have hL := sN_split (fun i => wtF f gap s i * h (e + gap + i)) 1 135
  rw [hL]
  have h0 : sN (fun i => wtF f gap s i * h (e + gap + i)) 1 = sN f (min s gap + 1) * h (e + gap) := by
    show 0 + wtF f gap s 0 * h (e + gap) = _; rw [Nat.zero_add]; unfold wtF; rw [if_pos rfl]
  rw [h0]
  by_cases hg : gap ≤ s
  · have hR := sN_split (fun i => f i * h (max (e + i) (e + gap))) (gap + 1) (135 - gap)
    rw [show gap + 1 + (135 - gap) = 136 by omega] at hR
    rw [hR, Nat.min_eq_right hg]
    have a1 : sN (fun i => f i * h (max (e + i) (e + gap))) (gap + 1) = sN f (gap + 1) * h (e + gap) := by
      rw [Nat.mul_comm, ← sN_mul]
      exact sN_cong (fun i hi => by rw [Nat.max_eq_right (by omega), Nat.mul_comm])
    have hL2 := sN_split (fun i => wtF f gap s (1 + i) * h (e + gap + (1 + i))) (135 - gap) gap
    rw [show 135 - gap + gap = 135 by omega] at hL2
    rw [hL2, a1]
    have a2 : sN (fun i => wtF f gap s (1 + (135 - gap + i)) * h (e + gap + (1 + (135 - gap + i)))) gap = 0 := sN_zero (fun i hi => by
      show wtF f gap s (1 + (135 - gap + i)) * _ = 0
      unfold wtF; rw [if_neg (by omega), if_neg (by omega), Nat.zero_mul])
    rw [a2]
    have a3 : sN (fun i => wtF f gap s (1 + i) * h (e + gap + (1 + i))) (135 - gap) = sN (fun i => f (gap + 1 + i) * h (max (e + (gap + 1 + i)) (e + gap))) (135 - gap) := sN_cong (fun i hi => by
      show wtF f gap s (1 + i) * h (e + gap + (1 + i)) = f (gap + 1 + i) * h (max (e + (gap + 1 + i)) (e + gap))
      rw [Nat.max_eq_left (by omega), show e + (gap + 1 + i) = e + gap + (1 + i) by omega]
      unfold wtF
      rw [if_neg (by omega), show 1 + i + gap = gap + 1 + i by omega]
      by_cases h1 : gap + 1 + i ≤ s
      · rw [if_pos h1]
      · rw [if_neg h1, hz (gap + 1 + i) (by omega) (by omega)])
    rw [a3]; rfl
  · rw [Nat.min_eq_left (by omega)]
    have a2 : sN (fun i => wtF f gap s (1 + i) * h (e + gap + (1 + i))) 135 = 0 := sN_zero (fun i hi => by
      show wtF f gap s (1 + i) * _ = 0
      unfold wtF; rw [if_neg (by omega), if_neg (by omega), Nat.zero_mul])
    have a1 : sN (fun i => f i * h (max (e + i) (e + gap))) 136 = sN f 136 * h (e + gap) := by
      rw [Nat.mul_comm, ← sN_mul]
      exact sN_cong (fun i hi => by
        show f i * _ = h (e + gap) * f i
        by_cases hi2 : i ≤ s
        · rw [Nat.max_eq_right (by omega), Nat.mul_comm]
        · rw [hz i (by omega) hi, Nat.zero_mul, Nat.mul_zero])
    have a4 : sN f 136 = sN f (s + 1) := by
      have h1 := sN_split f (s + 1) (135 - s)
      rw [show s + 1 + (135 - s) = 136 by omega] at h1
      rw [h1, sN_zero (fun i hi => hz (s + 1 + i) (by omega) (by omega))]; rfl
    rw [a2, a1, a4]; rfl
theorem wtF_le {f : Nat → Nat} {gap s i : Nat} (hs : s ≤ 135) : wtF f gap s i ≤ sN f 136 := by
  unfold wtF
  split
  · exact sN_mono f (by omega)
  · split
    · exact sN_one (by omega)
    · exact Nat.zero_le _
/-- half-way: the first T are the waited ones -/
def wtH (f : Nat → Nat) (gap s T : Nat) : Nat → Nat := fun i => if i < T then wtF f gap s i else f i
