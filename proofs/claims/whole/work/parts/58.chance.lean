/-! the reference's minutes: a cell for each minute, the last for all behind it -/
def mCh (J : KJ) (N : Nat) (P : List St) (m : Nat) : Prop := ∃ g : Nat → Nat, cA J 101 (N + 1) g ∧ ∀ h : Nat → Nat, sN (fun i => g i * h i) (N + 1) = ev P (fun t => h (min t N)) m
theorem mCh.fr {J J' : KJ} {N : Nat} {P : List St} {m : Nat} (h : mCh J N P m) (hf : J' 101 = J 101) : mCh J' N P m := by
  obtain ⟨g, h1, h2⟩ := h
  exact ⟨g, fun i hi => by rw [hf]; exact h1 i hi, h2⟩
theorem chS {N d D x y : Nat} {g f u v h : Nat → Nat} (hd : d < N) (hD : D < N) (hg : g d = f d) (inv : sN (fun i => g i * h i) N = sN (fun i => f i * u i) N) (hu : ∀ i, i ≠ d → u i = v i) (hd1 : u d = h d) (hv : f d * v d = x * h d + y * h D) : sN (fun i => fu (fu g d x) D (fu g d x D + y) i * h i) N = sN (fun i => f i * v i) N := by
  have h1 := stepG (N := N) (d := d) (D := D) (x := x) (y := y) (g := g) (h := h) hd hD
  have h2 : sN (fun i => f i * v i) N + f d * u d = sN (fun i => f i * u i) N + f d * v d := sN_dif (u := fun i => f i * v i) (v := fun i => f i * u i) (d := d) (n := N) hd (fun i hi => by show f i * v i = f i * u i; rw [hu i hi])
  rw [hd1] at h2
  rw [hg] at h1
  omega
theorem fu_comm {g : Nat → Nat} {d D x y : Nat} (h : d ≠ D) : fu (fu g d x) D y = fu (fu g D y) d x := by
  funext i
  unfold fu
  by_cases e1 : i = D
  · subst e1; rw [if_pos rfl, if_neg (fun e => h e.symm), if_pos rfl]
  · rw [if_neg e1, if_neg e1]
def hmM (b N T : Nat) (h : Nat → Nat) (i : Nat) : Nat := if T ≤ i then h (min (i + b) N) else h i
theorem hmM_step {N d b : Nat} {g f h : Nat → Nat} (hd : d < N) (hg : g d = f d) (inv : sN (fun i => g i * h i) (N + 1) = sN (fun i => f i * hmM b N (d + 1) h i) (N + 1)) : sN (fun i => fu (fu g d 0) (min (d + b) N) (fu g d 0 (min (d + b) N) + g d) i * h i) (N + 1) = sN (fun i => f i * hmM b N d h i) (N + 1) := by
  refine chS (by omega) (by omega) hg inv (fun i hi => ?_) ?_ ?_
  · unfold hmM
    by_cases e : d ≤ i
    · rw [if_pos e, if_pos (by omega)]
    · rw [if_neg e, if_neg (by omega)]
  · unfold hmM; rw [if_neg (by omega)]
  · unfold hmM; rw [if_pos (Nat.le_refl _), hg]; omega
def hmX (o b N T : Nat) (h : Nat → Nat) (i : Nat) : Nat := if i = N then 10 * h N else if T ≤ i ∧ i < N then (10 - o) * h i + o * h (min (i + b) N) else h i
theorem hmX_step {N d o b : Nat} {g f h : Nat → Nat} (hd : d < N) (hg : g d = f d) (inv : sN (fun i => g i * h i) (N + 1) = sN (fun i => f i * hmX o b N (d + 1) h i) (N + 1)) : sN (fun i => fu (fu g d (g d * (10 - o))) (min (d + b) N) (fu g d (g d * (10 - o)) (min (d + b) N) + g d * o) i * h i) (N + 1) = sN (fun i => f i * hmX o b N d h i) (N + 1) := by
  refine chS (by omega) (by omega) hg inv (fun i hi => ?_) ?_ ?_
  · unfold hmX
    by_cases e0 : i = N
    · rw [if_pos e0, if_pos e0]
    · rw [if_neg e0, if_neg e0]
      by_cases e : d ≤ i ∧ i < N
      · rw [if_pos e, if_pos (by omega)]
      · rw [if_neg e, if_neg (by omega)]
  · unfold hmX; rw [if_neg (by omega), if_neg (by omega)]
  · unfold hmX; rw [if_neg (by omega), if_pos ⟨Nat.le_refl _, hd⟩, hg, Nat.mul_add, ← Nat.mul_assoc, ← Nat.mul_assoc]
theorem hmX_start {N o b : Nat} {f : Nat → Nat} (h : Nat → Nat) : sN (fun i => fu f N (f N * 10) i * h i) (N + 1) = sN (fun i => f i * hmX o b N N h i) (N + 1) := by
  refine sN_cong (fun i hi => ?_)
  show fu f N (f N * 10) i * h i = f i * hmX o b N N h i
  unfold hmX fu
  by_cases e : i = N
  · subst e; rw [if_pos rfl, if_pos rfl, Nat.mul_assoc]
  · rw [if_neg e, if_neg e, if_neg (by omega)]
def hmW (to T : Nat) (h : Nat → Nat) (i : Nat) : Nat := if i < T then h to else h i
theorem hmW_step {N d to : Nat} {g f h : Nat → Nat} (hto : to ≤ N) (hd : d < to) (hg : g d = f d) (inv : sN (fun i => g i * h i) (N + 1) = sN (fun i => f i * hmW to d h i) (N + 1)) : sN (fun i => fu (fu g to (g to + g d)) d 0 i * h i) (N + 1) = sN (fun i => f i * hmW to (d + 1) h i) (N + 1) := by
  rw [← fu_comm (show d ≠ to by omega)]
  have h1 := chS (N := N + 1) (d := d) (D := to) (x := 0) (y := g d) (g := g) (f := f) (u := hmW to d h) (v := hmW to (d + 1) h) (h := h) (by omega) (by omega) hg inv (fun i hi => ?_) ?_ ?_
  · rw [fu_ne g 0 (show to ≠ d by omega)] at h1
    exact h1
  · unfold hmW
    by_cases e : i < d
    · rw [if_pos e, if_pos (by omega)]
    · rw [if_neg e, if_neg (by omega)]
  · unfold hmW; rw [if_neg (by omega)]
  · unfold hmW; rw [if_pos (by omega), hg]; omega
theorem mCh_move {J' : KJ} {N m b : Nat} {P : List St} {f g : Nat → Nat} (hf : ∀ h : Nat → Nat, sN (fun i => f i * h i) (N + 1) = ev P (fun t => h (min t N)) m) (hg : cA J' 101 (N + 1) g) (hF : ∀ h : Nat → Nat, sN (fun i => g i * h i) (N + 1) = sN (fun i => f i * hmM b N 0 h i) (N + 1)) : mCh J' N (P ++ [(0, b, 0)]) m := by
  refine ⟨g, hg, fun h => ?_⟩
  rw [hF, ev_snoc, show (fun i => f i * hmM b N 0 h i) = (fun i => f i * (fun i => h (min (i + b) N)) i) from funext (fun i => by unfold hmM; rw [if_pos (Nat.zero_le _)]), hf]
  congr 1
  funext t
  show h (min (min t N + b) N) = h (min (t + b) N)
  congr 1
  omega
theorem mCh_cross {J' : KJ} {N m o b : Nat} {P : List St} {f g : Nat → Nat} (ho : o ≤ 10) (hf : ∀ h : Nat → Nat, sN (fun i => f i * h i) (N + 1) = ev P (fun t => h (min t N)) m) (hg : cA J' 101 (N + 1) g) (hF : ∀ h : Nat → Nat, sN (fun i => g i * h i) (N + 1) = sN (fun i => f i * hmX o b N 0 h i) (N + 1)) : mCh J' N (P ++ [(1, o, b)]) m := by
  refine ⟨g, hg, fun h => ?_⟩
  have e1 : sN (fun i => f i * hmX o b N 0 h i) (N + 1) = sN (fun i => f i * (fun i => (10 - o) * h i + o * h (min (i + b) N)) i) (N + 1) := sN_cong (fun i hi => by
    show f i * hmX o b N 0 h i = f i * ((10 - o) * h i + o * h (min (i + b) N))
    unfold hmX
    by_cases e : i = N
    · subst e
      rw [if_pos rfl, show min (i + b) i = i by omega, ← Nat.add_mul, show 10 - o + o = 10 by omega]
    · rw [if_neg e, if_pos (by omega)])
  rw [hF, e1, ev_snoc, hf]
  congr 1
  funext t
  show (10 - o) * h (min t N) + o * h (min (min t N + b) N) = (10 - o) * h (min t N) + o * h (min (t + b) N)
  rw [show min (min t N + b) N = min (t + b) N by omega]
theorem mCh_wait {J' : KJ} {N m mn : Nat} {P : List St} {f g : Nat → Nat} (hf : ∀ h : Nat → Nat, sN (fun i => f i * h i) (N + 1) = ev P (fun t => h (min t N)) m) (hg : cA J' 101 (N + 1) g) (hF : ∀ h : Nat → Nat, sN (fun i => g i * h i) (N + 1) = sN (fun i => f i * hmW (min mn N) (min mn N) h i) (N + 1)) : mCh J' N (P ++ [(2, mn, 0)]) m := by
  refine ⟨g, hg, fun h => ?_⟩
  have e1 : sN (fun i => f i * hmW (min mn N) (min mn N) h i) (N + 1) = sN (fun i => f i * (fun i => h (min (max i mn) N)) i) (N + 1) := sN_cong (fun i hi => by
    show f i * hmW (min mn N) (min mn N) h i = f i * h (min (max i mn) N)
    unfold hmW
    by_cases e : i < min mn N
    · rw [if_pos e, show min (max i mn) N = min mn N by omega]
    · rw [if_neg e, show min (max i mn) N = i by omega])
  rw [hF, e1, ev_snoc, hf]
  congr 1
  funext t
  show h (min (max (min t N) mn) N) = h (min (max t mn) N)
  rw [show min (max (min t N) mn) N = min (max t mn) N by omega]
theorem mCh_nil {J : KJ} {N m : Nat} (h : ∀ i, i ≤ N → J 101 i = lN (if i = min m N then 1 else 0)) : mCh J N [] m := by
  refine ⟨fun i => if i = min m N then 1 else 0, fun i hi => h i (by omega), fun h => ?_⟩
  have h2 := sN_dif (u := fun i => (if i = min m N then 1 else 0) * h i) (v := fun _ => 0) (d := min m N) (n := N + 1) (by omega) (fun i hi => by show (if i = min m N then 1 else 0) * h i = 0; rw [if_neg hi, Nat.zero_mul])
  have h3 : sN (fun _ => 0) (N + 1) = 0 := sN_zero (fun _ _ => rfl)
  simp only [↓reduceIte, Nat.one_mul] at h2
  show sN (fun i => (if i = min m N then 1 else 0) * h i) (N + 1) = h (min m N)
  omega
theorem mCh_last {J : KJ} {bell m : Nat} {P : List St} (h : mCh J (bell + 1) P m) : J 101 (bell + 1) = lN (ev P (ltS bell) m) := by
  obtain ⟨g, h1, h2⟩ := h
  have h3 : sN (fun i => g i * (if i = bell + 1 then 1 else 0)) (bell + 1 + 1) = ev P (fun t => if min t (bell + 1) = bell + 1 then 1 else 0) m := h2 (fun i => if i = bell + 1 then 1 else 0)
  have h4 := sN_dif (u := fun i => g i * (if i = bell + 1 then 1 else 0)) (v := fun _ => 0) (d := bell + 1) (n := bell + 1 + 1) (by omega) (fun i hi => by show g i * (if i = bell + 1 then 1 else 0) = 0; rw [if_neg hi, Nat.mul_zero])
  have h5 : sN (fun _ => 0) (bell + 1 + 1) = 0 := sN_zero (fun _ _ => rfl)
  simp only [↓reduceIte, Nat.mul_one] at h4
  rw [h1 _ (by omega)]
  congr 1
  have h6 : ev P (fun t => if min t (bell + 1) = bell + 1 then 1 else 0) m = ev P (ltS bell) m := by
    congr 1
    funext t
    unfold ltS
    by_cases e : bell < t
    · rw [if_pos e, if_pos (by omega)]
    · rw [if_neg e, if_neg (by omega)]
  omega
theorem mCh_sum {J : KJ} {N m : Nat} {P : List St} (h : mCh J N P m) (ht : tmx P m ≤ N) : ∃ g : Nat → Nat, cA J 101 (N + 1) g ∧ sN (fun i => g i * i) (N + 1) = ev P (fun t => t) m := by
  obtain ⟨g, h1, h2⟩ := h
  refine ⟨g, h1, ?_⟩
  rw [h2 (fun i => i)]
  exact ev_cong P m (fun t ht2 => by show min t N = t; omega)
/-! the reference's gates -/
def mGt (I : KI) (og : List Nat) : Prop := I 85 27 = nI og.length ∧ ordA I 102 og
theorem mGt.fr {I I' : KI} {og : List Nat} (h : mGt I og) (h1 : I' 85 27 = I 85 27) (h2 : I' 102 = I 102) : mGt I' og := ⟨h1.trans h.1, h.2.fr h2⟩
