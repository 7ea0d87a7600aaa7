/-! sums -/
def sN (f : Nat → Nat) : Nat → Nat
  | 0 => 0
  | n + 1 => sN f n + f n
theorem sN_cong {f g : Nat → Nat} : ∀ {n : Nat}, (∀ i, i < n → f i = g i) → sN f n = sN g n
  | 0, _ => rfl
  | n + 1, h => by rw [sN, sN, sN_cong (fun i hi => h i (by omega)), h n (by omega)]
theorem sN_add (f g : Nat → Nat) : ∀ n, sN (fun i => f i + g i) n = sN f n + sN g n
  | 0 => rfl
  | n + 1 => by rw [sN, sN, sN, sN_add f g n]; omega
theorem sN_mul (c : Nat) (f : Nat → Nat) : ∀ n, sN (fun i => c * f i) n = c * sN f n
  | 0 => rfl
  | n + 1 => by rw [sN, sN, sN_mul c f n, Nat.mul_add]
theorem sN_zero {f : Nat → Nat} : ∀ {n : Nat}, (∀ i, i < n → f i = 0) → sN f n = 0
  | 0, _ => rfl
  | n + 1, h => by rw [sN, sN_zero (fun i hi => h i (by omega)), h n (by omega)]
theorem sN_le {f g : Nat → Nat} : ∀ {n : Nat}, (∀ i, i < n → f i ≤ g i) → sN f n ≤ sN g n
  | 0, _ => Nat.le_refl 0
  | n + 1, h => by
    have h1 := sN_le (n := n) (fun i hi => h i (by omega))
    have h2 := h n (by omega)
    rw [sN, sN]; omega
theorem sN_mono (f : Nat → Nat) {a b : Nat} (h : a ≤ b) : sN f a ≤ sN f b := by
  induction h with
  | refl => exact Nat.le_refl _
  | step _ ih => exact Nat.le_trans ih (Nat.le_add_right _ _)
theorem sN_one {f : Nat → Nat} {n i : Nat} (h : i < n) : f i ≤ sN f n := by
  have h1 := sN_mono f (show i + 1 ≤ n by omega)
  rw [sN] at h1; omega
theorem sN_split (f : Nat → Nat) (a : Nat) : ∀ b, sN f (a + b) = sN f a + sN (fun i => f (a + i)) b
  | 0 => rfl
  | b + 1 => by rw [← Nat.add_assoc, sN, sN, sN_split f a b]; omega
theorem sN_fu (g h : Nat → Nat) {j v : Nat} : ∀ {n : Nat}, j < n → sN (fun i => fu g j v i * h i) n + g j * h j = sN (fun i => g i * h i) n + v * h j
  | 0, hj => absurd hj (Nat.not_lt_zero j)
  | n + 1, hj => by
    rw [sN, sN]
    by_cases e : j = n
    · subst e
      have h1 : sN (fun i => fu g j v i * h i) j = sN (fun i => g i * h i) j := sN_cong (fun i hi => by rw [fu_ne g v (by omega)])
      rw [h1, fu_same]; omega
    · have h1 := sN_fu g h (j := j) (v := v) (n := n) (by omega)
      rw [fu_ne g v (show n ≠ j by omega)]; omega
/-! the steps of a walk: 0 pass, 1 cross, 2 wait; what they make of a weight of times -/
abbrev St : Type := Nat × Nat × Nat
def st1 (x : St) (h : Nat → Nat) : Nat → Nat := fun t => if x.1 = 0 then h (t + x.2.1) else if x.1 = 1 then (10 - x.2.1) * h t + x.2.1 * h (t + x.2.2) else h (max t x.2.1)
def ev : List St → (Nat → Nat) → Nat → Nat
  | [], h => h
  | x :: P, h => st1 x (ev P h)
theorem ev_app : ∀ (P S : List St) (h : Nat → Nat), ev (P ++ S) h = ev P (ev S h)
  | [], _, _ => rfl
  | x :: P, S, h => by rw [List.cons_append, ev, ev, ev_app P S h]
theorem ev_snoc (P : List St) (x : St) (h : Nat → Nat) : ev (P ++ [x]) h = ev P (st1 x h) := by rw [ev_app]; rfl
theorem ev_mono {h : Nat → Nat} (hh : ∀ a b, a ≤ b → h a ≤ h b) : ∀ (P : List St) (a b : Nat), a ≤ b → ev P h a ≤ ev P h b
  | [], a, b, hab => hh a b hab
  | x :: P, a, b, hab => by
    have ih := ev_mono hh P
    unfold ev st1
    split
    · exact ih _ _ (by omega)
    · split
      · exact Nat.add_le_add (Nat.mul_le_mul_left _ (ih _ _ hab)) (Nat.mul_le_mul_left _ (ih _ _ (by omega)))
      · exact ih _ _ (by omega)
def tm1 (x : St) (t : Nat) : Nat := if x.1 = 0 then t + x.2.1 else if x.1 = 1 then t + x.2.2 else max t x.2.1
def tmx : List St → Nat → Nat
  | [], t => t
  | x :: P, t => tmx P (tm1 x t)
theorem tmx_app : ∀ (P S : List St) (t : Nat), tmx (P ++ S) t = tmx S (tmx P t)
  | [], _, _ => rfl
  | x :: P, S, t => by rw [List.cons_append, tmx, tmx, tmx_app P S]
theorem tmx_snoc (P : List St) (x : St) (t : Nat) : tmx (P ++ [x]) t = tm1 x (tmx P t) := by rw [tmx_app]; rfl
theorem tm1_mono (x : St) {a b : Nat} (h : a ≤ b) : tm1 x a ≤ tm1 x b := by unfold tm1; repeat' split
                                                                            all_goals omega
theorem tm1_le (x : St) (a : Nat) : a ≤ tm1 x a := by unfold tm1; repeat' split
                                                      all_goals omega
theorem tmx_mono : ∀ (P : List St) {a b : Nat}, a ≤ b → tmx P a ≤ tmx P b
  | [], _, _, h => h
  | x :: P, _, _, h => tmx_mono P (tm1_mono x h)
theorem tmx_le : ∀ (P : List St) (a : Nat), a ≤ tmx P a
  | [], _ => Nat.le_refl _
  | x :: P, a => Nat.le_trans (tm1_le x a) (tmx_le P _)
theorem ev_cong {h g : Nat → Nat} : ∀ (P : List St) (m : Nat), (∀ t, t ≤ tmx P m → h t = g t) → ev P h m = ev P g m
  | [], m, hh => hh m (Nat.le_refl _)
  | x :: P, m, hh => by
    rw [tmx] at hh
    have hh2 : ∀ m', m' ≤ tm1 x m → ev P h m' = ev P g m' := fun m' h' => ev_cong P m' (fun t ht => hh t (Nat.le_trans ht (tmx_mono P h')))
    unfold ev st1
    unfold tm1 at hh2
    by_cases e0 : x.1 = 0
    · rw [if_pos e0] at hh2; rw [if_pos e0, if_pos e0]; exact hh2 _ (Nat.le_refl _)
    · rw [if_neg e0] at hh2; rw [if_neg e0, if_neg e0]
      by_cases e1 : x.1 = 1
      · rw [if_pos e1] at hh2; rw [if_pos e1, if_pos e1, hh2 m (by omega), hh2 _ (Nat.le_refl _)]
      · rw [if_neg e1] at hh2; rw [if_neg e1, if_neg e1]; exact hh2 _ (Nat.le_refl _)
def crs : List St → Nat
  | [] => 0
  | x :: P => (if x.1 = 1 then 1 else 0) + crs P
theorem crs_app : ∀ (P S : List St), crs (P ++ S) = crs P + crs S
  | [], S => by rw [List.nil_append, crs]; omega
  | x :: P, S => by rw [List.cons_append, crs, crs, crs_app P S]; omega
def okP (P : List St) : Prop := ∀ x, x ∈ P → x.1 = 1 → x.2.1 ≤ 9 ∧ x.2.2 ≤ 9
theorem okP.app {P S : List St} (h : okP P) (g : okP S) : okP (P ++ S) := fun x hx => (List.mem_append.mp hx).elim (h x) (g x)
theorem okP.l {P S : List St} (h : okP (P ++ S)) : okP P := fun x hx => h x (List.mem_append_left _ hx)
theorem okP.nil : okP [] := fun x hx => by cases hx
theorem ev_c (c : Nat) : ∀ (P : List St) (_ : okP P) (m : Nat), ev P (fun _ => c) m = 10 ^ crs P * c
  | [], _, m => by show c = 10 ^ 0 * c; omega
  | x :: P, h, m => by
    have ih := ev_c c P (fun y hy => h y (List.mem_cons_of_mem _ hy))
    unfold ev st1
    rw [crs]
    by_cases e1 : x.1 = 1
    · have h9 := h x (List.mem_cons_self ..) e1
      rw [if_neg (by omega), if_pos e1, ih, ih, if_pos e1, Nat.pow_add, Nat.pow_one, ← Nat.add_mul, show 10 - x.2.1 + x.2.1 = 10 by omega, Nat.mul_assoc]
    · rw [if_neg e1, if_neg e1, Nat.zero_add]
      split
      · exact ih _
      · exact ih _
theorem ev_le {h : Nat → Nat} {c : Nat} : ∀ (P : List St) (_ : okP P) (m : Nat), (∀ t, t ≤ tmx P m → h t ≤ c) → ev P h m ≤ 10 ^ crs P * c := by
  intro P hP m hh
  have h1 : ev P h m = ev P (fun t => min (h t) c) m := ev_cong P m (fun t ht => by have := hh t ht; omega)
  rw [h1, ← ev_c c P hP m]
  clear h1 hh
  revert m
  induction P with
  | nil => intro m; show min (h m) c ≤ c; omega
  | cons x P ih =>
    intro m
    have ih := ih (fun y hy => hP y (List.mem_cons_of_mem _ hy))
    unfold ev st1
    split
    · exact ih _
    · split
      · exact Nat.add_le_add (Nat.mul_le_mul_left _ (ih _)) (Nat.mul_le_mul_left _ (ih _))
      · exact ih _
