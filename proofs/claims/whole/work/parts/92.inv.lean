/-! both sides at one: the values that the two share, and what each keeps of them -/
def OkV (so ct : Nat → Nat) (n r s : Nat) (rd C0 : Nat → Nat → Nat) (c : Nat) (ki co ag re : Nat → Nat) (T : Nat → Nat → Nat) (h hc : Nat) (hd : Nat → Nat) : Prop := okSh so ct ∧ okTw n r s rd ∧ okW n r rd C0 ∧ okKd n c ki co ag re T ∧ okMi h hc hd
def ClV (th : Nat → Bool) (so ct : Nat → Nat) (ce : Nat → Nat → Int32) (n r s : Nat) (rd C0 : Nat → Nat → Nat) (c : Nat) (ki co ag re : Nat → Nat) (T : Nat → Nat → Nat) (h hc : Nat) (hd : Nat → Nat) (t : Nat) (I : KI) (J : KJ) : Prop := Tw t ∧ cSh I th so ct ce ∧ cTw t I n r s rd ∧ cWy t I n r rd C0 ∧ cKd I c ki co ag re T ∧ cMi I h hc hd ∧ cZs I J
def MoV (th : Nat → Bool) (so ct : Nat → Nat) (ce : Nat → Nat → Int32) (n r s : Nat) (rd C0 : Nat → Nat → Nat) (c : Nat) (ki co ag re : Nat → Nat) (T : Nat → Nat → Nat) (h hc : Nat) (hd : Nat → Nat) (I : KI) : Prop := mSh I th so ct ce ∧ mTw I n r s rd ∧ mWy I n C0 ∧ mKd I c ki co ag re T ∧ mMi I h hc hd
def Inv (t : Nat) (I : KI) (J : KJ) : Prop := ∃ (th : Nat → Bool) (so ct : Nat → Nat) (ce : Nat → Nat → Int32) (n r s : Nat) (rd C0 : Nat → Nat → Nat) (c : Nat) (ki co ag re : Nat → Nat) (T : Nat → Nat → Nat) (h hc : Nat) (hd : Nat → Nat), OkV so ct n r s rd C0 c ki co ag re T h hc hd ∧ ClV th so ct ce n r s rd C0 c ki co ag re T h hc hd t I J ∧ MoV th so ct ce n r s rd C0 c ki co ag re T h hc hd I ∧ I 0 12 = I 85 1 ∧ I 0 13 = I 85 0
section INVS
variable {th : Nat → Bool} {so ct : Nat → Nat} {ce : Nat → Nat → Int32} {n r s : Nat} {rd C0 : Nat → Nat → Nat} {c : Nat} {ki co ag re : Nat → Nat} {T : Nat → Nat → Nat} {h hc : Nat} {hd : Nat → Nat} {t : Nat} {I I' : KI} {J J' : KJ}
theorem ClV.fr (k : ClV th so ct ce n r s rd C0 c ki co ag re T h hc hd t I J) (o : OkV so ct n r s rd C0 c ki co ag re T h hc hd) (a1 : ∀ q, q < 85 → q ≠ 0 → ¬ (50 ≤ q ∧ q ≤ 61) → ¬ (63 ≤ q ∧ q ≤ 66) → I' q = I q) (a5 : I' 0 5 = I 0 5) (a8 : I' 0 8 = I 0 8) (a10 : I' 0 10 = I 0 10) (z : cZs I' J') : ClV th so ct ce n r s rd C0 c ki co ag re T h hc hd t I' J' := by
  obtain ⟨o1, o2, o3, o4, o5⟩ := o
  obtain ⟨k0, k1, k2, k3, k4, k5, -⟩ := k
  have ht : t + 21 < 50 ∧ 4 ≤ t := by unfold Tw at k0; omega
  exact ⟨k0, k1.fr (fun p _ _ => a1 p (by omega) (by omega) (by omega) (by omega)), k2.fr (fun p _ _ => a1 p (by omega) (by omega) (by omega) (by omega)), k3.fr o2.1 (fun p _ _ => a1 p (by omega) (by omega) (by omega) (by omega)), k4.fr o4.1 a5 (fun p _ _ => a1 p (by omega) (by omega) (by omega) (by omega)), k5.fr a8 a10 (a1 62 (by omega) (by omega) (by omega) (by omega)), z⟩
theorem MoV.fr (m : MoV th so ct ce n r s rd C0 c ki co ag re T h hc hd I) (b1 : ∀ q, 86 ≤ q → q ≠ 95 → ¬ (102 ≤ q ∧ q ≤ 106) → ¬ (108 ≤ q ∧ q ≤ 109) → I' q = I q) (b2 : ∀ j, j = 5 ∨ j = 6 ∨ j = 7 ∨ j = 19 ∨ j = 32 ∨ j = 37 → I' 85 j = I 85 j) : MoV th so ct ce n r s rd C0 c ki co ag re T h hc hd I' := by
  obtain ⟨m1, m2, m3, m4, m5⟩ := m
  exact ⟨m1.fr (fun p _ _ => b1 p (by omega) (by omega) (by omega) (by omega)), m2.fr (b2 5 (by omega)) (b2 6 (by omega)) (b2 7 (by omega)) (fun p _ _ => b1 p (by omega) (by omega) (by omega) (by omega)), m3.fr (b1 94 (by omega) (by omega) (by omega) (by omega)), m4.fr (b2 19 (by omega)) (fun p _ _ => b1 p (by omega) (by omega) (by omega) (by omega)), m5.fr (b2 32 (by omega)) (b2 37 (by omega)) (b1 107 (by omega) (by omega) (by omega) (by omega))⟩
/-- a call on each side that leaves what they keep as it was -/
theorem Inv.sc {I2 : KI} {J2 : KJ} (o : OkV so ct n r s rd C0 c ki co ag re T h hc hd) (k : ClV th so ct ce n r s rd C0 c ki co ag re T h hc hd t I J) (m : MoV th so ct ce n r s rd C0 c ki co ag re T h hc hd I) (e : I 0 12 = I 85 1) (a1 : ∀ q, q ≠ 0 → ¬ (50 ≤ q ∧ q ≤ 61) → ¬ (63 ≤ q ∧ q ≤ 66) → I' q = I q) (a2 : ∀ j, j ≠ 13 → j ≠ 14 → j ≠ 15 → j ≠ 16 → I' 0 j = I 0 j) (z : cZs I' J') (b1 : ∀ q, q ≠ 85 → q ≠ 95 → ¬ (102 ≤ q ∧ q ≤ 106) → ¬ (108 ≤ q ∧ q ≤ 109) → I2 q = I' q) (b2 : ∀ j, j ≠ 0 → ¬ (14 ≤ j ∧ j ≤ 18) → ¬ (27 ≤ j ∧ j ≤ 29) → j ≠ 35 → j ≠ 41 → I2 85 j = I' 85 j) (bj : ∀ q, q ≠ 85 → q ≠ 101 → J2 q = J' q) (e2 : I2 0 13 = I2 85 0) : Inv t I2 J2 := by
  have hz2 : I2 0 = I' 0 := b1 0 (by omega) (by omega) (by omega) (by omega)
  have hz85 : I' 85 = I 85 := a1 85 (by omega) (by omega) (by omega)
  refine ⟨th, so, ct, ce, n, r, s, rd, C0, c, ki, co, ag, re, T, h, hc, hd, o, k.fr o (fun q q1 q2 q3 q4 => ?_) ?_ ?_ ?_ (z.fr (b1 54 (by omega) (by omega) (by omega) (by omega)) (bj 55 (by omega) (by omega))), m.fr (fun q q1 q2 q3 q4 => ?_) (fun j hj => ?_), ?_, e2⟩
  · exact (b1 q (by omega) (by omega) (by omega) (by omega)).trans (a1 q (by omega) (by omega) (by omega))
  · rw [hz2]; exact a2 5 (by omega) (by omega) (by omega) (by omega)
  · rw [hz2]; exact a2 8 (by omega) (by omega) (by omega) (by omega)
  · rw [hz2]; exact a2 10 (by omega) (by omega) (by omega) (by omega)
  · exact (b1 q (by omega) (by omega) (by omega) (by omega)).trans (a1 q (by omega) (by omega) (by omega))
  · rw [b2 j (by omega) (by omega) (by omega) (by omega) (by omega), hz85]
  · rw [hz2, a2 12 (by omega) (by omega) (by omega) (by omega), e, b2 1 (by omega) (by omega) (by omega) (by omega) (by omega), hz85]
/-- a call on each side that changes what they keep: the changed parts and the rest -/
theorem Inv.ch {I2 : KI} {J2 : KJ} {t' : Nat} (o : OkV so ct n r s rd C0 c ki co ag re T h hc hd) (k : ClV th so ct ce n r s rd C0 c ki co ag re T h hc hd t' I' J') (m : MoV th so ct ce n r s rd C0 c ki co ag re T h hc hd I2) (e : I2 0 12 = I2 85 1) (b1 : ∀ q, q < 85 → I2 q = I' q) (bj : J2 55 = J' 55) (e2 : I2 0 13 = I2 85 0) : Inv t' I2 J2 := by
  have z := k.2.2.2.2.2.2
  refine ⟨th, so, ct, ce, n, r, s, rd, C0, c, ki, co, ag, re, T, h, hc, hd, o, k.fr o (fun q q1 _ _ _ => b1 q q1) (by rw [b1 0 (by omega)]) (by rw [b1 0 (by omega)]) (by rw [b1 0 (by omega)]) (z.fr (b1 54 (by omega)) bj), m, e, e2⟩
end INVS
theorem strA_r {th : Nat → Bool} {so ct : Nat → Nat} {cd : Nat → Int32} {kv sv iv nv : Int32} {q : Nat × Nat × Nat × (Nat → Nat → Nat)} (h : strA th so ct cd kv sv iv nv = .inr q) : okTw q.1 q.2.1 q.2.2.1 q.2.2.2 := by
  unfold strA at h
  split at h
  · cases h
  · split at h
    · cases h
    · split at h
      · cases h
      · split at h
        · cases h
        · rename_i q2 e; cases h; exact (txP_ok e).1
theorem cKd_0 {I : KI} {ki co ag re : Nat → Nat} {T : Nat → Nat → Nat} (h : I 0 5 = 0) : cKd I 0 ki co ag re T := ⟨h, fun _ hx => absurd hx (Nat.not_lt_zero _)⟩
theorem mKd_0 {I : KI} {ki co ag re : Nat → Nat} {T : Nat → Nat → Nat} (h : I 85 19 = 0) : mKd I 0 ki co ag re T := ⟨h, fun _ hx => absurd hx (Nat.not_lt_zero _), fun _ _ hx => absurd hx (Nat.not_lt_zero _)⟩
theorem okKd_0 {n : Nat} {ki co ag re : Nat → Nat} {T : Nat → Nat → Nat} : okKd n 0 ki co ag re T := ⟨by omega, fun _ hx => absurd hx (Nat.not_lt_zero _), fun _ _ hx => absurd hx (Nat.not_lt_zero _)⟩
