/-! the state of the two sides, component by component: c.. of the class, m.. of the reference -/
def cSh (I : KI) (th : Nat → Bool) (so ct : Nat → Nat) (ce : Nat → Nat → Int32) : Prop := ∀ k, k < 4 → I (67 + 2 * k) 0 = b2i (th k) ∧ I (67 + 2 * k) 1 = nI (so k) ∧ I (67 + 2 * k) 2 = nI (ct k) ∧ ∀ i, i < 100 → I (68 + 2 * k) i = ce k i
def mSh (I : KI) (th : Nat → Bool) (so ct : Nat → Nat) (ce : Nat → Nat → Int32) : Prop := ∀ k, k < 4 → I 86 k = (if th k then nI (so k) else -9) ∧ I 87 k = nI (ct k) ∧ ∀ i, i < 100 → I 88 (100 * k + i) = ce k i
def okSh (so ct : Nat → Nat) : Prop := ∀ k, k < 4 → so k < 3 ∧ ct k ≤ 100
def msk (p : Nat → Bool) : Nat → Nat
  | 0 => 0
  | n + 1 => msk p n ||| (if p n then 2 ^ n else 0)
theorem msk_bit (p : Nat → Bool) : ∀ n i, (msk p n).testBit i = (decide (i < n) && p i)
  | 0, i => by simp [msk]
  | n + 1, i => by
    rw [msk, Nat.testBit_or, msk_bit p n i]
    by_cases h : i = n
    · subst h
      by_cases hp : p i = true
      · simp [hp, Nat.testBit_two_pow_self]
      · simp [hp]
    · have h2 : (if p n = true then 2 ^ n else 0).testBit i = false := by
        split
        · rw [Nat.testBit_two_pow]; simp; omega
        · simp
      rw [h2, Bool.or_false]
      by_cases h3 : i < n
      · simp [h3, Nat.lt_succ_of_lt h3]
      · simp [h3, show ¬ i < n + 1 by omega]
theorem msk_lt (p : Nat → Bool) : ∀ n, msk p n < 2 ^ n
  | 0 => by simp [msk]
  | n + 1 => by
    rw [msk]
    refine Nat.or_lt_two_pow (Nat.lt_of_lt_of_le (msk_lt p n) (Nat.pow_le_pow_right (by decide) (by omega))) ?_
    split
    · exact Nat.pow_lt_pow_right (by decide) (by omega)
    · exact Nat.two_pow_pos _
theorem msk_cong {p q : Nat → Bool} : ∀ {n : Nat}, (∀ i, i < n → p i = q i) → msk p n = msk q n
  | 0, _ => rfl
  | n + 1, h => by rw [msk, msk, msk_cong (fun i hi => h i (by omega)), h n (by omega)]
theorem msk_lt1024 (p : Nat → Bool) {n : Nat} (h : n ≤ 10) : msk p n < 1024 := by
  have h1 := msk_lt p n
  have h2 : 2 ^ n ≤ 2 ^ 10 := Nat.pow_le_pow_right (by decide) h
  omega
def tm (T : Nat → Nat → Nat) (c x v : Nat) : Nat := msk (fun y => T x y == v) c
def cKd (I : KI) (c : Nat) (ki co ag re : Nat → Nat) (T : Nat → Nat → Nat) : Prop := I 0 5 = nI c ∧ ∀ x, x < c → I (75 + x) 0 = nI (ki x) ∧ I (75 + x) 1 = nI (co x) ∧ I (75 + x) 2 = nI (ag x) ∧ I (75 + x) 3 = nI (re x) ∧ I (75 + x) 4 = nI (tm T c x 1) ∧ I (75 + x) 5 = nI (tm T c x 2)
def mKd (I : KI) (c : Nat) (ki co ag re : Nat → Nat) (T : Nat → Nat → Nat) : Prop := I 85 19 = nI c ∧ (∀ x, x < c → I 96 x = nI (ki x) ∧ I 97 x = nI (co x) ∧ I 98 x = nI (ag x) ∧ I 99 x = nI (re x)) ∧ ∀ x y, x < c → y < c → I 100 (10 * x + y) = nI (T x y)
def okKd (n c : Nat) (ki co ag re : Nat → Nat) (T : Nat → Nat → Nat) : Prop := c ≤ 10 ∧ (∀ x, x < c → ki x < 3 ∧ co x < n ∧ 4 ≤ ag x ∧ ag x ≤ 11 ∧ re x ≤ 60) ∧ (∀ x y, x < c → y < c → T x y < 3 ∧ T x y = T y x ∧ T x x = 0)
def cMi (I : KI) (h hc : Nat) (hd : Nat → Nat) : Prop := I 0 8 = nI h ∧ I 0 10 = nI hc ∧ ∀ x, x < hc → I 62 x = nI (hd x)
def mMi (I : KI) (h hc : Nat) (hd : Nat → Nat) : Prop := I 85 32 = nI h ∧ I 85 37 = nI hc ∧ ∀ x, x < hc → I 107 x = nI (hd x)
def okMi (h hc : Nat) (hd : Nat → Nat) : Prop := 1 ≤ h ∧ h ≤ 9 ∧ hc ≤ 5 ∧ ∀ x, x < hc → hd x < 32
def cTw (t : Nat) (I : KI) (n r s : Nat) (rd : Nat → Nat → Nat) : Prop := I t 0 = nI n ∧ I t 1 = nI r ∧ I t 2 = nI s ∧ ∀ k, k < r → I (t + 1) k = nI (rd 0 k) ∧ I (t + 2) k = nI (rd 1 k) ∧ I (t + 3) k = nI (rd 2 k) ∧ I (t + 4) k = nI (rd 3 k) ∧ I (t + 5) k = nI (rd 4 k)
def mTw (I : KI) (n r s : Nat) (rd : Nat → Nat → Nat) : Prop := I 85 5 = nI n ∧ I 85 6 = nI r ∧ I 85 7 = nI s ∧ ∀ k, k < r → I 89 k = nI (rd 0 k) ∧ I 90 k = nI (rd 1 k) ∧ I 91 k = nI (rd 2 k) ∧ I 92 k = nI (rd 3 k) ∧ I 93 k = nI (rd 4 k)
def okTw (n r s : Nat) (rd : Nat → Nat → Nat) : Prop := n ≤ 7 ∧ r ≤ 12 ∧ (0 < n → s < n) ∧ ∀ k, k < r → rd 0 k < n ∧ rd 1 k < n ∧ rd 0 k ≠ rd 1 k ∧ 1 ≤ rd 2 k ∧ rd 2 k ≤ 30 ∧ rd 3 k ≤ 9 ∧ rd 4 k ≤ 9
/-! frames -/
theorem cSh.fr {I I' : KI} {th : Nat → Bool} {so ct : Nat → Nat} {ce : Nat → Nat → Int32} (h : cSh I th so ct ce) (hf : ∀ p, 67 ≤ p → p ≤ 74 → I' p = I p) : cSh I' th so ct ce := by
  intro k hk
  rw [hf (67 + 2 * k) (by omega) (by omega), hf (68 + 2 * k) (by omega) (by omega)]
  exact h k hk
theorem mSh.fr {I I' : KI} {th : Nat → Bool} {so ct : Nat → Nat} {ce : Nat → Nat → Int32} (h : mSh I th so ct ce) (hf : ∀ p, 86 ≤ p → p ≤ 88 → I' p = I p) : mSh I' th so ct ce := by
  intro k hk
  rw [hf 86 (by omega) (by omega), hf 87 (by omega) (by omega), hf 88 (by omega) (by omega)]
  exact h k hk
theorem cKd.fr {I I' : KI} {c : Nat} {ki co ag re : Nat → Nat} {T : Nat → Nat → Nat} (h : cKd I c ki co ag re T) (hc : c ≤ 10) (h0 : I' 0 5 = I 0 5) (hf : ∀ p, 75 ≤ p → p ≤ 84 → I' p = I p) : cKd I' c ki co ag re T := by
  refine ⟨h0.trans h.1, fun x hx => ?_⟩
  rw [hf (75 + x) (by omega) (by omega)]
  exact h.2 x hx
theorem mKd.fr {I I' : KI} {c : Nat} {ki co ag re : Nat → Nat} {T : Nat → Nat → Nat} (h : mKd I c ki co ag re T) (h0 : I' 85 19 = I 85 19) (hf : ∀ p, 96 ≤ p → p ≤ 100 → I' p = I p) : mKd I' c ki co ag re T := by
  refine ⟨h0.trans h.1, fun x hx => ?_, fun x y hx hy => ?_⟩
  · rw [hf 96 (by omega) (by omega), hf 97 (by omega) (by omega), hf 98 (by omega) (by omega), hf 99 (by omega) (by omega)]
    exact h.2.1 x hx
  · rw [hf 100 (by omega) (by omega)]
    exact h.2.2 x y hx hy
theorem cMi.fr {I I' : KI} {h hc : Nat} {hd : Nat → Nat} (H : cMi I h hc hd) (h0 : I' 0 8 = I 0 8) (h1 : I' 0 10 = I 0 10) (hf : I' 62 = I 62) : cMi I' h hc hd := ⟨h0.trans H.1, h1.trans H.2.1, fun x hx => by rw [hf]; exact H.2.2 x hx⟩
theorem mMi.fr {I I' : KI} {h hc : Nat} {hd : Nat → Nat} (H : mMi I h hc hd) (h0 : I' 85 32 = I 85 32) (h1 : I' 85 37 = I 85 37) (hf : I' 107 = I 107) : mMi I' h hc hd := ⟨h0.trans H.1, h1.trans H.2.1, fun x hx => by rw [hf]; exact H.2.2 x hx⟩
theorem cTw.fr {t : Nat} {I I' : KI} {n r s : Nat} {rd : Nat → Nat → Nat} (h : cTw t I n r s rd) (hf : ∀ p, t ≤ p → p ≤ t + 5 → I' p = I p) : cTw t I' n r s rd := by
  unfold cTw
  rw [hf t (by omega) (by omega), hf (t + 1) (by omega) (by omega), hf (t + 2) (by omega) (by omega), hf (t + 3) (by omega) (by omega), hf (t + 4) (by omega) (by omega), hf (t + 5) (by omega) (by omega)]
  exact h
theorem mTw.fr {I I' : KI} {n r s : Nat} {rd : Nat → Nat → Nat} (h : mTw I n r s rd) (h5 : I' 85 5 = I 85 5) (h6 : I' 85 6 = I 85 6) (h7 : I' 85 7 = I 85 7) (hf : ∀ p, 89 ≤ p → p ≤ 93 → I' p = I p) : mTw I' n r s rd := by
  unfold mTw
  rw [h5, h6, h7, hf 89 (by omega) (by omega), hf 90 (by omega) (by omega), hf 91 (by omega) (by omega), hf 92 (by omega) (by omega), hf 93 (by omega) (by omega)]
  exact h
/-! what is asked of arguments -/
theorem set_lt {c : Nat} (hc : c ≤ 10) {x : Int32} (h0 : 0 < x.toInt) (h : x >>> (nI c &&& 31) = 0) : ∃ m : Nat, 0 < m ∧ m < 2 ^ c ∧ x = nI m := by
  obtain ⟨m, hm, rfl⟩ := i_nat (x := x) (by omega)
  rw [shr_nI hm (by omega), show (0 : Int32) = nI 0 from rfl] at h
  have h1 := nI_inj h (by rw [Nat.shiftRight_eq_div_pow]; exact Nat.lt_of_le_of_lt (Nat.div_le_self _ _) hm) (by decide)
  rw [Nat.shiftRight_eq_div_pow, Nat.div_eq_zero_iff] at h1
  rw [nI_toInt hm] at h0
  refine ⟨m, by omega, ?_, rfl⟩
  rcases h1 with h1 | h1
  · exact absurd h1 (by have := Nat.two_pow_pos c; omega)
  · exact h1
theorem set_nlt {c m : Nat} (hc : c ≤ 10) (hm : m < 2 ^ c) : nI m >>> (nI c &&& 31) = 0 := by
  have h2 : (2 : Nat) ^ c ≤ 2 ^ 10 := Nat.pow_le_pow_right (by decide) hc
  rw [shr_nI (by omega) (by omega), Nat.shiftRight_eq_div_pow, Nat.div_eq_of_lt hm]
  rfl
