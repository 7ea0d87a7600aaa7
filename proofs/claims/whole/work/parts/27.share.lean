/-! shares -/
theorem lN_0 : lN 0 = 0 := rfl
theorem l_nat {x : Int64} (h : 0 ≤ x.toInt) : ∃ j : Nat, j < 2 ^ 63 ∧ x = lN j := by
  have hr := fb_rngL x
  refine ⟨x.toInt.toNat, by omega, l_ext ?_⟩
  rw [pk_lT (by omega)]; omega
theorem lrem_N {a b : Nat} (ha : a < 2 ^ 63) (h0 : 0 < b) (hb : b < 2 ^ 63) : lN a - lN a / lN b * lN b = lN (a % b) := pk_lRem ha h0 hb
theorem cmp_l0 {a : Nat} (ha : a < 2 ^ 63) : lg_cmp (lN a) 0 = 0 ↔ a = 0 := by
  rw [lg_cmp_eq, ← lN_0, pk_lEQ ha (by decide)]
/-- Euclid's steps halve every second time -/
theorem gcd_step (a b : Nat) : Nat.gcd a b = Nat.gcd b (a % b) := by
  rw [Nat.gcd_comm a b, Nat.gcd_rec b a, Nat.gcd_comm]
theorem half_rem {b r : Nat} (hr : 0 < r) (h : r < b) : 2 * (b % r) < b := by
  have h1 := Nat.mod_lt b hr
  have h2 : b % r ≤ b - r := by rw [Nat.mod_eq_sub_mod (Nat.le_of_lt h)]; exact Nat.mod_le _ _
  omega
/-- digits of a number -/
def dgS (w i : Nat) : Nat := w / 10 ^ i % 10
theorem dgS_lt (w i : Nat) : dgS w i < 10 := Nat.mod_lt _ (by decide)
def coS (n c k i : Nat) : Nat := if i ≤ k then n * i else c + n * k
def lsS (w n c k : Nat) : Nat → Nat
  | 0 => 0
  | i + 1 => lsS w n c k i + dgS w i * coS n c k i
def wtS (w : Nat) : Nat → Nat
  | 0 => 0
  | i + 1 => wtS w i + dgS w i
theorem coS_le {n c k i : Nat} (hn : n ≤ 9) (hc : c ≤ 99) (hk : k ≤ 9) : coS n c k i ≤ 180 := by
  unfold coS
  have h1 : n * k ≤ 9 * 9 := Nat.mul_le_mul hn hk
  split
  · rename_i h
    have h2 : n * i ≤ 9 * 9 := Nat.mul_le_mul hn (by omega)
    omega
  · omega
theorem lsS_le {w n c k : Nat} (hn : n ≤ 9) (hc : c ≤ 99) (hk : k ≤ 9) : ∀ i, lsS w n c k i ≤ 1620 * i
  | 0 => Nat.le_refl 0
  | i + 1 => by
    have h1 := lsS_le (w := w) hn hc hk i
    have h2 : dgS w i * coS n c k i ≤ 9 * 180 := Nat.mul_le_mul (by have := dgS_lt w i; omega) (coS_le hn hc hk)
    rw [lsS]; omega
theorem wtS_le (w : Nat) : ∀ i, wtS w i ≤ 9 * i
  | 0 => Nat.le_refl 0
  | i + 1 => by have h1 := wtS_le w i; have h2 := dgS_lt w i; rw [wtS]; omega
theorem dg0 {w i : Nat} (h : w / 10 ^ i = 0) : dgS w i = 0 := by unfold dgS; rw [h]
theorem div_s (w i : Nat) : w / 10 ^ (i + 1) = w / 10 ^ i / 10 := by rw [Nat.pow_succ, Nat.div_div_eq_div_mul]
theorem div0_s {w i : Nat} (h : w / 10 ^ i = 0) : w / 10 ^ (i + 1) = 0 := by rw [div_s, h]
theorem lsS_0 {w n c k i : Nat} (h : w / 10 ^ i = 0) : ∀ j, lsS w n c k (i + j) = lsS w n c k i
  | 0 => rfl
  | j + 1 => by
    have h2 : w / 10 ^ (i + j) = 0 := by rw [Nat.pow_add, ← Nat.div_div_eq_div_mul, h, Nat.zero_div]
    rw [← Nat.add_assoc, lsS, lsS_0 h j, dg0 h2, Nat.zero_mul]; rfl
theorem wtS_0 {w i : Nat} (h : w / 10 ^ i = 0) : ∀ j, wtS w (i + j) = wtS w i
  | 0 => rfl
  | j + 1 => by
    have h2 : w / 10 ^ (i + j) = 0 := by rw [Nat.pow_add, ← Nat.div_div_eq_div_mul, h, Nat.zero_div]
    rw [← Nat.add_assoc, wtS, wtS_0 h j, dg0 h2]; rfl
theorem wtS_pos {w : Nat} (h0 : 0 < w) (h : w < 10 ^ 8) : 0 < wtS w 8 := by
  have key : ∀ i, wtS w i = 0 → w = w / 10 ^ i * 10 ^ i := by
    intro i
    induction i with
    | zero => intro _; simp
    | succ i ih =>
      intro hz
      rw [wtS] at hz
      have h1 := ih (by omega)
      have h2 : w / 10 ^ i % 10 = 0 := by unfold dgS at hz; omega
      have h3 : w / 10 ^ i = w / 10 ^ i / 10 * 10 := by omega
      rw [div_s, Nat.pow_succ, Nat.mul_comm (10 ^ i) 10, ← Nat.mul_assoc, ← h3]
      exact h1
  rcases Nat.eq_zero_or_pos (wtS w 8) with hz | hz
  · have h1 := key 8 hz
    rw [Nat.div_eq_of_lt h] at h1
    omega
  · exact hz
def isW (w n c : Int32) : Prop := isB 1 99999999 w ∧ isB 1 9 n ∧ isB 0 99 c
def lossR (w n c k q : Int32) : Prop := ¬ (isW w n c ∧ isB 0 9 k ∧ isB 0 1 q)
def shS (u d : Nat) (q : Int32) : Nat := if q = 0 then u / Nat.gcd u d else d / Nat.gcd u d
def ptS (w n c : Nat) : Nat → Nat
  | 0 => 0
  | k + 1 => if lsS w n c (k + 1) 8 < lsS w n c (ptS w n c k) 8 then k + 1 else ptS w n c k
theorem ptS_le (w n c : Nat) : ∀ k, ptS w n c k ≤ k
  | 0 => Nat.le_refl 0
  | k + 1 => by have := ptS_le w n c k; rw [ptS]; split <;> omega

/-- how many steps Euclid takes at the most: b < 2^m: 2m steps; a step on, with b' * 2 < a (or its like) one less -/
def Pot (f a b : Nat) : Prop := (∃ m, f = 2 * m ∧ b < 2 ^ m) ∨ ∃ m, f = 2 * m + 1 ∧ a < 2 ^ (m + 1) ∧ b < a
theorem Pot.step {f a b : Nat} (h : Pot f a b) (hb : 0 < b) : ∃ f2, f2 < f ∧ Pot f2 b (a % b) := by
  rcases h with ⟨m, rfl, h1⟩ | ⟨m, rfl, h1, h2⟩
  · cases m with
    | zero => simp at h1; omega
    | succ m => exact ⟨2 * m + 1, by omega, Or.inr ⟨m, rfl, h1, Nat.mod_lt _ hb⟩⟩
  · refine ⟨2 * m, by omega, Or.inl ⟨m, rfl, ?_⟩⟩
    have h3 := half_rem hb h2
    rw [Nat.pow_succ] at h1
    omega
set_option maxHeartbeats 4000000 in
set_option maxRecDepth 100000 in
theorem l_X9_commonDivisor {X : KX} {I : KI} {J : KJ} {t : Nat} (C : Cx X RX9 cX9_commonDivisor 1) (K : Kx X) (hnL : xnL X = 11) {Q : Int64 → KI → KJ → KR → Prop} (E : El X Q) {l0 l2 : Int64} {g : Nat} (hQ : Q (lN g) I J (rf t)) : ∀ (f a b i : Nat), a < 2 ^ 63 → b < 2 ^ 63 → Nat.gcd a b = g → Pot f a b → i + f ≤ 200 → Z X 0 0 (V X I J (rf t)) 9 [(8, .int (nI i)), (6, .long (lN b)), (4, .long (lN a)), (0, .long l0), (2, .long l2)] [] := by
  intro f
  induction f using Nat.strongRecOn with
  | ind f ih =>
    intro a b i ha hb hg hf hi
    refine z_iload (n := 11) C 0 dX9_commonDivisor_9 rfl rfl ?_
    refine z_sipush (n := 14) (v := 1000) C dX9_commonDivisor_11 rfl rfl ?_
    refine z_icmpF_ge (n := 17) (tgt := 45) C (by rw [fa_le, nI_toInt (by omega)]; simp only [Int32.reduceToInt]; omega) dX9_commonDivisor_14 rfl rfl ?_
    refine z_lload (n := 19) C 1 dX9_commonDivisor_17 rfl rfl ?_
    refine z_lconst (n := 20) (v := 0) C dX9_commonDivisor_19 rfl rfl ?_
    refine z_lcmp (n := 21) C dX9_commonDivisor_20 rfl ?_
    refine z_if_eq (tgt := 45) (n := 24) C dX9_commonDivisor_21 rfl rfl (fun c21 => ?_) (fun c21 => ?_)
    · rw [cmp_l0 hb] at c21
      subst c21
      rw [Nat.gcd_zero_right] at hg
      subst hg
      refine z_lload (n := 47) C 2 dX9_commonDivisor_45 rfl rfl ?_
      refine z_lret C E dX9_commonDivisor_47 ?_
      exact hQ
    · rw [cmp_l0 hb] at c21
      have hb0 : 0 < b := by omega
      refine z_lload (n := 26) C 2 dX9_commonDivisor_24 rfl rfl ?_
      refine z_lload (n := 28) C 1 dX9_commonDivisor_26 rfl rfl ?_
      refine z_lrem (n := 29) C dX9_commonDivisor_28 rfl (fun e => c21 ((pk_lEQ hb (by decide)).mp e)) ?_
      rw [lrem_N ha hb0 hb]
      refine z_lstore (n := 31) (L' := [(9, _), (8, _), (6, _), (4, _), (0, _), (2, _)]) C dX9_commonDivisor_29 rfl (by rw [hnL]; decide) rfl ?_
      refine z_lload (n := 33) C 2 dX9_commonDivisor_31 rfl rfl ?_
      refine z_lstore (n := 35) (L' := [(4, _), (9, _), (8, _), (6, _), (0, _), (2, _)]) C dX9_commonDivisor_33 rfl (by rw [hnL]; decide) rfl ?_
      refine z_lload (n := 37) C 1 dX9_commonDivisor_35 rfl rfl ?_
      refine z_lstore (n := 39) (L' := [(6, _), (4, _), (9, _), (8, _), (0, _), (2, _)]) C dX9_commonDivisor_37 rfl (by rw [hnL]; decide) rfl ?_
      refine z_iincG (n := 42) (c := 1) (L' := [(8, _), (6, _), (4, _), (9, _), (0, _), (2, _)]) C 3 dX9_commonDivisor_39 rfl rfl rfl (by rw [hnL]; decide) rfl ?_
      refine z_goto (n := 9) C dX9_commonDivisor_42 rfl ?_
      refine z_sub (L' := [(8, _), (6, _), (4, _), (0, _), (2, _)]) [0, 1, 2, 4, 5] rfl ?_
      rw [nI_1]
      obtain ⟨f2, hf2, hp⟩ := hf.step hb0
      exact ih f2 (by omega) b (a % b) (i + 1) hb (Nat.lt_trans (Nat.mod_lt _ hb0) hb) (by rw [← gcd_step]; exact hg) hp (by omega)
set_option maxHeartbeats 4000000 in
set_option maxRecDepth 100000 in
theorem l_X10_common {X : KX} {I : KI} {J : KJ} {t : Nat} (C : Cx X RX10 cX10_common 1) (K : Kx X) (hnL : xnL X = 10) {Q : Int64 → KI → KJ → KR → Prop} (E : El X Q) {l0 l2 : Int64} {g : Nat} (hQ : Q (lN g) I J (rf t)) : ∀ (f a b : Nat), a < 2 ^ 63 → b < 2 ^ 63 → Nat.gcd a b = g → Pot f a b → Z X 0 0 (V X I J (rf t)) 6 [(6, .long (lN b)), (4, .long (lN a)), (0, .long l0), (2, .long l2)] [] := by
  intro f
  induction f using Nat.strongRecOn with
  | ind f ih =>
    intro a b ha hb hg hf
    refine z_lload (n := 8) C 0 dX10_common_6 rfl rfl ?_
    refine z_lconst (n := 9) (v := 0) C dX10_common_8 rfl rfl ?_
    refine z_lcmp (n := 10) C dX10_common_9 rfl ?_
    refine z_if_eq (tgt := 31) (n := 13) C dX10_common_10 rfl rfl (fun c10 => ?_) (fun c10 => ?_)
    · rw [cmp_l0 hb] at c10
      subst c10
      rw [Nat.gcd_zero_right] at hg
      subst hg
      refine z_lload (n := 33) C 1 dX10_common_31 rfl rfl ?_
      refine z_lret C E dX10_common_33 ?_
      exact hQ
    · rw [cmp_l0 hb] at c10
      have hb0 : 0 < b := by omega
      refine z_lload (n := 15) C 1 dX10_common_13 rfl rfl ?_
      refine z_lload (n := 17) C 0 dX10_common_15 rfl rfl ?_
      refine z_lrem (n := 18) C dX10_common_17 rfl (fun e => c10 ((pk_lEQ hb (by decide)).mp e)) ?_
      rw [lrem_N ha hb0 hb]
      refine z_lstore (n := 20) (L' := [(8, _), (6, _), (4, _), (0, _), (2, _)]) C dX10_common_18 rfl (by rw [hnL]; decide) rfl ?_
      refine z_lload (n := 22) C 1 dX10_common_20 rfl rfl ?_
      refine z_lstore (n := 24) (L' := [(4, _), (8, _), (6, _), (0, _), (2, _)]) C dX10_common_22 rfl (by rw [hnL]; decide) rfl ?_
      refine z_lload (n := 26) C 1 dX10_common_24 rfl rfl ?_
      refine z_lstore (n := 28) (L' := [(6, _), (4, _), (8, _), (0, _), (2, _)]) C dX10_common_26 rfl (by rw [hnL]; decide) rfl ?_
      refine z_goto (n := 6) C dX10_common_28 rfl ?_
      refine z_sub (L' := [(6, _), (4, _), (0, _), (2, _)]) [0, 1, 3, 4] rfl ?_
      obtain ⟨f2, hf2, hp⟩ := hf.step hb0
      exact ih f2 (by omega) b (a % b) hb (Nat.lt_trans (Nat.mod_lt _ hb0) hb) (by rw [← gcd_step]; exact hg) hp
set_option maxHeartbeats 4000000 in
set_option maxRecDepth 100000 in
theorem c_X9_commonDivisor {ad : Nat → Nat} {I : KI} {J : KJ} {t : Nat} {a b : Nat} (ha : a < 2 ^ 63) (hb : b < 2 ^ 63) {Q : Int64 → KI → KJ → KR → Prop} (hQ : Q (lN (Nat.gcd a b)) I J (rf t)) : Ml 1 yX9_commonDivisor (wm yX9_commonDivisor cX9_commonDivisor 11 (some .long)) [.long (lN a), .long (lN b)] ad I J (rf t) Q := by
  refine ml_of (own := RX9) yk_X9_commonDivisor rfl (Nat.le_of_ble_eq_true rfl) rfl (fun X hA hnL C K E => ?_)
  subst hA
  refine z_lload_n (n := 1) C 0 dX9_commonDivisor_0 rfl rfl ?_
  refine z_lstore (n := 3) (L' := [(4, _), (0, _), (2, _)]) C dX9_commonDivisor_1 rfl (by rw [hnL]; decide) rfl ?_
  refine z_lload_n (n := 4) C 2 dX9_commonDivisor_3 rfl rfl ?_
  refine z_lstore (n := 6) (L' := [(6, _), (4, _), (0, _), (2, _)]) C dX9_commonDivisor_4 rfl (by rw [hnL]; decide) rfl ?_
  refine z_iconst (n := 7) (v := 0) C dX9_commonDivisor_6 rfl rfl ?_
  refine z_istore (n := 9) (L' := [(8, _), (6, _), (4, _), (0, _), (2, _)]) C dX9_commonDivisor_7 rfl (by rw [hnL]; decide) rfl ?_
  exact l_X9_commonDivisor C K hnL E hQ 126 a b 0 ha hb rfl (Or.inl ⟨63, rfl, hb⟩) (by omega)
set_option maxHeartbeats 4000000 in
set_option maxRecDepth 100000 in
theorem c_X10_common {ad : Nat → Nat} {I : KI} {J : KJ} {t : Nat} {a b : Nat} (ha : a < 2 ^ 63) (hb : b < 2 ^ 63) {Q : Int64 → KI → KJ → KR → Prop} (hQ : Q (lN (Nat.gcd a b)) I J (rf t)) : Ml 1 yX10_common (wm yX10_common cX10_common 10 (some .long)) [.long (lN a), .long (lN b)] ad I J (rf t) Q := by
  refine ml_of (own := RX10) yk_X10_common rfl (Nat.le_of_ble_eq_true rfl) rfl (fun X hA hnL C K E => ?_)
  subst hA
  refine z_lload_n (n := 1) C 0 dX10_common_0 rfl rfl ?_
  refine z_lstore (n := 3) (L' := [(4, _), (0, _), (2, _)]) C dX10_common_1 rfl (by rw [hnL]; decide) rfl ?_
  refine z_lload_n (n := 4) C 2 dX10_common_3 rfl rfl ?_
  refine z_lstore (n := 6) (L' := [(6, _), (4, _), (0, _), (2, _)]) C dX10_common_4 rfl (by rw [hnL]; decide) rfl ?_
  exact l_X10_common C K hnL E hQ 126 a b ha hb rfl (Or.inl ⟨63, rfl, hb⟩)
set_option maxHeartbeats 4000000 in
set_option maxRecDepth 100000 in
theorem c_X9_partOfShare {ad : Nat → Nat} {I : KI} {J : KJ} {t : Nat} {a b : Nat} (ha : a < 2 ^ 63) (hb0 : 0 < b) (hb : b < 2 ^ 63) {q : Int32} {Q : Int64 → KI → KJ → KR → Prop} (hQ : Q (lN (shS a b q)) I J (rf t)) : Ml 2 yX9_partOfShare (wm yX9_partOfShare cX9_partOfShare 7 (some .long)) [.long (lN a), .long (lN b), .int (q)] ad I J (rf t) Q := by
  refine ml_of (own := RX9) yk_X9_partOfShare rfl (Nat.le_of_ble_eq_true rfl) rfl (fun X hA hnL C K E => ?_)
  subst hA
  refine z_lload_n (n := 1) C 0 dX9_partOfShare_0 rfl rfl ?_
  refine z_lload_n (n := 2) C 1 dX9_partOfShare_1 rfl rfl ?_
  refine z_sl_2 (n := 5) (d' := 1) C K dX9_partOfShare_2 rfl yk_X9_commonDivisor kT_yX9_commonDivisor kM_RX9_380 (by decide) hR0 rfl ?_
  refine c_X9_commonDivisor ha hb ?_
  refine z_lstore (n := 7) (L' := [(5, _), (0, _), (2, _), (4, _)]) C dX9_partOfShare_5 rfl (by rw [hnL]; decide) rfl ?_
  refine z_lload (n := 9) C 0 dX9_partOfShare_7 rfl rfl ?_
  refine z_lconst (n := 10) (v := 0) C dX9_partOfShare_9 rfl rfl ?_
  refine z_lcmp (n := 11) C dX9_partOfShare_10 rfl ?_
  refine z_ifT_ne (tgt := 16) C (by rw [cmp_l0 (Nat.lt_of_le_of_lt (Nat.gcd_le_right a hb0) hb)]; have := Nat.gcd_pos_of_pos_right a hb0; omega) dX9_partOfShare_11 rfl ?_
  refine z_iload (n := 18) C 3 dX9_partOfShare_16 rfl rfl ?_
  refine z_if_ne (tgt := 28) (n := 21) C dX9_partOfShare_18 rfl rfl (fun c18 => ?_) (fun c18 => ?_)
  · refine z_lload_n (n := 29) C 2 dX9_partOfShare_28 rfl rfl ?_
    refine z_lload (n := 31) C 0 dX9_partOfShare_29 rfl rfl ?_
    refine z_ldiv (n := 32) C dX9_partOfShare_31 rfl (fun e => absurd ((pk_lEQ (Nat.lt_of_le_of_lt (Nat.gcd_le_right a hb0) hb) (by decide)).mp (e.trans lN_0.symm)) (by have := Nat.gcd_pos_of_pos_right a hb0; omega)) ?_
    refine z_lret C E dX9_partOfShare_32 ?_
    have hg := Nat.gcd_pos_of_pos_right a hb0
    have hgl := Nat.lt_of_le_of_lt (Nat.gcd_le_right a hb0) hb
    rw [pk_lDiv hb hg hgl]
    unfold shS at hQ
    rw [if_neg c18] at hQ
    exact hQ
  · refine z_lload_n (n := 22) C 1 dX9_partOfShare_21 rfl rfl ?_
    refine z_lload (n := 24) C 0 dX9_partOfShare_22 rfl rfl ?_
    refine z_ldiv (n := 25) C dX9_partOfShare_24 rfl (fun e => absurd ((pk_lEQ (Nat.lt_of_le_of_lt (Nat.gcd_le_right a hb0) hb) (by decide)).mp (e.trans lN_0.symm)) (by have := Nat.gcd_pos_of_pos_right a hb0; omega)) ?_
    refine z_goto (n := 32) C dX9_partOfShare_25 rfl ?_
    refine z_lret C E dX9_partOfShare_32 ?_
    have hg := Nat.gcd_pos_of_pos_right a hb0
    have hgl := Nat.lt_of_le_of_lt (Nat.gcd_le_right a hb0) hb
    rw [pk_lDiv ha hg hgl]
    unfold shS at hQ
    rw [if_pos c18] at hQ
    exact hQ
set_option maxHeartbeats 4000000 in
set_option maxRecDepth 100000 in
theorem c_X10_part {ad : Nat → Nat} {I : KI} {J : KJ} {t : Nat} {a b : Nat} (ha : a < 2 ^ 63) (hb0 : 0 < b) (hb : b < 2 ^ 63) {q : Int32} {Q : Int64 → KI → KJ → KR → Prop} (hQ : Q (lN (shS a b q)) I J (rf t)) : Ml 2 yX10_part (wm yX10_part cX10_part 7 (some .long)) [.long (lN a), .long (lN b), .int (q)] ad I J (rf t) Q := by
  refine ml_of (own := RX10) yk_X10_part rfl (Nat.le_of_ble_eq_true rfl) rfl (fun X hA hnL C K E => ?_)
  subst hA
  refine z_lload_n (n := 1) C 0 dX10_part_0 rfl rfl ?_
  refine z_lload_n (n := 2) C 1 dX10_part_1 rfl rfl ?_
  refine z_sl_2 (n := 5) (d' := 1) C K dX10_part_2 rfl yk_X10_common kT_yX10_common kM_RX10_204 (by decide) hR0 rfl ?_
  refine c_X10_common ha hb ?_
  refine z_lstore (n := 7) (L' := [(5, _), (0, _), (2, _), (4, _)]) C dX10_part_5 rfl (by rw [hnL]; decide) rfl ?_
  refine z_iload (n := 9) C 3 dX10_part_7 rfl rfl ?_
  refine z_if_ne (tgt := 19) (n := 12) C dX10_part_9 rfl rfl (fun c9 => ?_) (fun c9 => ?_)
  · refine z_lload_n (n := 20) C 2 dX10_part_19 rfl rfl ?_
    refine z_lload (n := 22) C 0 dX10_part_20 rfl rfl ?_
    refine z_ldiv (n := 23) C dX10_part_22 rfl (fun e => absurd ((pk_lEQ (Nat.lt_of_le_of_lt (Nat.gcd_le_right a hb0) hb) (by decide)).mp (e.trans lN_0.symm)) (by have := Nat.gcd_pos_of_pos_right a hb0; omega)) ?_
    refine z_lret C E dX10_part_23 ?_
    have hg := Nat.gcd_pos_of_pos_right a hb0
    have hgl := Nat.lt_of_le_of_lt (Nat.gcd_le_right a hb0) hb
    rw [pk_lDiv hb hg hgl]
    unfold shS at hQ
    rw [if_neg c9] at hQ
    exact hQ
  · refine z_lload_n (n := 13) C 1 dX10_part_12 rfl rfl ?_
    refine z_lload (n := 15) C 0 dX10_part_13 rfl rfl ?_
    refine z_ldiv (n := 16) C dX10_part_15 rfl (fun e => absurd ((pk_lEQ (Nat.lt_of_le_of_lt (Nat.gcd_le_right a hb0) hb) (by decide)).mp (e.trans lN_0.symm)) (by have := Nat.gcd_pos_of_pos_right a hb0; omega)) ?_
    refine z_goto (n := 23) C dX10_part_16 rfl ?_
    refine z_lret C E dX10_part_23 ?_
    have hg := Nat.gcd_pos_of_pos_right a hb0
    have hgl := Nat.lt_of_le_of_lt (Nat.gcd_le_right a hb0) hb
    rw [pk_lDiv ha hg hgl]
    unfold shS at hQ
    rw [if_pos c9] at hQ
    exact hQ
