set_option maxHeartbeats 4000000 in
set_option maxRecDepth 100000 in
theorem c_X5_isBeside {ad : Nat → Nat} {I : KI} {J : KJ} {t : Nat} {m : Nat} (hm : m < 2 ^ 31) {Q : Int32 → KI → KJ → KR → Prop} (h1 : m % 2 = 1 → Q 1 I J (rf t)) (h0 : ¬ m % 2 = 1 → Q 0 I J (rf t)) : Mi 1 yX5_isBeside (wm yX5_isBeside cX5_isBeside 1 (some .boolean)) [.int (nI m)] ad I J (rf t) Q := by
  refine mi_of (own := RX5) yk_X5_isBeside rfl (Nat.le_of_ble_eq_true rfl) rfl (fun X hA hnL C K E => ?_)
  subst hA
  refine z_iload_n (n := 1) C 0 dX5_isBeside_0 rfl rfl ?_
  refine z_iconst (n := 2) (v := 2) C dX5_isBeside_1 rfl rfl ?_
  refine z_irem (n := 3) C dX5_isBeside_2 rfl (by decide) ?_
  rw [show (2 : Int32) = nI 2 from rfl, pk_rem (by omega) (by decide) (by decide)]
  refine z_iconst (n := 4) (v := 1) C dX5_isBeside_3 rfl rfl ?_
  refine z_icmp_ne (tgt := 11) (n := 7) C dX5_isBeside_4 rfl rfl (fun c4 => ?_) (fun c4 => ?_)
  · refine z_iconst (n := 12) (v := 0) C dX5_isBeside_11 rfl rfl ?_
    refine z_zret C E dX5_isBeside_12 (by decide) ?_
    exact h0 (fun q => c4 (by rw [q]; rfl))
  · refine z_iconst (n := 8) (v := 1) C dX5_isBeside_7 rfl rfl ?_
    refine z_goto (n := 12) C dX5_isBeside_8 rfl ?_
    refine z_zret C E dX5_isBeside_12 (by decide) ?_
    exact h1 (nI_inj (b := 1) c4 (by omega) (by decide))
set_option maxHeartbeats 4000000 in
set_option maxRecDepth 100000 in
theorem c_X5_bitAt {ad : Nat → Nat} {I : KI} {J : KJ} {t : Nat} {loops : Nat} {rs : List Nat} (hL : I 57 5 = nI loops) (hl8 : loops ≤ 8) (hr : rowA I 60 rs) (hlen : rs.length ≤ loops) (hin : ∀ i, rs.getD i 99 = 99 ∨ rs.getD i 99 < 10) {v : Int32} (hv : v.toInt < 0 ∨ isN rs.length v) {Q : Int32 → KI → KJ → KR → Prop} (hQ : Q (nI (bAt rs v)) I J (rf t)) : Mi 1 yX5_bitAt (wm yX5_bitAt cX5_bitAt 2 (some .int)) [.ref (ad 57), .int (v)] ad I J (rf t) Q := by
  refine mi_of (own := RX5) yk_X5_bitAt rfl (Nat.le_of_ble_eq_true rfl) rfl (fun X hA hnL C K E => ?_)
  subst hA
  refine z_iload_n (n := 1) C 1 dX5_bitAt_0 rfl rfl ?_
  refine z_if_lt (tgt := 32) (n := 4) C dX5_bitAt_1 rfl rfl (fun c1 => ?_) (fun c1 => ?_)
  · refine z_iconst (n := 33) (v := 0) C dX5_bitAt_32 rfl rfl ?_
    refine z_iret C E dX5_bitAt_33 ?_
    rw [fa_lt] at c1
    simp only [Int32.reduceToInt] at c1
    exact eqQ (by unfold bAt; rw [if_pos c1]; rfl) hQ
  · rw [fa_lt] at c1
    simp only [Int32.reduceToInt] at c1
    obtain ⟨i, hi, rfl⟩ := isN_of (hv.resolve_left c1)
    have ebt : bAt rs (nI i) = btS (rs.getD (rs.length - 1 - i) 99) := by unfold bAt; rw [if_neg (by rw [nI_toInt (by omega)]; omega), nI_clamp (by omega)]
    obtain ⟨s, es⟩ : ∃ s, rs.getD (rs.length - 1 - i) 99 = s := ⟨_, rfl⟩
    have hsb := hin (rs.length - 1 - i)
    rw [es] at hsb ebt
    refine z_iload_n (n := 5) C 1 dX5_bitAt_4 rfl rfl ?_
    refine z_aload_n (n := 6) C 0 dX5_bitAt_5 rfl rfl ?_
    refine z_getI (n := 9) C K fF_RX5_28 dX5_bitAt_6 rfl sh_57 (by decide) ?_
    rw [hL]
    refine z_icmpF_ge (n := 12) (tgt := 32) C (by rw [fa_le, nI_toInt (by omega), nI_toInt (by omega)]; omega) dX5_bitAt_9 rfl rfl ?_
    refine z_aload_n (n := 13) C 0 dX5_bitAt_12 rfl rfl ?_
    refine z_getR (n := 16) (q := 60) C K fF_RX5_18 dX5_bitAt_13 rfl rfl sh_57 (by decide) rfl ?_
    refine z_iload_n (n := 17) C 1 dX5_bitAt_16 rfl rfl ?_
    refine z_ialdN (n := 18) C K i dX5_bitAt_17 rfl sh_60 (by decide) rfl (by omega) (by decide) ?_
    rw [hr i hi, es]
    refine z_if_lt (tgt := 32) (n := 21) C dX5_bitAt_18 rfl rfl (fun c18 => ?_) (fun c18 => ?_)
    · refine z_iconst (n := 33) (v := 0) C dX5_bitAt_32 rfl rfl ?_
      refine z_iret C E dX5_bitAt_33 ?_
      have hs99 : s = 99 := by
        by_cases e : s = 99
        · exact e
        · exfalso
          rw [show seatI s = nI s from if_neg e, fa_lt, nI_toInt (by omega)] at c18
          simp only [Int32.reduceToInt] at c18
          omega
      exact eqQ (by rw [ebt, hs99]; rfl) hQ
    · have hs99 : s ≠ 99 := fun e => by rw [e] at c18; exact absurd c18 (by decide)
      have hs10 : s < 10 := hsb.resolve_left hs99
      refine z_iconst (n := 22) (v := 1) C dX5_bitAt_21 rfl rfl ?_
      refine z_aload_n (n := 23) C 0 dX5_bitAt_22 rfl rfl ?_
      refine z_getR (n := 26) (q := 60) C K fF_RX5_18 dX5_bitAt_23 rfl rfl sh_57 (by decide) rfl ?_
      refine z_iload_n (n := 27) C 1 dX5_bitAt_26 rfl rfl ?_
      refine z_ialdN (n := 28) C K i dX5_bitAt_27 rfl sh_60 (by decide) rfl (by omega) (by decide) ?_
      rw [hr i hi, es, show seatI s = nI s from if_neg hs99]
      refine z_ishl (n := 29) C dX5_bitAt_28 rfl ?_
      rw [one_shl s (by omega)]
      refine z_goto (n := 33) C dX5_bitAt_29 rfl ?_
      refine z_iret C E dX5_bitAt_33 ?_
      exact eqQ (by rw [ebt]; unfold btS; rw [if_neg hs99]) hQ
/-! who may come to a loop -/
def satS (rs : List Nat) (v : Int32) : Nat := if v.toInt < 0 then 99 else rs.getD (rs.length - 1 - v.toNatClampNeg) 99
theorem satS_1 {rs : List Nat} (h : 1 ≤ rs.length) (h2 : rs.length < 2 ^ 31) : satS rs (nI (rs.length - 1)) = rs.getD 0 99 := by
  unfold satS
  rw [if_neg (by rw [nI_toInt (by omega)]; omega), nI_clamp (by omega), show rs.length - 1 - (rs.length - 1) = 0 by omega]
theorem satS_2 {rs : List Nat} (h2 : rs.length < 2 ^ 31) : satS rs (nI rs.length - 2) = rs.getD 1 99 := by
  unfold satS
  by_cases e : rs.length < 2
  · have h3 : (nI rs.length - 2).toInt < 0 := by
      rw [fb_subI (by rw [nI_toInt (by omega)]; simp only [Int32.reduceToInt]; omega) (by rw [nI_toInt (by omega)]; simp only [Int32.reduceToInt]; omega), nI_toInt (by omega)]
      simp only [Int32.reduceToInt]; omega
    rw [if_pos h3]
    match rs, e with
    | [], _ => rfl
    | [a], _ => rfl
    | a :: b :: l, e => exact absurd e (by simp)
  · have h3 : nI rs.length - 2 = nI (rs.length - 2) := nI_sub (b := 2) (by omega) (by omega)
    rw [h3, if_neg (by rw [nI_toInt (by omega)]; omega), nI_clamp (by omega), show rs.length - 1 - (rs.length - 2) = 1 by omega]
def qaS (T : Nat → Nat → Nat) (c set s : Nat) : Nat := if s = 99 then 0 else tm T c s 2 &&& set
theorem qaS_bit {T : Nat → Nat → Nat} {c set s x : Nat} (hsy : ∀ x y, x < c → y < c → T x y = T y x) (hs : s = 99 ∨ (set.testBit s = true ∧ s < c)) (hx : set.testBit x = true) (hxc : x < c) : (qaS T c set s).testBit x = seatQ T s x := by
  unfold qaS seatQ
  by_cases e : s = 99
  · rw [if_pos e, Nat.zero_testBit, decide_eq_false (fun q => q e)]; rfl
  · obtain ⟨h1, h2⟩ := hs.resolve_left e
    rw [if_neg e, tm_bit hx hxc, decide_eq_true e, Bool.true_and, hsy s x h2 hxc]
def rcmS (T : Nat → Nat → Nat) (c set old left : Nat) (rs : List Nat) : Nat := clr (if rs.length % 2 = 1 then clr left (qaS T c set (rs.getD 0 99)) else left &&& old) (qaS T c set (rs.getD 1 99))
theorem rcmS_le (T : Nat → Nat → Nat) (c set old left : Nat) (rs : List Nat) : rcmS T c set old left rs ≤ left := by
  unfold rcmS
  refine Nat.le_trans (clr_le _ _) ?_
  split
  · exact clr_le _ _
  · exact Nat.and_le_left
theorem rcmS_bit {T : Nat → Nat → Nat} {ag : Nat → Nat} {c set old left r : Nat} {rs : List Nat} (hsy : ∀ x y, x < c → y < c → T x y = T y x) (hold : ∀ x, x < c → old.testBit x = decide (r ≤ ag x)) (hset : set < 2 ^ c) (hl : lfS set rs left) (h0 : rs.getD 0 99 = 99 ∨ (set.testBit (rs.getD 0 99) = true ∧ rs.getD 0 99 < c)) (h1 : rs.getD 1 99 = 99 ∨ (set.testBit (rs.getD 1 99) = true ∧ rs.getD 1 99 < c)) (x : Nat) : (rcmS T c set old left rs).testBit x = cdS set T ag r rs x := by
  have hlx := hl x
  unfold rcmS cdS
  rw [clr_bit]
  by_cases hs : set.testBit x = true
  · have hxc : x < c := by
      by_cases e : x < c
      · exact e
      · rw [Nat.testBit_lt_two_pow (Nat.lt_of_lt_of_le hset (Nat.pow_le_pow_right (by decide) (by omega)))] at hs; cases hs
    rw [qaS_bit hsy h1 hs hxc, hs, Bool.true_and]
    rw [hs, Bool.true_and] at hlx
    unfold okS
    by_cases hp : rs.length % 2 = 1
    · rw [if_pos hp, clr_bit, qaS_bit hsy h0 hs hxc, hlx, decide_eq_true hp]
      cases rs.contains x <;> cases seatQ T (rs.getD 0 99) x <;> cases seatQ T (rs.getD 1 99) x <;> rfl
    · rw [if_neg hp, Nat.testBit_and, hold x hxc, hlx, decide_eq_false hp]
      cases rs.contains x <;> cases decide (r ≤ ag x) <;> cases seatQ T (rs.getD 1 99) x <;> cases seatQ T (rs.getD 0 99) x <;> rfl
  · have hs0 := eq_false_of_ne_true hs
    rw [hs0, Bool.false_and] at hlx
    rw [hs0, Bool.false_and]
    by_cases hp : rs.length % 2 = 1
    · rw [if_pos hp, clr_bit, hlx]; rfl
    · rw [if_neg hp, Nat.testBit_and, hlx]; rfl
theorem fillX_pop {cd : List Nat → Nat → Bool} {emp m : Nat} {rs : List Nat} (h : ∀ x, m.testBit x = cd rs x) : ∀ (d x : Nat), 10 - x ≤ d → x ≤ 10 → (fillX cd emp 0 rs x).length + pop m x = pop m 10
  | 0, x, hd, hx => by rw [fillX_end _ _ _ _ (by omega), show x = 10 by omega]; exact Nat.zero_add _
  | d + 1, x, hd, hx => by
    by_cases e : x < 10
    · have ih := fillX_pop (emp := emp) h d (x + 1) (by omega) (by omega)
      have hp : pop m (x + 1) = pop m x + (if m.testBit x = true then 1 else 0) := rfl
      rw [hp, h x] at ih
      by_cases hc : cd rs x = true
      · rw [if_pos hc] at ih
        rw [fillX_yes e hc, List.length_append, fillS, List.length_singleton]
        omega
      · rw [if_neg hc] at ih
        rw [fillX_no e (eq_false_of_ne_true hc)]
        omega
    · rw [fillX_end _ _ _ _ (by omega), show x = 10 by omega]; exact Nat.zero_add _
set_option maxHeartbeats 4000000 in
set_option maxRecDepth 100000 in
theorem c_X5_quarrelsAt {ad : Nat → Nat} {I : KI} {J : KJ} {t : Nat} {loops c set : Nat} {T : Nat → Nat → Nat} {rs : List Nat} (hc10 : c ≤ 10) (hL : I 57 5 = nI loops) (hl8 : loops ≤ 8) (hr : rowA I 60 rs) (hlen : rs.length ≤ loops) (hin : ∀ i, rs.getD i 99 = 99 ∨ (set.testBit (rs.getD i 99) = true ∧ rs.getD i 99 < c)) (hq : ∀ x, x < c → I 59 x = nI (tm T c x 2 &&& set)) {v : Int32} (hv : v.toInt < 0 ∨ isN rs.length v) {Q : Int32 → KI → KJ → KR → Prop} (hQ : Q (nI (qaS T c set (satS rs v))) I J (rf t)) : Mi 1 yX5_quarrelsAt (wm yX5_quarrelsAt cX5_quarrelsAt 2 (some .int)) [.ref (ad 57), .int (v)] ad I J (rf t) Q := by
  refine mi_of (own := RX5) yk_X5_quarrelsAt rfl (Nat.le_of_ble_eq_true rfl) rfl (fun X hA hnL C K E => ?_)
  subst hA
  refine z_iload_n (n := 1) C 1 dX5_quarrelsAt_0 rfl rfl ?_
  refine z_if_lt (tgt := 35) (n := 4) C dX5_quarrelsAt_1 rfl rfl (fun c1 => ?_) (fun c1 => ?_)
  · refine z_iconst (n := 36) (v := 0) C dX5_quarrelsAt_35 rfl rfl ?_
    refine z_iret C E dX5_quarrelsAt_36 ?_
    rw [fa_lt] at c1
    simp only [Int32.reduceToInt] at c1
    exact eqQ (by unfold satS; rw [if_pos c1]; rfl) hQ
  · rw [fa_lt] at c1
    simp only [Int32.reduceToInt] at c1
    obtain ⟨i, hi, rfl⟩ := isN_of (hv.resolve_left c1)
    have ebt : satS rs (nI i) = rs.getD (rs.length - 1 - i) 99 := by unfold satS; rw [if_neg (by rw [nI_toInt (by omega)]; omega), nI_clamp (by omega)]
    obtain ⟨s, es⟩ : ∃ s, rs.getD (rs.length - 1 - i) 99 = s := ⟨_, rfl⟩
    have hsb := hin (rs.length - 1 - i)
    rw [es] at hsb ebt
    refine z_iload_n (n := 5) C 1 dX5_quarrelsAt_4 rfl rfl ?_
    refine z_aload_n (n := 6) C 0 dX5_quarrelsAt_5 rfl rfl ?_
    refine z_getI (n := 9) C K fF_RX5_28 dX5_quarrelsAt_6 rfl sh_57 (by decide) ?_
    rw [hL]
    refine z_icmpF_ge (n := 12) (tgt := 35) C (by rw [fa_le, nI_toInt (by omega), nI_toInt (by omega)]; omega) dX5_quarrelsAt_9 rfl rfl ?_
    refine z_aload_n (n := 13) C 0 dX5_quarrelsAt_12 rfl rfl ?_
    refine z_getR (n := 16) (q := 60) C K fF_RX5_18 dX5_quarrelsAt_13 rfl rfl sh_57 (by decide) rfl ?_
    refine z_iload_n (n := 17) C 1 dX5_quarrelsAt_16 rfl rfl ?_
    refine z_ialdN (n := 18) C K i dX5_quarrelsAt_17 rfl sh_60 (by decide) rfl (by omega) (by decide) ?_
    rw [hr i hi, es]
    refine z_if_lt (tgt := 35) (n := 21) C dX5_quarrelsAt_18 rfl rfl (fun c18 => ?_) (fun c18 => ?_)
    · refine z_iconst (n := 36) (v := 0) C dX5_quarrelsAt_35 rfl rfl ?_
      refine z_iret C E dX5_quarrelsAt_36 ?_
      have hs99 : s = 99 := by
        by_cases e : s = 99
        · exact e
        · exfalso
          have hs10 := (hsb.resolve_left e).2
          rw [show seatI s = nI s from if_neg e, fa_lt, nI_toInt (by omega)] at c18
          simp only [Int32.reduceToInt] at c18
          omega
      exact eqQ (by rw [ebt, hs99]; rfl) hQ
    · have hs99 : s ≠ 99 := fun e => by rw [e] at c18; exact absurd c18 (by decide)
      have hsc := (hsb.resolve_left hs99).2
      refine z_aload_n (n := 22) C 0 dX5_quarrelsAt_21 rfl rfl ?_
      refine z_getR (n := 25) (q := 59) C K fF_RX5_15 dX5_quarrelsAt_22 rfl rfl sh_57 (by decide) rfl ?_
      refine z_aload_n (n := 26) C 0 dX5_quarrelsAt_25 rfl rfl ?_
      refine z_getR (n := 29) (q := 60) C K fF_RX5_18 dX5_quarrelsAt_26 rfl rfl sh_57 (by decide) rfl ?_
      refine z_iload_n (n := 30) C 1 dX5_quarrelsAt_29 rfl rfl ?_
      refine z_ialdN (n := 31) C K i dX5_quarrelsAt_30 rfl sh_60 (by decide) rfl (by omega) (by decide) ?_
      rw [hr i hi, es, show seatI s = nI s from if_neg hs99]
      refine z_ialdN (n := 32) C K s dX5_quarrelsAt_31 rfl sh_59 (by decide) rfl (by omega) (by decide) ?_
      rw [hq s hsc]
      refine z_goto (n := 36) C dX5_quarrelsAt_32 rfl ?_
      refine z_iret C E dX5_quarrelsAt_36 ?_
      exact eqQ (by rw [ebt]; unfold qaS; rw [if_neg hs99]) hQ
set_option maxHeartbeats 4000000 in
set_option maxRecDepth 100000 in
theorem c_X5_mayCome {ad : Nat → Nat} {I : KI} {J : KJ} {t : Nat} {cnt loops emp W old c set r : Nat} {T : Nat → Nat → Nat} {ag : Nat → Nat} (hc10 : c ≤ 10) (hset : set < 2 ^ c) (hl8 : loops ≤ 8) (hW : W < 1024) (hold : ∀ x, x < c → old.testBit x = decide (r ≤ ag x)) (hold2 : old < 1024) (hWb : ∀ x y, set.testBit x = true → set.testBit y = true → T x y = 1 → W.testBit x = true ∧ W.testBit y = true) (hemp : emp % 2 = 0) (hemp2 : emp ≤ 98) (hC : rpC I cnt loops emp W old c (fun x => tm T c x 1 &&& set) (fun x => tm T c x 2 &&& set)) {rs : List Nat} (hlen : rs.length ≤ loops) (hr : rowA I 60 rs) (hin : ∀ y, y ∈ rs → y = 99 ∨ set.testBit y = true) {left : Nat} {Q : Int32 → KI → KJ → KR → Prop} (hQ : Q (nI (rcmS T c set old left rs)) I J (rf t)) : Mi 2 yX5_mayCome (wm yX5_mayCome cX5_mayCome 4 (some .int)) [.ref (ad 57), .int (nI rs.length), .int (nI left)] ad I J (rf t) Q := by
  refine mi_of (own := RX5) yk_X5_mayCome rfl (Nat.le_of_ble_eq_true rfl) rfl (fun X hA hnL C K E => ?_)
  subst hA
  have h1024 : 2 ^ c ≤ 2 ^ 10 := Nat.pow_le_pow_right (by decide) hc10
  have hs1024 : set < 1024 := by omega
  have hgi := getD_in hin
  have hgl : ∀ i, rs.getD i 99 = 99 ∨ rs.getD i 99 < 10 := fun i => (hgi i).imp id (fun q => bit_lt10 hs1024 q)
  have hgc : ∀ i, rs.getD i 99 = 99 ∨ (set.testBit (rs.getD i 99) = true ∧ rs.getD i 99 < c) := fun i => (hgi i).imp id (fun q => ⟨q, by
    by_cases e : rs.getD i 99 < c
    · exact e
    · rw [Nat.testBit_lt_two_pow (Nat.lt_of_lt_of_le hset (Nat.pow_le_pow_right (by decide) (by omega)))] at q; cases q⟩)
  have hbt0 := btS_lt hs1024 (hgi 0)
  have hbt1 := btS_lt hs1024 (hgi 1)
  refine z_iload_n (n := 1) C 1 dX5_mayCome_0 rfl rfl ?_
  refine z_si_1 (n := 4) (d' := 1) C K dX5_mayCome_1 rfl yk_X5_isBeside kT_yX5_isBeside kM_RX5_82 (by decide) hR0 rfl ?_
  refine c_X5_isBeside (by omega) (fun b1 => ?_) (fun b1 => ?_)
  · refine z_ifF_eq (n := 7) (tgt := 21) C (by decide) dX5_mayCome_4 rfl rfl ?_
    refine z_iload_n (n := 8) C 2 dX5_mayCome_7 rfl rfl ?_
    refine z_aload_n (n := 9) C 0 dX5_mayCome_8 rfl rfl ?_
    refine z_iload_n (n := 10) C 1 dX5_mayCome_9 rfl rfl ?_
    refine z_iconst (n := 11) (v := 1) C dX5_mayCome_10 rfl rfl ?_
    refine z_isub (n := 12) C dX5_mayCome_11 rfl ?_
    rw [nI_s1 _ (by omega)]
    refine z_vi_1 (n := 15) (d' := 1) C K dX5_mayCome_12 rfl yk_X5_quarrelsAt yv_X5_quarrelsAt kM_RX5_89 (by decide) hR0 rfl rfl sh_57 (by decide) (by decide) ?_
    refine c_X5_quarrelsAt (T := T) (set := set) hc10 hC.2.1 hl8 hr hlen hgc (fun x hx => (hC.2.2.2.2.2 x hx).2) (Or.inr (isN_nI (by omega) (by omega))) ?_
    rw [satS_1 (by omega) (by omega)]
    refine z_iconst (n := 16) (v := (-1)) C dX5_mayCome_15 rfl rfl ?_
    refine z_ixor (n := 17) C dX5_mayCome_16 rfl ?_
    refine z_iand (n := 18) C dX5_mayCome_17 rfl ?_
    rw [clr_nI]
    refine z_goto (n := 27) C dX5_mayCome_18 rfl ?_
    have eop : (if rs.length % 2 = 1 then clr left (qaS T c set (rs.getD 0 99)) else left &&& old) = clr left (qaS T c set (rs.getD 0 99)) := if_pos b1
    rw [← eop]
    refine z_istore_n (n := 28) (L' := [(3, _), (0, _), (1, _), (2, _)]) C dX5_mayCome_27 rfl (by rw [hnL]; decide) rfl ?_
    refine z_iload_n (n := 29) C 0 dX5_mayCome_28 rfl rfl ?_
    refine z_aload_n (n := 30) C 1 dX5_mayCome_29 rfl rfl ?_
    refine z_iload_n (n := 31) C 2 dX5_mayCome_30 rfl rfl ?_
    refine z_iconst (n := 32) (v := 2) C dX5_mayCome_31 rfl rfl ?_
    refine z_isub (n := 33) C dX5_mayCome_32 rfl ?_
    refine z_vi_1 (n := 36) (d' := 1) C K dX5_mayCome_33 rfl yk_X5_quarrelsAt yv_X5_quarrelsAt kM_RX5_89 (by decide) hR0 rfl rfl sh_57 (by decide) (by decide) ?_
    refine c_X5_quarrelsAt (T := T) (set := set) hc10 hC.2.1 hl8 hr hlen hgc (fun x hx => (hC.2.2.2.2.2 x hx).2) (two_neg _ (by omega)) ?_
    rw [satS_2 (by omega)]
    refine z_iconst (n := 37) (v := (-1)) C dX5_mayCome_36 rfl rfl ?_
    refine z_ixor (n := 38) C dX5_mayCome_37 rfl ?_
    refine z_iand (n := 39) C dX5_mayCome_38 rfl ?_
    rw [clr_nI]
    refine z_iret C E dX5_mayCome_39 ?_
    exact hQ
  · refine z_ifT_eq (tgt := 21) C (by decide) dX5_mayCome_4 rfl ?_
    refine z_iload_n (n := 22) C 2 dX5_mayCome_21 rfl rfl ?_
    refine z_aload_n (n := 23) C 0 dX5_mayCome_22 rfl rfl ?_
    refine z_getI (n := 26) C K fF_RX5_35 dX5_mayCome_23 rfl sh_57 (by decide) ?_
    rw [hC.2.2.2.1]
    refine z_iand (n := 27) C dX5_mayCome_26 rfl ?_
    rw [and_nI]
    have eop : (if rs.length % 2 = 1 then clr left (qaS T c set (rs.getD 0 99)) else left &&& old) = left &&& old := if_neg b1
    rw [← eop]
    refine z_istore_n (n := 28) (L' := [(3, _), (0, _), (1, _), (2, _)]) C dX5_mayCome_27 rfl (by rw [hnL]; decide) rfl ?_
    refine z_iload_n (n := 29) C 0 dX5_mayCome_28 rfl rfl ?_
    refine z_aload_n (n := 30) C 1 dX5_mayCome_29 rfl rfl ?_
    refine z_iload_n (n := 31) C 2 dX5_mayCome_30 rfl rfl ?_
    refine z_iconst (n := 32) (v := 2) C dX5_mayCome_31 rfl rfl ?_
    refine z_isub (n := 33) C dX5_mayCome_32 rfl ?_
    refine z_vi_1 (n := 36) (d' := 1) C K dX5_mayCome_33 rfl yk_X5_quarrelsAt yv_X5_quarrelsAt kM_RX5_89 (by decide) hR0 rfl rfl sh_57 (by decide) (by decide) ?_
    refine c_X5_quarrelsAt (T := T) (set := set) hc10 hC.2.1 hl8 hr hlen hgc (fun x hx => (hC.2.2.2.2.2 x hx).2) (two_neg _ (by omega)) ?_
    rw [satS_2 (by omega)]
    refine z_iconst (n := 37) (v := (-1)) C dX5_mayCome_36 rfl rfl ?_
    refine z_ixor (n := 38) C dX5_mayCome_37 rfl ?_
    refine z_iand (n := 39) C dX5_mayCome_38 rfl ?_
    rw [clr_nI]
    refine z_iret C E dX5_mayCome_39 ?_
    exact hQ
set_option maxHeartbeats 4000000 in
set_option maxRecDepth 100000 in
theorem c_X5_hope {ad : Nat → Nat} {I : KI} {J : KJ} {t : Nat} {cnt loops emp W old c set r : Nat} {T : Nat → Nat → Nat} {ag : Nat → Nat} (hc10 : c ≤ 10) (hset : set < 2 ^ c) (hl8 : loops ≤ 8) (hW : W < 1024) (hold : ∀ x, x < c → old.testBit x = decide (r ≤ ag x)) (hold2 : old < 1024) (hWb : ∀ x y, set.testBit x = true → set.testBit y = true → T x y = 1 → W.testBit x = true ∧ W.testBit y = true) (hemp : emp % 2 = 0) (hemp2 : emp ≤ 98) (hC : rpC I cnt loops emp W old c (fun x => tm T c x 1 &&& set) (fun x => tm T c x 2 &&& set)) {rs : List Nat} (hlen : rs.length ≤ loops) (hr : rowA I 60 rs) (hin : ∀ y, y ∈ rs → y = 99 ∨ set.testBit y = true) {left : Nat} (hlt : left < 1024) {Q : Int32 → KI → KJ → KR → Prop} (hQ : Q (nI (hpS W left rs)) I J (rf t)) : Mi 2 yX5_hope (wm yX5_hope cX5_hope 4 (some .int)) [.ref (ad 57), .int (nI rs.length), .int (nI left)] ad I J (rf t) Q := by
  refine mi_of (own := RX5) yk_X5_hope rfl (Nat.le_of_ble_eq_true rfl) rfl (fun X hA hnL C K E => ?_)
  subst hA
  have h1024 : 2 ^ c ≤ 2 ^ 10 := Nat.pow_le_pow_right (by decide) hc10
  have hs1024 : set < 1024 := by omega
  have hgi := getD_in hin
  have hgl : ∀ i, rs.getD i 99 = 99 ∨ rs.getD i 99 < 10 := fun i => (hgi i).imp id (fun q => bit_lt10 hs1024 q)
  have hgc : ∀ i, rs.getD i 99 = 99 ∨ (set.testBit (rs.getD i 99) = true ∧ rs.getD i 99 < c) := fun i => (hgi i).imp id (fun q => ⟨q, by
    by_cases e : rs.getD i 99 < c
    · exact e
    · rw [Nat.testBit_lt_two_pow (Nat.lt_of_lt_of_le hset (Nat.pow_le_pow_right (by decide) (by omega)))] at q; cases q⟩)
  have hbt0 := btS_lt hs1024 (hgi 0)
  have hbt1 := btS_lt hs1024 (hgi 1)
  refine z_iload_n (n := 1) C 1 dX5_hope_0 rfl rfl ?_
  refine z_si_1 (n := 4) (d' := 1) C K dX5_hope_1 rfl yk_X5_isBeside kT_yX5_isBeside kM_RX5_82 (by decide) hR0 rfl ?_
  refine c_X5_isBeside (by omega) (fun b1 => ?_) (fun b1 => ?_)
  · refine z_ifF_eq (n := 7) (tgt := 19) C (by decide) dX5_hope_4 rfl rfl ?_
    refine z_iload_n (n := 8) C 2 dX5_hope_7 rfl rfl ?_
    refine z_aload_n (n := 9) C 0 dX5_hope_8 rfl rfl ?_
    refine z_iload_n (n := 10) C 1 dX5_hope_9 rfl rfl ?_
    refine z_iconst (n := 11) (v := 1) C dX5_hope_10 rfl rfl ?_
    refine z_isub (n := 12) C dX5_hope_11 rfl ?_
    rw [nI_s1 _ (by omega)]
    refine z_vi_1 (n := 15) (d' := 1) C K dX5_hope_12 rfl yk_X5_bitAt yv_X5_bitAt kM_RX5_86 (by decide) hR0 rfl rfl sh_57 (by decide) (by decide) ?_
    refine c_X5_bitAt hC.2.1 hl8 hr hlen hgl (Or.inr (isN_nI (by omega) (by omega))) ?_
    rw [bAt_1 (by omega) (by omega)]
    refine z_ior (n := 16) C dX5_hope_15 rfl ?_
    rw [or_nI]
    refine z_goto (n := 20) C dX5_hope_16 rfl ?_
    have eop : opS left rs = left ||| btS (rs.getD 0 99) := by unfold opS; rw [if_pos b1]
    rw [← eop]
    have hand : opS left rs &&& W < 1024 := Nat.lt_of_le_of_lt Nat.and_le_right hW
    refine z_istore_n (n := 21) (L' := [(3, _), (0, _), (1, _), (2, _)]) C dX5_hope_20 rfl (by rw [hnL]; decide) rfl ?_
    refine z_iload_n (n := 22) C 0 dX5_hope_21 rfl rfl ?_
    refine z_aload_n (n := 23) C 1 dX5_hope_22 rfl rfl ?_
    refine z_getI (n := 26) C K fF_RX5_38 dX5_hope_23 rfl sh_57 (by decide) ?_
    rw [hC.2.2.2.2.1]
    refine z_iand (n := 27) C dX5_hope_26 rfl ?_
    rw [and_nI]
    refine z_si_1 (n := 30) (d' := 1) C K dX5_hope_27 rfl yk_J6_bitCount_0f7a4 kT_yJ6_bitCount_0f7a4 kM_RX5_56 (by decide) hR0 rfl ?_
    refine c_J6_bitCount_0f7a4 hand ?_
    rw [popS_of (show opS left rs &&& W < 2 ^ 10 from hand) (by decide)]
    have hpl := pop_le (opS left rs &&& W) 10
    refine z_iconst (n := 31) (v := 2) C dX5_hope_30 rfl rfl ?_
    refine z_idiv (n := 32) C dX5_hope_31 rfl (by decide) ?_
    refine z_iret C E dX5_hope_32 ?_
    exact eqQ (by rw [show (2 : Int32) = nI 2 from rfl, pk_div (by omega) (by decide) (by decide)]; rfl) hQ
  · refine z_ifT_eq (tgt := 19) C (by decide) dX5_hope_4 rfl ?_
    refine z_iload_n (n := 20) C 2 dX5_hope_19 rfl rfl ?_
    have eop : opS left rs = left := by unfold opS; rw [if_neg b1]
    rw [← eop]
    have hand : opS left rs &&& W < 1024 := Nat.lt_of_le_of_lt Nat.and_le_right hW
    refine z_istore_n (n := 21) (L' := [(3, _), (0, _), (1, _), (2, _)]) C dX5_hope_20 rfl (by rw [hnL]; decide) rfl ?_
    refine z_iload_n (n := 22) C 0 dX5_hope_21 rfl rfl ?_
    refine z_aload_n (n := 23) C 1 dX5_hope_22 rfl rfl ?_
    refine z_getI (n := 26) C K fF_RX5_38 dX5_hope_23 rfl sh_57 (by decide) ?_
    rw [hC.2.2.2.2.1]
    refine z_iand (n := 27) C dX5_hope_26 rfl ?_
    rw [and_nI]
    refine z_si_1 (n := 30) (d' := 1) C K dX5_hope_27 rfl yk_J6_bitCount_0f7a4 kT_yJ6_bitCount_0f7a4 kM_RX5_56 (by decide) hR0 rfl ?_
    refine c_J6_bitCount_0f7a4 hand ?_
    rw [popS_of (show opS left rs &&& W < 2 ^ 10 from hand) (by decide)]
    have hpl := pop_le (opS left rs &&& W) 10
    refine z_iconst (n := 31) (v := 2) C dX5_hope_30 rfl rfl ?_
    refine z_idiv (n := 32) C dX5_hope_31 rfl (by decide) ?_
    refine z_iret C E dX5_hope_32 ?_
    exact eqQ (by rw [show (2 : Int32) = nI 2 from rfl, pk_div (by omega) (by decide) (by decide)]; rfl) hQ
set_option maxHeartbeats 4000000 in
set_option maxRecDepth 100000 in
theorem l_X5_take {X : KX} {J : KJ} {t : Nat} (C : Cx X RX5 cX5_take 1) (K : Kx X) (hnL : xnL X = 3) {Q : KI → KJ → KR → Prop} (E : Ev X Q) {I : KI} {loops : Nat} {rs : List Nat} {av : Int32} (hl8 : loops ≤ 8) (hL : I 57 5 = nI loops) (hlen : rs.length = loops) (hr : rowA I 60 rs) (hQ : ∀ I1, (∀ q, q ≠ 61 → I1 q = I q) → rowA I1 61 rs → Q I1 J (rf t)) : ∀ (f i : Nat) (I1 : KI), loops - i < f → (i ≤ loops ∧ (∀ q, q ≠ 61 → I1 q = I q) ∧ ∀ j, j < i → I1 61 j = I 60 j) → Z X 0 0 (V X I1 J (rf t)) 15 [(2, .int (nI i)), (0, .ref (xad X 57)), (1, .int av)] [] := by
  intro f
  induction f with
  | zero => intro i I1 h; omega
  | succ f ih =>
    intro i I1 hf hi
    obtain ⟨hil, hfr, hv⟩ := hi
    refine z_iload_n (n := 16) C 0 dX5_take_15 rfl rfl ?_
    refine z_aload_n (n := 17) C 1 dX5_take_16 rfl rfl ?_
    refine z_getI (n := 20) C K fF_RX5_28 dX5_take_17 rfl sh_57 (by decide) ?_
    rw [hfr 57 (by decide), hL]
    refine z_icmp_ge (tgt := 41) (n := 23) C dX5_take_20 rfl rfl (fun c20 => ?_) (fun c20 => ?_)
    · refine z_vret C E dX5_take_41 ?_
      rw [fa_le, nI_toInt (by omega), nI_toInt (by omega)] at c20
      exact hQ I1 hfr (fun j hj => by rw [hv j (by omega)]; exact hr j hj)
    · rw [fa_le, nI_toInt (by omega), nI_toInt (by omega)] at c20
      refine z_aload_n (n := 24) C 1 dX5_take_23 rfl rfl ?_
      refine z_getR (n := 27) (q := 61) C K fF_RX5_21 dX5_take_24 rfl rfl sh_57 (by decide) rfl ?_
      refine z_iload_n (n := 28) C 0 dX5_take_27 rfl rfl ?_
      refine z_aload_n (n := 29) C 1 dX5_take_28 rfl rfl ?_
      refine z_getR (n := 32) (q := 60) C K fF_RX5_18 dX5_take_29 rfl rfl sh_57 (by decide) rfl ?_
      refine z_iload_n (n := 33) C 0 dX5_take_32 rfl rfl ?_
      refine z_ialdN (n := 34) C K i dX5_take_33 rfl sh_60 (by decide) rfl (by omega) (by decide) ?_
      rw [hfr 60 (by decide)]
      refine z_iastN (n := 35) C K i dX5_take_34 rfl sh_61 (by decide) rfl (by omega) (by decide) ?_
      refine z_iincG (n := 38) (c := 1) (L' := [(2, _), (0, _), (1, _)]) C 0 dX5_take_35 rfl rfl rfl (by rw [hnL]; decide) rfl ?_
      refine z_goto (n := 15) C dX5_take_38 rfl ?_
      rw [nI_1]
      exact ih (i + 1) _ (by omega) ⟨by omega, fun q hq => by rw [upI_row _ _ hq]; exact hfr q hq, fun j hj => by
        by_cases e : j = i
        · subst e; rw [upI_same]
        · rw [upI_k _ _ e]; exact hv j (by omega)⟩
set_option maxHeartbeats 4000000 in
set_option maxRecDepth 100000 in
theorem c_X5_take {ad : Nat → Nat} {I : KI} {J : KJ} {t : Nat} {cnt loops emp W old c set : Nat} {T : Nat → Nat → Nat} (hC : rpC I cnt loops emp W old c (fun x => tm T c x 1 &&& set) (fun x => tm T c x 2 &&& set)) (hl8 : loops ≤ 8) {rs : List Nat} {f : Nat} {b : Nat × List Nat} (hlen : rs.length = loops) (hr : rowA I 60 rs) (hF : I 57 9 = nI f) (hB : I 57 10 = nI b.1 + (-1)) (hb10 : b.1 ≤ 10) (hbs : b.1 ≠ 0 → rowA I 61 b.2 ∧ b.2.length = loops)  {Q : KI → KJ → KR → Prop} (hQ : ∀ I', (∀ q, q ≠ 57 → q ≠ 61 → I' q = I q) → (∀ j, j ≠ 9 → j ≠ 10 → I' 57 j = I 57 j) → I' 57 9 = nI f → I' 57 10 = nI (bsF (rowF T) [rs] b).1 + (-1) → (bsF (rowF T) [rs] b).1 ≤ 10 → ((bsF (rowF T) [rs] b).1 ≠ 0 → rowA I' 61 (bsF (rowF T) [rs] b).2 ∧ (bsF (rowF T) [rs] b).2.length = loops) → Q I' J (rf t))  : Mv 1 yX5_take (wm yX5_take cX5_take 3 none) [.ref (ad 57), .int (nI (rowS T rs))] ad I J (rf t) Q := by
  refine mv_of (own := RX5) yk_X5_take rfl (Nat.le_of_ble_eq_true rfl) rfl (fun X hA hnL C K E => ?_)
  subst hA
  have hrl := rowS_le T rs
  refine z_iload_n (n := 1) C 1 dX5_take_0 rfl rfl ?_
  refine z_aload_n (n := 2) C 0 dX5_take_1 rfl rfl ?_
  refine z_getI (n := 5) C K fF_RX5_44 dX5_take_2 rfl sh_57 (by decide) ?_
  rw [hB]
  refine z_icmp_le (tgt := 41) (n := 8) C dX5_take_5 rfl rfl (fun c5 => ?_) (fun c5 => ?_)
  · refine z_vret C E dX5_take_41 ?_
    rw [fa_le, nI_m1 _ (by omega), nI_toInt (by omega)] at c5
    have ebn : bsF (rowF T) [rs] b = b := by rw [bsF, if_neg (show ¬ b.1 < rowF T rs by unfold rowF; omega)]; rfl
    exact hQ _ (fun _ _ _ => rfl) (fun _ _ _ => rfl) hF (by rw [ebn]; exact hB) (by rw [ebn]; exact hb10) (by rw [ebn]; exact hbs)
  · rw [fa_le, nI_m1 _ (by omega), nI_toInt (by omega)] at c5
    have hlt : b.1 < rowF T rs := by unfold rowF; omega
    have ebn : bsF (rowF T) [rs] b = (rowF T rs, rs) := by rw [bsF, if_pos hlt]; rfl
    refine z_aload_n (n := 9) C 0 dX5_take_8 rfl rfl ?_
    refine z_iload_n (n := 10) C 1 dX5_take_9 rfl rfl ?_
    refine z_putI (n := 13) C K fF_RX5_44 dX5_take_10 rfl sh_57 (by decide) ?_
    refine z_iconst (n := 14) (v := 0) C dX5_take_13 rfl rfl ?_
    refine z_istore_n (n := 15) (L' := [(2, _), (0, _), (1, _)]) C dX5_take_14 rfl (by rw [hnL]; decide) rfl ?_
    refine l_X5_take C K hnL E (I := upI I 57 10 (nI (rowS T rs))) hl8 (by rw [upI_k _ _ (by decide)]; exact hC.2.1) hlen (hr.fr (fun i _ => by rw [upI_row _ _ (by decide)])) (fun I1 hf1 hr1 => ?_) (loops + 1) 0 _ (by omega) ⟨Nat.zero_le _, fun _ _ => rfl, fun j hj => by omega⟩
    refine hQ I1 (fun q q1 q2 => by rw [hf1 q q2, upI_row _ _ q1]) (fun j j1 j2 => by rw [hf1 57 (by decide), upI_k _ _ j2]) (by rw [hf1 57 (by decide), upI_k _ _ (by decide)]; exact hF) (by rw [hf1 57 (by decide), upI_same, ebn]; exact nI_back _) (by rw [ebn]; show rowF T rs ≤ 10; unfold rowF; omega) (fun _ => by rw [ebn]; exact ⟨hr1, hlen⟩)
set_option maxHeartbeats 4000000 in
set_option maxRecDepth 100000 in
theorem fill_0 {ad : Nat → Nat} {J : KJ} {t : Nat} {cnt loops emp W old c set r : Nat} {T : Nat → Nat → Nat} {ag : Nat → Nat} (hc10 : c ≤ 10) (hset : set < 2 ^ c) (hl8 : loops ≤ 8) (hW : W < 1024) (hold : ∀ x, x < c → old.testBit x = decide (r ≤ ag x)) (hold2 : old < 1024) (hWb : ∀ x y, set.testBit x = true → set.testBit y = true → T x y = 1 → W.testBit x = true ∧ W.testBit y = true) (hemp : emp % 2 = 0) (hemp2 : emp ≤ 98) (hcnt : cnt ≤ 1) (hlev : loops % 2 = 0) (hsy : ∀ x y, x < c → y < c → T x y = T y x) : fillP ad J t cnt loops emp W old c set r T ag 0 := by
  intro I rs left f b Q hlk hk1 hC hr hin hl hlt hF hB hb10 hbs hQ
  refine mv_of (own := RX5) yk_X5_fill rfl (Nat.le_of_ble_eq_true rfl) rfl (fun X hA hnL C K E => ?_)
  subst hA
  refine z_iload_n (n := 1) C 1 dX5_fill_0 rfl rfl ?_
  refine z_aload_n (n := 2) C 0 dX5_fill_1 rfl rfl ?_
  refine z_getI (n := 5) C K fF_RX5_28 dX5_fill_2 rfl sh_57 (by decide) ?_
  rw [hC.2.1]
  refine z_icmpF_lt (n := 8) (tgt := 14) C (by rw [fa_lt, nI_toInt (by omega), nI_toInt (by omega)]; omega) dX5_fill_5 rfl rfl ?_
  refine z_aload_n (n := 9) C 0 dX5_fill_8 rfl rfl ?_
  refine z_iload_n (n := 10) C 3 dX5_fill_9 rfl rfl ?_
  refine z_vv_1 (n := 13) (d' := 1) C K dX5_fill_10 rfl yk_X5_take yv_X5_take kM_RX5_72 (by decide) hR0 rfl rfl sh_57 (by decide) (by decide) ?_
  refine c_X5_take (T := T) hC hl8 (by omega) hr hF hB hb10 hbs (fun I2 hf2 hj2 h9 h10 hb2 hs2 => ?_)
  refine z_vret C E dX5_fill_13 ?_
  exact hQ I2 f _ (fun q q1 _ q3 => hf2 q q1 q3) hj2 (fun i _ => by rw [hf2 60 (by decide) (by decide)]) (fun e => absurd (hk1 e) (by decide)) (fun _ => rfl) h9 h10 hb2 hs2
set_option maxHeartbeats 4000000 in
set_option maxRecDepth 100000 in
theorem fill_L {X : KX} {J : KJ} {t k : Nat} (C : Cx X RX5 cX5_fill (k + 1 + 3)) (K : Kx X) (hnL : xnL X = 7) {cnt loops emp W old c set r : Nat} {T : Nat → Nat → Nat} {ag : Nat → Nat} (hc10 : c ≤ 10) (hset : set < 2 ^ c) (hl8 : loops ≤ 8) (hW : W < 1024) (hold : ∀ x, x < c → old.testBit x = decide (r ≤ ag x)) (hold2 : old < 1024) (hWb : ∀ x y, set.testBit x = true → set.testBit y = true → T x y = 1 → W.testBit x = true ∧ W.testBit y = true) (hemp : emp % 2 = 0) (hemp2 : emp ≤ 98) (hcnt : cnt ≤ 1) (hlev : loops % 2 = 0) (hsy : ∀ x y, x < c → y < c → T x y = T y x) (hfill : fillP (xad X) J t cnt loops emp W old c set r T ag k) {Q : KI → KJ → KR → Prop} (E : Ev X Q) {I : KI} {rs : List Nat} {left f : Nat} {b : Nat × List Nat} (hlk : rs.length + (k + 1) = loops) (hk1 : cnt = 1 → 1 ≤ k) {op : Nat} (hop : ∀ x, op.testBit x = cdS set T ag r rs x) (hop10 : op < 1024) (hC : rpC I cnt loops emp W old c (fun x => tm T c x 1 &&& set) (fun x => tm T c x 2 &&& set)) (hr : rowA I 60 rs) (hin : ∀ y, y ∈ rs → y = 99 ∨ set.testBit y = true) (hl : lfS set rs left) (hlt : left < 1024) (hQ : ∀ I' f' b', (∀ q, q ≠ 57 → q ≠ 60 → q ≠ 61 → I' q = I q) → (∀ j, j ≠ 9 → j ≠ 10 → I' 57 j = I 57 j) → (∀ i, i < rs.length → I' 60 i = I 60 i) → (cnt = 1 → f' = f + (fillX (cdS set T ag r) emp k rs 0).length) → (cnt ≠ 1 → b' = bsF (rowF T) (fillX (cdS set T ag r) emp k rs 0) b) → I' 57 9 = nI f' → I' 57 10 = nI b'.1 + (-1) → b'.1 ≤ 10 → (b'.1 ≠ 0 → rowA I' 61 b'.2 ∧ b'.2.length = loops) → Q I' J (rf t)) : ∀ (g x : Nat) (I1 : KI) (f1 : Nat) (b1 : Nat × List Nat), 10 - x < g → (x ≤ 10 ∧ (∀ q, q ≠ 57 → q ≠ 60 → q ≠ 61 → I1 q = I q) ∧ (∀ j, j ≠ 9 → j ≠ 10 → I1 57 j = I 57 j) ∧ (∀ i, i < rs.length → I1 60 i = I 60 i) ∧ (cnt = 1 → f1 + (fillX (cdS set T ag r) emp k rs x).length = f + (fillX (cdS set T ag r) emp k rs 0).length) ∧ I1 57 9 = nI f1 ∧ I1 57 10 = nI b1.1 + (-1) ∧ b1.1 ≤ 10 ∧ (b1.1 ≠ 0 → rowA I1 61 b1.2 ∧ b1.2.length = loops) ∧ (cnt ≠ 1 → bsF (rowF T) (fillX (cdS set T ag r) emp k rs x) b1 = bsF (rowF T) (fillX (cdS set T ag r) emp k rs 0) b)) → Z X 0 0 (V X I1 J (rf t)) 106 [(5, .int (nI x)), (4, .int (nI op)), (0, .ref (xad X 57)), (1, .int (nI rs.length)), (2, .int (nI left)), (3, .int (nI (rowS T rs)))] [] := by
  intro g
  induction g with
  | zero => intro x I1 f1 b1 h; omega
  | succ g ih =>
    intro x I1 f1 b1 hf hi
    obtain ⟨hx10, hfr, hfj, hfs, hfc, h9, h10, hb1, hs1, hbf⟩ := hi
    have hlen : rs.length ≤ loops := by omega
    have h1024 : 2 ^ c ≤ 2 ^ 10 := Nat.pow_le_pow_right (by decide) hc10
    have hs1024 : set < 1024 := by omega
    have hgi := getD_in hin
    have hgl : ∀ i, rs.getD i 99 = 99 ∨ rs.getD i 99 < 10 := fun i => (hgi i).imp id (fun q => bit_lt10 hs1024 q)
    have hgc : ∀ i, rs.getD i 99 = 99 ∨ (set.testBit (rs.getD i 99) = true ∧ rs.getD i 99 < c) := fun i => (hgi i).imp id (fun q => ⟨q, by
      by_cases e : rs.getD i 99 < c
      · exact e
      · rw [Nat.testBit_lt_two_pow (Nat.lt_of_lt_of_le hset (Nat.pow_le_pow_right (by decide) (by omega)))] at q; cases q⟩)
    have hbt0 := btS_lt hs1024 (hgi 0)
    have hbt1 := btS_lt hs1024 (hgi 1)
    have hrl := rowS_le T rs
    have hC1 : rpC I1 cnt loops emp W old c (fun x => tm T c x 1 &&& set) (fun x => tm T c x 2 &&& set) := hC.fr hfj (hfr 58 (by decide) (by decide) (by decide)) (hfr 59 (by decide) (by decide) (by decide))
    have hr1 : rowA I1 60 rs := hr.fr hfs
    refine z_iload (n := 108) C 0 dX5_fill_106 rfl rfl ?_
    refine z_bipush (n := 110) (v := 10) C dX5_fill_108 rfl rfl ?_
    refine z_icmp_ge (tgt := 187) (n := 113) C dX5_fill_110 rfl rfl (fun c110 => ?_) (fun c110 => ?_)
    · refine z_vret C E dX5_fill_187 ?_
      rw [fa_le, nI_toInt (by omega)] at c110
      simp only [Int32.reduceToInt] at c110
      rw [fillX_end _ _ _ _ (by omega)] at hbf hfc
      rw [bsF] at hbf
      exact hQ I1 f1 b1 hfr hfj hfs (fun e => by have := hfc e; rw [← this]; rfl) hbf h9 h10 hb1 hs1
    · rw [fa_le, nI_toInt (by omega)] at c110
      simp only [Int32.reduceToInt] at c110
      refine z_iload (n := 115) C 1 dX5_fill_113 rfl rfl ?_
      refine z_iload (n := 117) C 0 dX5_fill_115 rfl rfl ?_
      refine z_ishr (n := 118) C dX5_fill_117 rfl ?_
      refine z_iconst (n := 119) (v := 1) C dX5_fill_118 rfl rfl ?_
      refine z_iand (n := 120) C dX5_fill_119 rfl ?_
      rw [bt_nI (by omega) (by omega)]
      refine z_if_eq (tgt := 181) (n := 123) C dX5_fill_120 rfl rfl (fun c120 => ?_) (fun c120 => ?_)
      · refine z_iincG (n := 184) (c := 1) (L' := [(5, _), (4, _), (0, _), (1, _), (2, _), (3, _)]) C 0 dX5_fill_181 rfl rfl rfl (by rw [hnL]; decide) rfl ?_
        refine z_goto (n := 106) C dX5_fill_184 rfl ?_
        rw [nI_1]
        have hst : fillX (cdS set T ag r) emp k rs x = fillX (cdS set T ag r) emp k rs (x + 1) := fillX_no (by omega) (eq_false_of_ne_true (fun q => by rw [hop x, q] at c120; exact absurd c120 (by decide)))
        exact ih (x + 1) I1 f1 b1 (by omega) ⟨by omega, hfr, hfj, hfs, fun e => by rw [← hst]; exact hfc e, h9, h10, hb1, hs1, fun e => by rw [← hbf e, hst]⟩
      · have hcd : cdS set T ag r rs x = true := by
          cases hz : cdS set T ag r rs x with
          | true => rfl
          | false => rw [hop x, hz] at c120; exact absurd rfl c120
        have hsx : set.testBit x = true ∧ rs.contains x = false := by
          have q := hcd
          unfold cdS at q
          rw [Bool.and_eq_true, Bool.and_eq_true, Bool.not_eq_true'] at q
          exact ⟨q.1, q.2.1⟩
        have hxc : x < c := by
          by_cases e : x < c
          · exact e
          · have q := hsx.1
            rw [Nat.testBit_lt_two_pow (Nat.lt_of_lt_of_le hset (Nat.pow_le_pow_right (by decide) (by omega)))] at q; cases q
        refine z_aload_n (n := 124) C 2 dX5_fill_123 rfl rfl ?_
        refine z_getR (n := 127) (q := 60) C K fF_RX5_18 dX5_fill_124 rfl rfl sh_57 (by decide) rfl ?_
        refine z_iload_n (n := 128) C 3 dX5_fill_127 rfl rfl ?_
        refine z_iload (n := 130) C 0 dX5_fill_128 rfl rfl ?_
        refine z_iastN (n := 131) C K rs.length dX5_fill_130 rfl sh_60 (by decide) rfl (by omega) (by decide) ?_
        refine z_iload_n (n := 132) C 3 dX5_fill_131 rfl rfl ?_
        refine z_si_1 (n := 135) (d' := 1) C K dX5_fill_132 rfl yk_X5_isBeside kT_yX5_isBeside kM_RX5_82 (by omega) hR0 rfl ?_
        refine c_X5_isBeside (by omega) (fun b132 => ?_) (fun b132 => ?_)
        · have hr2 : rowA (upI I1 60 rs.length (nI x)) 60 rs := hr1.fr (fun i hi => upI_k _ _ (by omega))
          have hrx : rowA (upI I1 60 rs.length (nI x)) 60 (x :: rs) := hr2.cons (by rw [upI_same]; exact (if_neg (by omega)).symm)
          have hC2 : rpC (upI I1 60 rs.length (nI x)) cnt loops emp W old c (fun x => tm T c x 1 &&& set) (fun x => tm T c x 2 &&& set) := hC1.fr (fun j _ _ => by rw [upI_row _ _ (by decide)]) (upI_row _ _ (by decide)) (upI_row _ _ (by decide))
          refine z_ifF_eq (n := 138) (tgt := 156) C (by decide) dX5_fill_135 rfl rfl ?_
          refine z_aload_n (n := 139) C 2 dX5_fill_138 rfl rfl ?_
          refine z_getR (n := 142) (q := 58) C K fF_RX5_9 dX5_fill_139 rfl rfl sh_57 (by decide) rfl ?_
          refine z_iload (n := 144) C 0 dX5_fill_142 rfl rfl ?_
          refine z_ialdN (n := 145) C K x dX5_fill_144 rfl sh_58 (by decide) rfl (by omega) (by decide) ?_
          refine z_aload_n (n := 146) C 2 dX5_fill_145 rfl rfl ?_
          refine z_iload_n (n := 147) C 3 dX5_fill_146 rfl rfl ?_
          refine z_iconst (n := 148) (v := 1) C dX5_fill_147 rfl rfl ?_
          refine z_isub (n := 149) C dX5_fill_148 rfl ?_
          rw [show upI I1 60 rs.length (nI x) 58 x = nI (tm T c x 1 &&& set) from (hC2.2.2.2.2.2 x hxc).1, nI_s1 _ (by omega)]
          refine z_vi_1 (n := 152) (d' := 1) C K dX5_fill_149 rfl yk_X5_bitAt yv_X5_bitAt kM_RX5_86 (by omega) hR0 rfl rfl sh_57 (by decide) (by decide) ?_
          refine c_X5_bitAt hC2.2.1 hl8 hr2 hlen hgl (Or.inr (isN_nI (by omega) (by omega))) ?_
          rw [bAt_1 (by omega) (by omega)]
          refine z_iand (n := 153) C dX5_fill_152 rfl ?_
          rw [and_nI]
          refine z_goto (n := 157) C dX5_fill_153 rfl ?_
          obtain ⟨mo, emo⟩ : ∃ mo, (tm T c x 1 &&& set) &&& btS (rs.getD 0 99) = mo := ⟨_, rfl⟩
          have hmo : mo < 1024 := by rw [← emo]; exact Nat.lt_of_le_of_lt Nat.and_le_right hbt0
          have hrow : rowS T (x :: rs) = rowS T rs + popS mo := by
            rw [rowS, ← emo, more_1 hs1024 (hgc 0)]
            by_cases e : frS T (rs.getD 0 99) x = true
            · rw [if_pos ⟨b132, e⟩, if_pos e]
            · rw [if_neg (fun q => e q.2), if_neg e]
          rw [emo]
          refine z_istore (n := 159) (L' := [(6, _), (5, _), (4, _), (0, _), (1, _), (2, _), (3, _)]) C dX5_fill_157 rfl (by rw [hnL]; decide) rfl ?_
          refine z_aload_n (n := 160) C 3 dX5_fill_159 rfl rfl ?_
          refine z_iload_n (n := 161) C 4 dX5_fill_160 rfl rfl ?_
          refine z_iconst (n := 162) (v := 1) C dX5_fill_161 rfl rfl ?_
          refine z_iadd (n := 163) C dX5_fill_162 rfl ?_
          refine z_iload_n (n := 164) C 5 dX5_fill_163 rfl rfl ?_
          refine z_iconst (n := 165) (v := 1) C dX5_fill_164 rfl rfl ?_
          refine z_iload (n := 167) C 1 dX5_fill_165 rfl rfl ?_
          refine z_ishl (n := 168) C dX5_fill_167 rfl ?_
          rw [one_shl x (by omega)]
          refine z_iconst (n := 169) (v := (-1)) C dX5_fill_168 rfl rfl ?_
          refine z_ixor (n := 170) C dX5_fill_169 rfl ?_
          refine z_iand (n := 171) C dX5_fill_170 rfl ?_
          rw [clr_nI]
          have hcle := clr_le left (2 ^ x)
          refine z_iload_n (n := 172) C 6 dX5_fill_171 rfl rfl ?_
          refine z_iload (n := 174) C 0 dX5_fill_172 rfl rfl ?_
          refine z_si_1 (n := 177) (d' := 1) C K dX5_fill_174 rfl yk_J6_bitCount_0f7a4 kT_yJ6_bitCount_0f7a4 kM_RX5_56 (by omega) hR0 rfl ?_
          refine c_J6_bitCount_0f7a4 hmo ?_
          refine z_iadd (n := 178) C dX5_fill_177 rfl ?_
          rw [nI_add, ← hrow, nI_1]
          refine z_sv_4 (n := 181) (d' := (k + 3)) C K dX5_fill_178 rfl yk_X5_fill kT_yX5_fill kM_RX5_68 (by omega) hR0 rfl ?_
          refine hfill _ (x :: rs) (clr left (2 ^ x)) f1 b1 _ (by rw [List.length_cons]; omega) hk1 hC2 hrx (fun y hy => by
            rcases List.mem_cons.mp hy with e | e
            · exact Or.inr (e ▸ hsx.1)
            · exact hin y e) hl.cons (by omega) (by rw [upI_row _ _ (by decide)]; exact h9) (by rw [upI_row _ _ (by decide)]; exact h10) hb1 (fun e => ⟨(hs1 e).1.fr (fun i _ => by rw [upI_row _ _ (by decide)]), (hs1 e).2⟩) (fun I3 f3 b3 hf3 hj3 hr3 hc3 hq3 h93 h103 hb3 hs3 => ?_)
          refine z_iincG (n := 184) (c := 1) (L' := [(5, _), (6, _), (4, _), (0, _), (1, _), (2, _), (3, _)]) C 1 dX5_fill_181 rfl rfl rfl (by rw [hnL]; decide) rfl ?_
          refine z_goto (n := 106) C dX5_fill_184 rfl ?_
          refine z_sub (L' := [(5, _), (4, _), (0, _), (1, _), (2, _), (3, _)]) [0, 2, 3, 4, 5, 6] rfl ?_
          rw [nI_1]
          have hst : fillX (cdS set T ag r) emp k rs x = fillS (cdS set T ag r) emp k (x :: rs) ++ fillX (cdS set T ag r) emp k rs (x + 1) := fillX_yes (by omega) hcd
          exact ih (x + 1) I3 f3 b3 (by omega) ⟨by omega, fun q q1 q2 q3 => by rw [hf3 q q1 q2 q3, upI_row _ _ q2]; exact hfr q q1 q2 q3, fun j j1 j2 => by rw [hj3 j j1 j2, upI_row _ _ (by decide)]; exact hfj j j1 j2, fun i hi => by rw [hr3 i (by rw [List.length_cons]; omega), upI_k _ _ (by omega)]; exact hfs i hi, fun e => by have q1 := hfc e; have q2 := hc3 e; rw [hst, List.length_append] at q1; omega, h93, h103, hb3, hs3, fun e => by rw [← hbf e, hst, bsF_app, hq3 e]⟩
        · have hr2 : rowA (upI I1 60 rs.length (nI x)) 60 rs := hr1.fr (fun i hi => upI_k _ _ (by omega))
          have hrx : rowA (upI I1 60 rs.length (nI x)) 60 (x :: rs) := hr2.cons (by rw [upI_same]; exact (if_neg (by omega)).symm)
          have hC2 : rpC (upI I1 60 rs.length (nI x)) cnt loops emp W old c (fun x => tm T c x 1 &&& set) (fun x => tm T c x 2 &&& set) := hC1.fr (fun j _ _ => by rw [upI_row _ _ (by decide)]) (upI_row _ _ (by decide)) (upI_row _ _ (by decide))
          refine z_ifT_eq (tgt := 156) C (by decide) dX5_fill_135 rfl ?_
          refine z_iconst (n := 157) (v := 0) C dX5_fill_156 rfl rfl ?_
          obtain ⟨mo, emo⟩ : ∃ mo, 0 = mo := ⟨_, rfl⟩
          have hmo : mo < 1024 := by omega
          have hrow : rowS T (x :: rs) = rowS T rs + popS mo := by rw [rowS_even x (by omega), ← emo, popS_0]; rfl
          rw [show (0 : Int32) = nI mo by rw [← emo]; rfl]
          refine z_istore (n := 159) (L' := [(6, _), (5, _), (4, _), (0, _), (1, _), (2, _), (3, _)]) C dX5_fill_157 rfl (by rw [hnL]; decide) rfl ?_
          refine z_aload_n (n := 160) C 3 dX5_fill_159 rfl rfl ?_
          refine z_iload_n (n := 161) C 4 dX5_fill_160 rfl rfl ?_
          refine z_iconst (n := 162) (v := 1) C dX5_fill_161 rfl rfl ?_
          refine z_iadd (n := 163) C dX5_fill_162 rfl ?_
          refine z_iload_n (n := 164) C 5 dX5_fill_163 rfl rfl ?_
          refine z_iconst (n := 165) (v := 1) C dX5_fill_164 rfl rfl ?_
          refine z_iload (n := 167) C 1 dX5_fill_165 rfl rfl ?_
          refine z_ishl (n := 168) C dX5_fill_167 rfl ?_
          rw [one_shl x (by omega)]
          refine z_iconst (n := 169) (v := (-1)) C dX5_fill_168 rfl rfl ?_
          refine z_ixor (n := 170) C dX5_fill_169 rfl ?_
          refine z_iand (n := 171) C dX5_fill_170 rfl ?_
          rw [clr_nI]
          have hcle := clr_le left (2 ^ x)
          refine z_iload_n (n := 172) C 6 dX5_fill_171 rfl rfl ?_
          refine z_iload (n := 174) C 0 dX5_fill_172 rfl rfl ?_
          refine z_si_1 (n := 177) (d' := 1) C K dX5_fill_174 rfl yk_J6_bitCount_0f7a4 kT_yJ6_bitCount_0f7a4 kM_RX5_56 (by omega) hR0 rfl ?_
          refine c_J6_bitCount_0f7a4 hmo ?_
          refine z_iadd (n := 178) C dX5_fill_177 rfl ?_
          rw [nI_add, ← hrow, nI_1]
          refine z_sv_4 (n := 181) (d' := (k + 3)) C K dX5_fill_178 rfl yk_X5_fill kT_yX5_fill kM_RX5_68 (by omega) hR0 rfl ?_
          refine hfill _ (x :: rs) (clr left (2 ^ x)) f1 b1 _ (by rw [List.length_cons]; omega) hk1 hC2 hrx (fun y hy => by
            rcases List.mem_cons.mp hy with e | e
            · exact Or.inr (e ▸ hsx.1)
            · exact hin y e) hl.cons (by omega) (by rw [upI_row _ _ (by decide)]; exact h9) (by rw [upI_row _ _ (by decide)]; exact h10) hb1 (fun e => ⟨(hs1 e).1.fr (fun i _ => by rw [upI_row _ _ (by decide)]), (hs1 e).2⟩) (fun I3 f3 b3 hf3 hj3 hr3 hc3 hq3 h93 h103 hb3 hs3 => ?_)
          refine z_iincG (n := 184) (c := 1) (L' := [(5, _), (6, _), (4, _), (0, _), (1, _), (2, _), (3, _)]) C 1 dX5_fill_181 rfl rfl rfl (by rw [hnL]; decide) rfl ?_
          refine z_goto (n := 106) C dX5_fill_184 rfl ?_
          refine z_sub (L' := [(5, _), (4, _), (0, _), (1, _), (2, _), (3, _)]) [0, 2, 3, 4, 5, 6] rfl ?_
          rw [nI_1]
          have hst : fillX (cdS set T ag r) emp k rs x = fillS (cdS set T ag r) emp k (x :: rs) ++ fillX (cdS set T ag r) emp k rs (x + 1) := fillX_yes (by omega) hcd
          exact ih (x + 1) I3 f3 b3 (by omega) ⟨by omega, fun q q1 q2 q3 => by rw [hf3 q q1 q2 q3, upI_row _ _ q2]; exact hfr q q1 q2 q3, fun j j1 j2 => by rw [hj3 j j1 j2, upI_row _ _ (by decide)]; exact hfj j j1 j2, fun i hi => by rw [hr3 i (by rw [List.length_cons]; omega), upI_k _ _ (by omega)]; exact hfs i hi, fun e => by have q1 := hfc e; have q2 := hc3 e; rw [hst, List.length_append] at q1; omega, h93, h103, hb3, hs3, fun e => by rw [← hbf e, hst, bsF_app, hq3 e]⟩
set_option maxHeartbeats 4000000 in
set_option maxRecDepth 100000 in
theorem fill_S {ad : Nat → Nat} {J : KJ} {t : Nat} {cnt loops emp W old c set r : Nat} {T : Nat → Nat → Nat} {ag : Nat → Nat} (hc10 : c ≤ 10) (hset : set < 2 ^ c) (hl8 : loops ≤ 8) (hW : W < 1024) (hold : ∀ x, x < c → old.testBit x = decide (r ≤ ag x)) (hold2 : old < 1024) (hWb : ∀ x y, set.testBit x = true → set.testBit y = true → T x y = 1 → W.testBit x = true ∧ W.testBit y = true) (hemp : emp % 2 = 0) (hemp2 : emp ≤ 98) (hcnt : cnt ≤ 1) (hlev : loops % 2 = 0) (hsy : ∀ x y, x < c → y < c → T x y = T y x) {k : Nat} (hfill : fillP ad J t cnt loops emp W old c set r T ag k) : fillP ad J t cnt loops emp W old c set r T ag (k + 1) := by
  intro I rs left f b Q hlk hk1 hC hr hin hl hlt hF hB hb10 hbs hQ
  refine mv_of (own := RX5) yk_X5_fill rfl (Nat.le_of_ble_eq_true rfl) rfl (fun X hA hnL C K E => ?_)
  subst hA
  have hlen : rs.length ≤ loops := by omega
  have h1024 : 2 ^ c ≤ 2 ^ 10 := Nat.pow_le_pow_right (by decide) hc10
  have hs1024 : set < 1024 := by omega
  have hgi := getD_in hin
  have hgl : ∀ i, rs.getD i 99 = 99 ∨ rs.getD i 99 < 10 := fun i => (hgi i).imp id (fun q => bit_lt10 hs1024 q)
  have hgc : ∀ i, rs.getD i 99 = 99 ∨ (set.testBit (rs.getD i 99) = true ∧ rs.getD i 99 < c) := fun i => (hgi i).imp id (fun q => ⟨q, by
    by_cases e : rs.getD i 99 < c
    · exact e
    · rw [Nat.testBit_lt_two_pow (Nat.lt_of_lt_of_le hset (Nat.pow_le_pow_right (by decide) (by omega)))] at q; cases q⟩)
  have hbt0 := btS_lt hs1024 (hgi 0)
  have hbt1 := btS_lt hs1024 (hgi 1)
  have hrl := rowS_le T rs
  refine z_iload_n (n := 1) C 1 dX5_fill_0 rfl rfl ?_
  refine z_aload_n (n := 2) C 0 dX5_fill_1 rfl rfl ?_
  refine z_getI (n := 5) C K fF_RX5_28 dX5_fill_2 rfl sh_57 (by decide) ?_
  rw [hC.2.1]
  refine z_icmpT_lt (tgt := 14) C (by rw [fa_lt, nI_toInt (by omega), nI_toInt (by omega)]; omega) dX5_fill_5 rfl ?_
  refine z_aload_n (n := 15) C 0 dX5_fill_14 rfl rfl ?_
  refine z_getB (n := 18) C K fF_RX5_24 dX5_fill_15 rfl sh_57 (by decide) ?_
  refine z_if_ne (tgt := 37) (n := 21) C dX5_fill_18 rfl rfl (fun c18 => ?_) (fun c18 => ?_)
  · refine z_iload_n (n := 38) C 1 dX5_fill_37 rfl rfl ?_
    refine z_aload_n (n := 39) C 0 dX5_fill_38 rfl rfl ?_
    refine z_getI (n := 42) C K fF_RX5_32 dX5_fill_39 rfl sh_57 (by decide) ?_
    rw [hC.2.2.1]
    refine z_icmp_ne (tgt := 63) (n := 45) C dX5_fill_42 rfl rfl (fun c42 => ?_) (fun c42 => ?_)
    · refine z_aload_n (n := 64) C 0 dX5_fill_63 rfl rfl ?_
      refine z_iload_n (n := 65) C 1 dX5_fill_64 rfl rfl ?_
      refine z_iload_n (n := 66) C 2 dX5_fill_65 rfl rfl ?_
      refine z_vi_2 (n := 69) (d' := 2) C K dX5_fill_66 rfl yk_X5_mayCome yv_X5_mayCome kM_RX5_79 (by omega) hR0 rfl rfl sh_57 (by decide) (by decide) ?_
      refine c_X5_mayCome (r := r) (ag := ag) hc10 hset hl8 hW hold hold2 hWb hemp hemp2 hC hlen hr hin ?_
      obtain ⟨op, eop⟩ : ∃ op, rcmS T c set old left rs = op := ⟨_, rfl⟩
      rw [eop]
      have hop : ∀ x, op.testBit x = cdS set T ag r rs x := fun x => by rw [← eop]; exact rcmS_bit hsy hold hset hl (hgc 0) (hgc 1) x
      have hop10 : op < 1024 := by rw [← eop]; exact Nat.lt_of_le_of_lt (rcmS_le _ _ _ _ _ _) hlt
      refine z_istore (n := 71) (L' := [(4, _), (0, _), (1, _), (2, _), (3, _)]) C dX5_fill_69 rfl (by rw [hnL]; decide) rfl ?_
      refine z_aload_n (n := 72) C 1 dX5_fill_71 rfl rfl ?_
      refine z_getB (n := 75) C K fF_RX5_24 dX5_fill_72 rfl sh_57 (by decide) ?_
      refine z_ifF_eq (n := 78) (tgt := 103) C c18 dX5_fill_75 rfl rfl ?_
      refine z_iload_n (n := 79) C 2 dX5_fill_78 rfl rfl ?_
      refine z_aload_n (n := 80) C 1 dX5_fill_79 rfl rfl ?_
      refine z_getI (n := 83) C K fF_RX5_28 dX5_fill_80 rfl sh_57 (by decide) ?_
      refine z_iconst (n := 84) (v := 1) C dX5_fill_83 rfl rfl ?_
      refine z_isub (n := 85) C dX5_fill_84 rfl ?_
      rw [hC.2.1, nI_s1 _ (by omega)]
      refine z_icmp_ne (tgt := 103) (n := 88) C dX5_fill_85 rfl rfl (fun c85 => ?_) (fun c85 => ?_)
      · have hk2 : cnt = 1 → 1 ≤ k := fun _ => by
          by_cases e : 1 ≤ k
          · exact e
          · exact absurd (show nI rs.length = nI (loops - 1) by rw [show loops - 1 = rs.length by omega]) c85
        refine z_iconst (n := 104) (v := 0) C dX5_fill_103 rfl rfl ?_
        refine z_istore (n := 106) (L' := [(5, _), (4, _), (0, _), (1, _), (2, _), (3, _)]) C dX5_fill_104 rfl (by rw [hnL]; decide) rfl ?_
        have hne : rs.length ≠ emp := fun e => c42 (by rw [e]; unfold empI; rw [if_neg (by omega)])
        refine fill_L C K hnL hc10 hset hl8 hW hold hold2 hWb hemp hemp2 hcnt hlev hsy hfill E (by omega) hk2 hop hop10 hC hr hin hl hlt (fun I3 f3 b3 q1 q2 q3 q4 q5 q6 q7 q8 q9 => ?_) 11 0 I f b (by omega) ⟨Nat.zero_le _, fun _ _ _ _ => rfl, fun _ _ _ => rfl, fun _ _ => rfl, fun _ => rfl, hF, hB, hb10, hbs, fun _ => rfl⟩
        rw [← fillS_X hne] at q4 q5
        exact hQ I3 f3 b3 q1 q2 q3 q4 q5 q6 q7 q8 q9
      · have hk0 : k = 0 := by have := nI_inj c85 (by omega) (by omega); omega
        refine z_aload_n (n := 89) C 1 dX5_fill_88 rfl rfl ?_
        refine z_dup (n := 90) C dX5_fill_89 rfl rfl ?_
        refine z_getI (n := 93) C K fF_RX5_41 dX5_fill_90 rfl sh_57 (by decide) ?_
        rw [hF]
        refine z_iload (n := 95) C 0 dX5_fill_93 rfl rfl ?_
        refine z_si_1 (n := 98) (d' := 1) C K dX5_fill_95 rfl yk_J6_bitCount_0f7a4 kT_yJ6_bitCount_0f7a4 kM_RX5_56 (by omega) hR0 rfl ?_
        refine c_J6_bitCount_0f7a4 hop10 ?_
        refine z_iadd (n := 99) C dX5_fill_98 rfl ?_
        rw [nI_add]
        refine z_putI (n := 102) C K fF_RX5_41 dX5_fill_99 rfl sh_57 (by decide) ?_
        refine z_vret C E dX5_fill_102 ?_
        have hne : rs.length ≠ emp := fun e => c42 (by rw [e]; unfold empI; rw [if_neg (by omega)])
        have hcn : cnt = 1 := by
          rcases (show cnt = 0 ∨ cnt = 1 by omega) with e | e
          · rw [hC.1, e] at c18; exact absurd rfl c18
          · exact e
        exact hQ _ (f + popS op) b (fun q q1 _ _ => upI_row _ _ q1) (fun j j1 _ => upI_k _ _ j1) (fun i _ => by rw [upI_row _ _ (by decide)]) (fun _ => by
          subst hk0
          have hp := fillX_pop (emp := emp) hop 10 0 (by decide) (by decide)
          rw [fillS_X hne, popS_of (show op < 2 ^ 10 from hop10) (by decide), ← hp]; rfl) (fun e => absurd hcn e) (upI_same _ _ _ _) (by rw [upI_k _ _ (by decide)]; exact hB) hb10 (fun e => ⟨(hbs e).1.fr (fun i _ => by rw [upI_row _ _ (by decide)]), (hbs e).2⟩)
    · have hle : rs.length = emp := by
        unfold empI at c42
        by_cases e : emp = 98
        · rw [if_pos e] at c42
          have := congrArg Int32.toInt c42
          rw [nI_toInt (by omega)] at this
          simp only [Int32.reduceToInt] at this
          omega
        · rw [if_neg e] at c42
          exact nI_inj c42 (by omega) (by omega)
      have hr2 : rowA (upI I 60 rs.length (-9)) 60 (99 :: rs) := (hr.fr (fun i hi => upI_k _ _ (by omega))).cons (by rw [upI_same]; rfl)
      have hC2 : rpC (upI I 60 rs.length (-9)) cnt loops emp W old c (fun x => tm T c x 1 &&& set) (fun x => tm T c x 2 &&& set) := hC.fr (fun j _ _ => by rw [upI_row _ _ (by decide)]) (upI_row _ _ (by decide)) (upI_row _ _ (by decide))
      refine z_aload_n (n := 46) C 0 dX5_fill_45 rfl rfl ?_
      refine z_getR (n := 49) (q := 60) C K fF_RX5_18 dX5_fill_46 rfl rfl sh_57 (by decide) rfl ?_
      refine z_iload_n (n := 50) C 1 dX5_fill_49 rfl rfl ?_
      refine z_bipush (n := 52) (v := (-9)) C dX5_fill_50 rfl rfl ?_
      refine z_iastN (n := 53) C K rs.length dX5_fill_52 rfl sh_60 (by decide) rfl (by omega) (by decide) ?_
      refine z_aload_n (n := 54) C 0 dX5_fill_53 rfl rfl ?_
      refine z_iload_n (n := 55) C 1 dX5_fill_54 rfl rfl ?_
      refine z_iconst (n := 56) (v := 1) C dX5_fill_55 rfl rfl ?_
      refine z_iadd (n := 57) C dX5_fill_56 rfl ?_
      refine z_iload_n (n := 58) C 2 dX5_fill_57 rfl rfl ?_
      refine z_iload_n (n := 59) C 3 dX5_fill_58 rfl rfl ?_
      rw [nI_1, ← rowS_even (T := T) 99 (show rs.length % 2 = 0 by omega)]
      refine z_sv_4 (n := 62) (d' := (k + 3)) C K dX5_fill_59 rfl yk_X5_fill kT_yX5_fill kM_RX5_68 (by omega) hR0 rfl ?_
      refine hfill _ (99 :: rs) left f b _ (by rw [List.length_cons]; omega) (fun _ => by omega) hC2 hr2 (fun y hy => by
        rcases List.mem_cons.mp hy with e | e
        · exact Or.inl e
        · exact hin y e) (hl.none hs1024) hlt (by rw [upI_row _ _ (by decide)]; exact hF) (by rw [upI_row _ _ (by decide)]; exact hB) hb10 (fun e => ⟨(hbs e).1.fr (fun i _ => by rw [upI_row _ _ (by decide)]), (hbs e).2⟩) (fun I3 f3 b3 hf3 hj3 hr3 hc3 hq3 h93 h103 hb3 hs3 => ?_)
      refine z_vret C E dX5_fill_62 ?_
      exact hQ I3 f3 b3 (fun q q1 q2 q3 => by rw [hf3 q q1 q2 q3, upI_row _ _ q2]) (fun j j1 j2 => by rw [hj3 j j1 j2, upI_row _ _ (by decide)]) (fun i hi => by rw [hr3 i (by rw [List.length_cons]; omega), upI_k _ _ (by omega)]) (fun e => by rw [fillS_emp hle]; exact hc3 e) (fun e => by rw [fillS_emp hle]; exact hq3 e) h93 h103 hb3 hs3
  · refine z_iload_n (n := 22) C 3 dX5_fill_21 rfl rfl ?_
    refine z_aload_n (n := 23) C 0 dX5_fill_22 rfl rfl ?_
    refine z_iload_n (n := 24) C 1 dX5_fill_23 rfl rfl ?_
    refine z_iload_n (n := 25) C 2 dX5_fill_24 rfl rfl ?_
    refine z_vi_2 (n := 28) (d' := 2) C K dX5_fill_25 rfl yk_X5_hope yv_X5_hope kM_RX5_76 (by omega) hR0 rfl rfl sh_57 (by decide) (by decide) ?_
    refine c_X5_hope (r := r) (ag := ag) hc10 hset hl8 hW hold hold2 hWb hemp hemp2 hC hlen hr hin hlt ?_
    have hhp : hpS W left rs ≤ 5 := by unfold hpS; have := pop_le (opS left rs &&& W) 10; omega
    refine z_iadd (n := 29) C dX5_fill_28 rfl ?_
    rw [nI_add]
    refine z_aload_n (n := 30) C 0 dX5_fill_29 rfl rfl ?_
    refine z_getI (n := 33) C K fF_RX5_44 dX5_fill_30 rfl sh_57 (by decide) ?_
    rw [hB]
    refine z_icmp_gt (tgt := 37) (n := 36) C dX5_fill_33 rfl rfl (fun c33 => ?_) (fun c33 => ?_)
    · refine z_iload_n (n := 38) C 1 dX5_fill_37 rfl rfl ?_
      refine z_aload_n (n := 39) C 0 dX5_fill_38 rfl rfl ?_
      refine z_getI (n := 42) C K fF_RX5_32 dX5_fill_39 rfl sh_57 (by decide) ?_
      rw [hC.2.2.1]
      refine z_icmp_ne (tgt := 63) (n := 45) C dX5_fill_42 rfl rfl (fun c42 => ?_) (fun c42 => ?_)
      · refine z_aload_n (n := 64) C 0 dX5_fill_63 rfl rfl ?_
        refine z_iload_n (n := 65) C 1 dX5_fill_64 rfl rfl ?_
        refine z_iload_n (n := 66) C 2 dX5_fill_65 rfl rfl ?_
        refine z_vi_2 (n := 69) (d' := 2) C K dX5_fill_66 rfl yk_X5_mayCome yv_X5_mayCome kM_RX5_79 (by omega) hR0 rfl rfl sh_57 (by decide) (by decide) ?_
        refine c_X5_mayCome (r := r) (ag := ag) hc10 hset hl8 hW hold hold2 hWb hemp hemp2 hC hlen hr hin ?_
        obtain ⟨op, eop⟩ : ∃ op, rcmS T c set old left rs = op := ⟨_, rfl⟩
        rw [eop]
        have hop : ∀ x, op.testBit x = cdS set T ag r rs x := fun x => by rw [← eop]; exact rcmS_bit hsy hold hset hl (hgc 0) (hgc 1) x
        have hop10 : op < 1024 := by rw [← eop]; exact Nat.lt_of_le_of_lt (rcmS_le _ _ _ _ _ _) hlt
        refine z_istore (n := 71) (L' := [(4, _), (0, _), (1, _), (2, _), (3, _)]) C dX5_fill_69 rfl (by rw [hnL]; decide) rfl ?_
        refine z_aload_n (n := 72) C 1 dX5_fill_71 rfl rfl ?_
        refine z_getB (n := 75) C K fF_RX5_24 dX5_fill_72 rfl sh_57 (by decide) ?_
        refine z_ifT_eq (tgt := 103) C c18 dX5_fill_75 rfl ?_
        have hk2 : cnt = 1 → 1 ≤ k := fun e => by rw [hC.1, e] at c18; exact absurd c18 (by decide)
        refine z_iconst (n := 104) (v := 0) C dX5_fill_103 rfl rfl ?_
        refine z_istore (n := 106) (L' := [(5, _), (4, _), (0, _), (1, _), (2, _), (3, _)]) C dX5_fill_104 rfl (by rw [hnL]; decide) rfl ?_
        have hne : rs.length ≠ emp := fun e => c42 (by rw [e]; unfold empI; rw [if_neg (by omega)])
        refine fill_L C K hnL hc10 hset hl8 hW hold hold2 hWb hemp hemp2 hcnt hlev hsy hfill E (by omega) hk2 hop hop10 hC hr hin hl hlt (fun I3 f3 b3 q1 q2 q3 q4 q5 q6 q7 q8 q9 => ?_) 11 0 I f b (by omega) ⟨Nat.zero_le _, fun _ _ _ _ => rfl, fun _ _ _ => rfl, fun _ _ => rfl, fun _ => rfl, hF, hB, hb10, hbs, fun _ => rfl⟩
        rw [← fillS_X hne] at q4 q5
        exact hQ I3 f3 b3 q1 q2 q3 q4 q5 q6 q7 q8 q9
      · have hle : rs.length = emp := by
          unfold empI at c42
          by_cases e : emp = 98
          · rw [if_pos e] at c42
            have := congrArg Int32.toInt c42
            rw [nI_toInt (by omega)] at this
            simp only [Int32.reduceToInt] at this
            omega
          · rw [if_neg e] at c42
            exact nI_inj c42 (by omega) (by omega)
        have hr2 : rowA (upI I 60 rs.length (-9)) 60 (99 :: rs) := (hr.fr (fun i hi => upI_k _ _ (by omega))).cons (by rw [upI_same]; rfl)
        have hC2 : rpC (upI I 60 rs.length (-9)) cnt loops emp W old c (fun x => tm T c x 1 &&& set) (fun x => tm T c x 2 &&& set) := hC.fr (fun j _ _ => by rw [upI_row _ _ (by decide)]) (upI_row _ _ (by decide)) (upI_row _ _ (by decide))
        refine z_aload_n (n := 46) C 0 dX5_fill_45 rfl rfl ?_
        refine z_getR (n := 49) (q := 60) C K fF_RX5_18 dX5_fill_46 rfl rfl sh_57 (by decide) rfl ?_
        refine z_iload_n (n := 50) C 1 dX5_fill_49 rfl rfl ?_
        refine z_bipush (n := 52) (v := (-9)) C dX5_fill_50 rfl rfl ?_
        refine z_iastN (n := 53) C K rs.length dX5_fill_52 rfl sh_60 (by decide) rfl (by omega) (by decide) ?_
        refine z_aload_n (n := 54) C 0 dX5_fill_53 rfl rfl ?_
        refine z_iload_n (n := 55) C 1 dX5_fill_54 rfl rfl ?_
        refine z_iconst (n := 56) (v := 1) C dX5_fill_55 rfl rfl ?_
        refine z_iadd (n := 57) C dX5_fill_56 rfl ?_
        refine z_iload_n (n := 58) C 2 dX5_fill_57 rfl rfl ?_
        refine z_iload_n (n := 59) C 3 dX5_fill_58 rfl rfl ?_
        rw [nI_1, ← rowS_even (T := T) 99 (show rs.length % 2 = 0 by omega)]
        refine z_sv_4 (n := 62) (d' := (k + 3)) C K dX5_fill_59 rfl yk_X5_fill kT_yX5_fill kM_RX5_68 (by omega) hR0 rfl ?_
        refine hfill _ (99 :: rs) left f b _ (by rw [List.length_cons]; omega) (fun _ => by omega) hC2 hr2 (fun y hy => by
          rcases List.mem_cons.mp hy with e | e
          · exact Or.inl e
          · exact hin y e) (hl.none hs1024) hlt (by rw [upI_row _ _ (by decide)]; exact hF) (by rw [upI_row _ _ (by decide)]; exact hB) hb10 (fun e => ⟨(hbs e).1.fr (fun i _ => by rw [upI_row _ _ (by decide)]), (hbs e).2⟩) (fun I3 f3 b3 hf3 hj3 hr3 hc3 hq3 h93 h103 hb3 hs3 => ?_)
        refine z_vret C E dX5_fill_62 ?_
        exact hQ I3 f3 b3 (fun q q1 q2 q3 => by rw [hf3 q q1 q2 q3, upI_row _ _ q2]) (fun j j1 j2 => by rw [hj3 j j1 j2, upI_row _ _ (by decide)]) (fun i hi => by rw [hr3 i (by rw [List.length_cons]; omega), upI_k _ _ (by omega)]) (fun e => by rw [fillS_emp hle]; exact hc3 e) (fun e => by rw [fillS_emp hle]; exact hq3 e) h93 h103 hb3 hs3
    · refine z_vret C E dX5_fill_36 ?_
      rw [fa_lt, nI_m1 _ (by omega), nI_toInt (by omega)] at c33
      have hskip : bsF (rowF T) (fillS (cdS set T ag r) emp (k + 1) rs) b = b := bsF_skip _ _ (fun o ho => by
        have := hope_ok (r := r) (emp := emp) (ag := ag) hs1024 hemp hWb (k + 1) rs left hl hin o ho
        unfold rowF
        omega)
      exact hQ I f b (fun _ _ _ _ => rfl) (fun _ _ _ => rfl) (fun _ _ => rfl) (fun e => by rw [hC.1, e] at c18; exact absurd c18 (by decide)) (fun _ => hskip.symm) hF hB hb10 hbs
theorem fill_all {ad : Nat → Nat} {J : KJ} {t : Nat} {cnt loops emp W old c set r : Nat} {T : Nat → Nat → Nat} {ag : Nat → Nat} (hc10 : c ≤ 10) (hset : set < 2 ^ c) (hl8 : loops ≤ 8) (hW : W < 1024) (hold : ∀ x, x < c → old.testBit x = decide (r ≤ ag x)) (hold2 : old < 1024) (hWb : ∀ x y, set.testBit x = true → set.testBit y = true → T x y = 1 → W.testBit x = true ∧ W.testBit y = true) (hemp : emp % 2 = 0) (hemp2 : emp ≤ 98) (hcnt : cnt ≤ 1) (hlev : loops % 2 = 0) (hsy : ∀ x y, x < c → y < c → T x y = T y x) : ∀ k, fillP ad J t cnt loops emp W old c set r T ag k
  | 0 => fill_0 hc10 hset hl8 hW hold hold2 hWb hemp hemp2 hcnt hlev hsy
  | k + 1 => fill_S hc10 hset hl8 hW hold hold2 hWb hemp hemp2 hcnt hlev hsy (fill_all hc10 hset hl8 hW hold hold2 hWb hemp hemp2 hcnt hlev hsy k)
