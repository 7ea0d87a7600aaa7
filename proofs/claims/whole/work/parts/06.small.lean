set_option maxHeartbeats 4000000 in
set_option maxRecDepth 100000 in
theorem c_X9_isWithin {ad : Nat → Nat} {I : KI} {J : KJ} {t : Nat} {v a b : Int32} {Q : Int32 → KI → KJ → KR → Prop} (h1 : (a.toInt ≤ v.toInt ∧ v.toInt ≤ b.toInt) → Q 1 I J (rf t)) (h0 : ¬ (a.toInt ≤ v.toInt ∧ v.toInt ≤ b.toInt) → Q 0 I J (rf t)) : Mi 1 yX9_isWithin (wm yX9_isWithin cX9_isWithin 3 (some .boolean)) [.int (v), .int (a), .int (b)] ad I J (rf t) Q := by
  refine mi_of (own := RX9) yk_X9_isWithin rfl (Nat.le_of_ble_eq_true rfl) rfl (fun X hA hnL C K E => ?_)
  subst hA
  refine z_iload_n (n := 1) C 0 dX9_isWithin_0 rfl rfl ?_
  refine z_iload_n (n := 2) C 1 dX9_isWithin_1 rfl rfl ?_
  refine z_icmp_lt (tgt := 14) (n := 5) C dX9_isWithin_2 rfl rfl (fun c2 => ?_) (fun c2 => ?_)
  · refine z_iconst (n := 15) (v := 0) C dX9_isWithin_14 rfl rfl ?_
    refine z_zret C E dX9_isWithin_15 (by decide) ?_
    exact h0 (by simp only [fa_lt] at c2; omega)
  · refine z_iload_n (n := 6) C 0 dX9_isWithin_5 rfl rfl ?_
    refine z_iload_n (n := 7) C 2 dX9_isWithin_6 rfl rfl ?_
    refine z_icmp_gt (tgt := 14) (n := 10) C dX9_isWithin_7 rfl rfl (fun c7 => ?_) (fun c7 => ?_)
    · refine z_iconst (n := 15) (v := 0) C dX9_isWithin_14 rfl rfl ?_
      refine z_zret C E dX9_isWithin_15 (by decide) ?_
      exact h0 (by simp only [fa_lt] at c2 c7; omega)
    · refine z_iconst (n := 11) (v := 1) C dX9_isWithin_10 rfl rfl ?_
      refine z_goto (n := 15) C dX9_isWithin_11 rfl ?_
      refine z_zret C E dX9_isWithin_15 (by decide) ?_
      exact h1 (by simp only [fa_lt] at c2 c7; omega)
set_option maxHeartbeats 4000000 in
set_option maxRecDepth 100000 in
theorem c_X10_within {ad : Nat → Nat} {I : KI} {J : KJ} {t : Nat} {v a b : Int32} {Q : Int32 → KI → KJ → KR → Prop} (h1 : (a.toInt ≤ v.toInt ∧ v.toInt ≤ b.toInt) → Q 1 I J (rf t)) (h0 : ¬ (a.toInt ≤ v.toInt ∧ v.toInt ≤ b.toInt) → Q 0 I J (rf t)) : Mi 1 yX10_within (wm yX10_within cX10_within 3 (some .boolean)) [.int (v), .int (a), .int (b)] ad I J (rf t) Q := by
  refine mi_of (own := RX10) yk_X10_within rfl (Nat.le_of_ble_eq_true rfl) rfl (fun X hA hnL C K E => ?_)
  subst hA
  refine z_iload_n (n := 1) C 0 dX10_within_0 rfl rfl ?_
  refine z_iload_n (n := 2) C 1 dX10_within_1 rfl rfl ?_
  refine z_icmp_lt (tgt := 14) (n := 5) C dX10_within_2 rfl rfl (fun c2 => ?_) (fun c2 => ?_)
  · refine z_iconst (n := 15) (v := 0) C dX10_within_14 rfl rfl ?_
    refine z_zret C E dX10_within_15 (by decide) ?_
    exact h0 (by simp only [fa_lt] at c2; omega)
  · refine z_iload_n (n := 6) C 0 dX10_within_5 rfl rfl ?_
    refine z_iload_n (n := 7) C 2 dX10_within_6 rfl rfl ?_
    refine z_icmp_gt (tgt := 14) (n := 10) C dX10_within_7 rfl rfl (fun c7 => ?_) (fun c7 => ?_)
    · refine z_iconst (n := 15) (v := 0) C dX10_within_14 rfl rfl ?_
      refine z_zret C E dX10_within_15 (by decide) ?_
      exact h0 (by simp only [fa_lt] at c2 c7; omega)
    · refine z_iconst (n := 11) (v := 1) C dX10_within_10 rfl rfl ?_
      refine z_goto (n := 15) C dX10_within_11 rfl ?_
      refine z_zret C E dX10_within_15 (by decide) ?_
      exact h1 (by simp only [fa_lt] at c2 c7; omega)
set_option maxHeartbeats 4000000 in
set_option maxRecDepth 100000 in
theorem c_X9_isSheet {ad : Nat → Nat} {I : KI} {J : KJ} {t : Nat} {v : Int32} {Q : Int32 → KI → KJ → KR → Prop} (h1 : (0 ≤ v.toInt ∧ v.toInt ≤ 3) → Q 1 I J (rf t)) (h0 : ¬ (0 ≤ v.toInt ∧ v.toInt ≤ 3) → Q 0 I J (rf t)) : Mi 2 yX9_isSheet (wm yX9_isSheet cX9_isSheet 1 (some .boolean)) [.int (v)] ad I J (rf t) Q := by
  refine mi_of (own := RX9) yk_X9_isSheet rfl (Nat.le_of_ble_eq_true rfl) rfl (fun X hA hnL C K E => ?_)
  subst hA
  refine z_iload_n (n := 1) C 0 dX9_isSheet_0 rfl rfl ?_
  refine z_iconst (n := 2) (v := 0) C dX9_isSheet_1 rfl rfl ?_
  refine z_iconst (n := 3) (v := 3) C dX9_isSheet_2 rfl rfl ?_
  refine z_si_3 (n := 6) (d' := 1) C K dX9_isSheet_3 rfl yk_X9_isWithin kT_yX9_isWithin kM_RX9_131 (by decide) hR0 rfl ?_
  refine c_X9_isWithin (fun b3 => ?_) (fun b3 => ?_)
  · refine z_zret C E dX9_isSheet_6 (by decide) ?_
    exact h1 (by simpa only [Int32.reduceToInt] using b3)
  · refine z_zret C E dX9_isSheet_6 (by decide) ?_
    exact h0 (by simpa only [Int32.reduceToInt] using b3)
set_option maxHeartbeats 4000000 in
set_option maxRecDepth 100000 in
theorem c_X9_isSort {ad : Nat → Nat} {I : KI} {J : KJ} {t : Nat} {v : Int32} {Q : Int32 → KI → KJ → KR → Prop} (h1 : (0 ≤ v.toInt ∧ v.toInt ≤ 2) → Q 1 I J (rf t)) (h0 : ¬ (0 ≤ v.toInt ∧ v.toInt ≤ 2) → Q 0 I J (rf t)) : Mi 2 yX9_isSort (wm yX9_isSort cX9_isSort 1 (some .boolean)) [.int (v)] ad I J (rf t) Q := by
  refine mi_of (own := RX9) yk_X9_isSort rfl (Nat.le_of_ble_eq_true rfl) rfl (fun X hA hnL C K E => ?_)
  subst hA
  refine z_iload_n (n := 1) C 0 dX9_isSort_0 rfl rfl ?_
  refine z_iconst (n := 2) (v := 0) C dX9_isSort_1 rfl rfl ?_
  refine z_iconst (n := 3) (v := 2) C dX9_isSort_2 rfl rfl ?_
  refine z_si_3 (n := 6) (d' := 1) C K dX9_isSort_3 rfl yk_X9_isWithin kT_yX9_isWithin kM_RX9_131 (by decide) hR0 rfl ?_
  refine c_X9_isWithin (fun b3 => ?_) (fun b3 => ?_)
  · refine z_zret C E dX9_isSort_6 (by decide) ?_
    exact h1 (by simpa only [Int32.reduceToInt] using b3)
  · refine z_zret C E dX9_isSort_6 (by decide) ?_
    exact h0 (by simpa only [Int32.reduceToInt] using b3)
set_option maxHeartbeats 4000000 in
set_option maxRecDepth 100000 in
theorem c_X9_isKind {ad : Nat → Nat} {I : KI} {J : KJ} {t : Nat} {v : Int32} {Q : Int32 → KI → KJ → KR → Prop} (h1 : (0 ≤ v.toInt ∧ v.toInt ≤ 2) → Q 1 I J (rf t)) (h0 : ¬ (0 ≤ v.toInt ∧ v.toInt ≤ 2) → Q 0 I J (rf t)) : Mi 2 yX9_isKind (wm yX9_isKind cX9_isKind 1 (some .boolean)) [.int (v)] ad I J (rf t) Q := by
  refine mi_of (own := RX9) yk_X9_isKind rfl (Nat.le_of_ble_eq_true rfl) rfl (fun X hA hnL C K E => ?_)
  subst hA
  refine z_iload_n (n := 1) C 0 dX9_isKind_0 rfl rfl ?_
  refine z_iconst (n := 2) (v := 0) C dX9_isKind_1 rfl rfl ?_
  refine z_iconst (n := 3) (v := 2) C dX9_isKind_2 rfl rfl ?_
  refine z_si_3 (n := 6) (d' := 1) C K dX9_isKind_3 rfl yk_X9_isWithin kT_yX9_isWithin kM_RX9_131 (by decide) hR0 rfl ?_
  refine c_X9_isWithin (fun b3 => ?_) (fun b3 => ?_)
  · refine z_zret C E dX9_isKind_6 (by decide) ?_
    exact h1 (by simpa only [Int32.reduceToInt] using b3)
  · refine z_zret C E dX9_isKind_6 (by decide) ?_
    exact h0 (by simpa only [Int32.reduceToInt] using b3)
set_option maxHeartbeats 4000000 in
set_option maxRecDepth 100000 in
theorem c_X9_isAge {ad : Nat → Nat} {I : KI} {J : KJ} {t : Nat} {v : Int32} {Q : Int32 → KI → KJ → KR → Prop} (h1 : (4 ≤ v.toInt ∧ v.toInt ≤ 11) → Q 1 I J (rf t)) (h0 : ¬ (4 ≤ v.toInt ∧ v.toInt ≤ 11) → Q 0 I J (rf t)) : Mi 2 yX9_isAge (wm yX9_isAge cX9_isAge 1 (some .boolean)) [.int (v)] ad I J (rf t) Q := by
  refine mi_of (own := RX9) yk_X9_isAge rfl (Nat.le_of_ble_eq_true rfl) rfl (fun X hA hnL C K E => ?_)
  subst hA
  refine z_iload_n (n := 1) C 0 dX9_isAge_0 rfl rfl ?_
  refine z_iconst (n := 2) (v := 4) C dX9_isAge_1 rfl rfl ?_
  refine z_bipush (n := 4) (v := 11) C dX9_isAge_2 rfl rfl ?_
  refine z_si_3 (n := 7) (d' := 1) C K dX9_isAge_4 rfl yk_X9_isWithin kT_yX9_isWithin kM_RX9_131 (by decide) hR0 rfl ?_
  refine c_X9_isWithin (fun b4 => ?_) (fun b4 => ?_)
  · refine z_zret C E dX9_isAge_7 (by decide) ?_
    exact h1 (by simpa only [Int32.reduceToInt] using b4)
  · refine z_zret C E dX9_isAge_7 (by decide) ?_
    exact h0 (by simpa only [Int32.reduceToInt] using b4)
set_option maxHeartbeats 4000000 in
set_option maxRecDepth 100000 in
theorem c_X9_isMinute {ad : Nat → Nat} {I : KI} {J : KJ} {t : Nat} {v : Int32} {Q : Int32 → KI → KJ → KR → Prop} (h1 : (0 ≤ v.toInt ∧ v.toInt ≤ 200) → Q 1 I J (rf t)) (h0 : ¬ (0 ≤ v.toInt ∧ v.toInt ≤ 200) → Q 0 I J (rf t)) : Mi 2 yX9_isMinute (wm yX9_isMinute cX9_isMinute 1 (some .boolean)) [.int (v)] ad I J (rf t) Q := by
  refine mi_of (own := RX9) yk_X9_isMinute rfl (Nat.le_of_ble_eq_true rfl) rfl (fun X hA hnL C K E => ?_)
  subst hA
  refine z_iload_n (n := 1) C 0 dX9_isMinute_0 rfl rfl ?_
  refine z_iconst (n := 2) (v := 0) C dX9_isMinute_1 rfl rfl ?_
  refine z_sipush (n := 5) (v := 200) C dX9_isMinute_2 rfl rfl ?_
  refine z_si_3 (n := 8) (d' := 1) C K dX9_isMinute_5 rfl yk_X9_isWithin kT_yX9_isWithin kM_RX9_131 (by decide) hR0 rfl ?_
  refine c_X9_isWithin (fun b5 => ?_) (fun b5 => ?_)
  · refine z_zret C E dX9_isMinute_8 (by decide) ?_
    exact h1 (by simpa only [Int32.reduceToInt] using b5)
  · refine z_zret C E dX9_isMinute_8 (by decide) ?_
    exact h0 (by simpa only [Int32.reduceToInt] using b5)
set_option maxHeartbeats 4000000 in
set_option maxRecDepth 100000 in
theorem c_X10_isSheet {ad : Nat → Nat} {I : KI} {J : KJ} {t : Nat} {v : Int32} {Q : Int32 → KI → KJ → KR → Prop} (h1 : (0 ≤ v.toInt ∧ v.toInt ≤ 3) → Q 1 I J (rf t)) (h0 : ¬ (0 ≤ v.toInt ∧ v.toInt ≤ 3) → Q 0 I J (rf t)) : Mi 2 yX10_isSheet (wm yX10_isSheet cX10_isSheet 1 (some .boolean)) [.int (v)] ad I J (rf t) Q := by
  refine mi_of (own := RX10) yk_X10_isSheet rfl (Nat.le_of_ble_eq_true rfl) rfl (fun X hA hnL C K E => ?_)
  subst hA
  refine z_iload_n (n := 1) C 0 dX10_isSheet_0 rfl rfl ?_
  refine z_iconst (n := 2) (v := 0) C dX10_isSheet_1 rfl rfl ?_
  refine z_iconst (n := 3) (v := 3) C dX10_isSheet_2 rfl rfl ?_
  refine z_si_3 (n := 6) (d' := 1) C K dX10_isSheet_3 rfl yk_X10_within kT_yX10_within kM_RX10_92 (by decide) hR0 rfl ?_
  refine c_X10_within (fun b3 => ?_) (fun b3 => ?_)
  · refine z_zret C E dX10_isSheet_6 (by decide) ?_
    exact h1 (by simpa only [Int32.reduceToInt] using b3)
  · refine z_zret C E dX10_isSheet_6 (by decide) ?_
    exact h0 (by simpa only [Int32.reduceToInt] using b3)
set_option maxHeartbeats 4000000 in
set_option maxRecDepth 100000 in
theorem c_X10_isSort {ad : Nat → Nat} {I : KI} {J : KJ} {t : Nat} {v : Int32} {Q : Int32 → KI → KJ → KR → Prop} (h1 : (0 ≤ v.toInt ∧ v.toInt ≤ 2) → Q 1 I J (rf t)) (h0 : ¬ (0 ≤ v.toInt ∧ v.toInt ≤ 2) → Q 0 I J (rf t)) : Mi 2 yX10_isSort (wm yX10_isSort cX10_isSort 1 (some .boolean)) [.int (v)] ad I J (rf t) Q := by
  refine mi_of (own := RX10) yk_X10_isSort rfl (Nat.le_of_ble_eq_true rfl) rfl (fun X hA hnL C K E => ?_)
  subst hA
  refine z_iload_n (n := 1) C 0 dX10_isSort_0 rfl rfl ?_
  refine z_iconst (n := 2) (v := 0) C dX10_isSort_1 rfl rfl ?_
  refine z_iconst (n := 3) (v := 2) C dX10_isSort_2 rfl rfl ?_
  refine z_si_3 (n := 6) (d' := 1) C K dX10_isSort_3 rfl yk_X10_within kT_yX10_within kM_RX10_92 (by decide) hR0 rfl ?_
  refine c_X10_within (fun b3 => ?_) (fun b3 => ?_)
  · refine z_zret C E dX10_isSort_6 (by decide) ?_
    exact h1 (by simpa only [Int32.reduceToInt] using b3)
  · refine z_zret C E dX10_isSort_6 (by decide) ?_
    exact h0 (by simpa only [Int32.reduceToInt] using b3)
set_option maxHeartbeats 4000000 in
set_option maxRecDepth 100000 in
theorem c_X6_reaches {ad : Nat → Nat} {I : KI} {J : KJ} {t : Nat} {k c : Nat} (hk : k < 4) (hc : c ≤ 100) (hI : I (67 + 2 * k) 2 = nI c) {i n : Int32} {Q : Int32 → KI → KJ → KR → Prop} (h1 : (0 ≤ i.toInt ∧ 0 ≤ n.toInt ∧ i.toInt + n.toInt ≤ c) → Q 1 I J (rf t)) (h0 : ¬ (0 ≤ i.toInt ∧ 0 ≤ n.toInt ∧ i.toInt + n.toInt ≤ c) → Q 0 I J (rf t)) : Mi 1 yX6_reaches (wm yX6_reaches cX6_reaches 3 (some .boolean)) [.ref (ad (67 + 2 * k)), .int (i), .int (n)] ad I J (rf t) Q := by
  refine mi_of (own := RX6) yk_X6_reaches rfl (Nat.le_of_ble_eq_true rfl) rfl (fun X hA hnL C K E => ?_)
  subst hA
  refine z_iload_n (n := 1) C 1 dX6_reaches_0 rfl rfl ?_
  refine z_if_lt (tgt := 22) (n := 4) C dX6_reaches_1 rfl rfl (fun c1 => ?_) (fun c1 => ?_)
  · refine z_iconst (n := 23) (v := 0) C dX6_reaches_22 rfl rfl ?_
    refine z_zret C E dX6_reaches_23 (by decide) ?_
    exact h0 (by simp only [fa_lt, Int32.reduceToInt] at c1; omega)
  · refine z_iload_n (n := 5) C 2 dX6_reaches_4 rfl rfl ?_
    refine z_if_lt (tgt := 22) (n := 8) C dX6_reaches_5 rfl rfl (fun c5 => ?_) (fun c5 => ?_)
    · refine z_iconst (n := 23) (v := 0) C dX6_reaches_22 rfl rfl ?_
      refine z_zret C E dX6_reaches_23 (by decide) ?_
      exact h0 (by simp only [fa_lt, Int32.reduceToInt] at c1 c5; omega)
    · refine z_iload_n (n := 9) C 1 dX6_reaches_8 rfl rfl ?_
      refine z_aload_n (n := 10) C 0 dX6_reaches_9 rfl rfl ?_
      refine z_getI (n := 13) C K fF_RX6_19 dX6_reaches_10 rfl (sh_sheet hk) (lt_sheet hk) ?_
      refine z_iload_n (n := 14) C 2 dX6_reaches_13 rfl rfl ?_
      refine z_isub (n := 15) C dX6_reaches_14 rfl ?_
      have hcn := nI_toInt (n := c) (by omega)
      have hr := fb_rng i
      have hr2 := fb_rng n
      simp only [fa_lt, Int32.reduceToInt] at c1 c5
      have hsub : (I (67 + 2 * k) 2 - n).toInt = c - n.toInt := by rw [hI, fb_subI (by omega) (by omega), hcn]
      refine z_icmp_gt (tgt := 22) (n := 18) C dX6_reaches_15 rfl rfl (fun c15 => ?_) (fun c15 => ?_)
      · refine z_iconst (n := 23) (v := 0) C dX6_reaches_22 rfl rfl ?_
        refine z_zret C E dX6_reaches_23 (by decide) ?_
        rw [fa_lt, hsub] at c15
        exact h0 (by omega)
      · refine z_iconst (n := 19) (v := 1) C dX6_reaches_18 rfl rfl ?_
        refine z_goto (n := 23) C dX6_reaches_19 rfl ?_
        refine z_zret C E dX6_reaches_23 (by decide) ?_
        rw [fa_lt, hsub] at c15
        exact h1 (by omega)
set_option maxHeartbeats 4000000 in
set_option maxRecDepth 100000 in
theorem c_X6_at {ad : Nat → Nat} {I : KI} {J : KJ} {t : Nat} {k c : Nat} (hk : k < 4) (hc : c ≤ 100) (hI : I (67 + 2 * k) 2 = nI c) {i : Int32} {Q : Int32 → KI → KJ → KR → Prop} (h1 : ∀ j : Nat, i = nI j → j < c → Q (I (68 + 2 * k) j) I J (rf t)) (h0 : ¬ (0 ≤ i.toInt ∧ i.toInt < c) → Q 0 I J (rf t)) : Mi 2 yX6_at (wm yX6_at cX6_at 2 (some .int)) [.ref (ad (67 + 2 * k)), .int (i)] ad I J (rf t) Q := by
  refine mi_of (own := RX6) yk_X6_at rfl (Nat.le_of_ble_eq_true rfl) rfl (fun X hA hnL C K E => ?_)
  subst hA
  refine z_aload_n (n := 1) C 0 dX6_at_0 rfl rfl ?_
  refine z_iload_n (n := 2) C 1 dX6_at_1 rfl rfl ?_
  refine z_iconst (n := 3) (v := 1) C dX6_at_2 rfl rfl ?_
  refine z_vi_2 (n := 6) (d' := 1) C K dX6_at_3 rfl yk_X6_reaches yv_X6_reaches kM_RX6_35 (by decide) hR0 rfl rfl (sh_sheet hk) (by decide) (lt_sheet hk) ?_
  refine c_X6_reaches hk hc hI (fun b3 => ?_) (fun b3 => ?_)
  · refine z_ifF_eq (n := 9) (tgt := 18) C (by decide) dX6_at_6 rfl rfl ?_
    refine z_aload_n (n := 10) C 0 dX6_at_9 rfl rfl ?_
    refine z_getR (n := 13) (q := (68 + 2 * k)) C K fF_RX6_22 dX6_at_10 rfl rfl (sh_sheet hk) (lt_sheet hk) (rf_cells hk) ?_
    refine z_iload_n (n := 14) C 1 dX6_at_13 rfl rfl ?_
    obtain ⟨j, hj, rfl⟩ := i_natlt (x := i) (n := c) b3.1 (by have := b3.2.2; simp only [Int32.reduceToInt] at this; omega)
    refine z_ialdN (n := 15) C K j dX6_at_14 rfl (sh_cells hk) (lt_cells hk) rfl (by omega) (by decide) ?_
    refine z_goto (n := 19) C dX6_at_15 rfl ?_
    refine z_iret C E dX6_at_19 ?_
    exact h1 j rfl hj
  · refine z_ifT_eq (tgt := 18) C (by decide) dX6_at_6 rfl ?_
    refine z_iconst (n := 19) (v := 0) C dX6_at_18 rfl rfl ?_
    refine z_iret C E dX6_at_19 ?_
    exact h0 (by simp only [Int32.reduceToInt] at b3; omega)
