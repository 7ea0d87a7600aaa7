set_option maxHeartbeats 4000000 in
set_option maxRecDepth 100000 in
theorem c_X9_isCorner {ad : Nat → Nat} {I : KI} {J : KJ} {t : Nat} {n : Nat} (ht : Tw t) (hn : I t 0 = nI n) (hn7 : n ≤ 7) {v : Int32} {Q : Int32 → KI → KJ → KR → Prop} (h1 : isN n v → Q 1 I J (rf t)) (h0 : ¬ isN n v → Q 0 I J (rf t)) : Mi 1 yX9_isCorner (wm yX9_isCorner cX9_isCorner 2 (some .boolean)) [.ref (ad 0), .int (v)] ad I J (rf t) Q := by
  refine mi_of (own := RX9) yk_X9_isCorner rfl (Nat.le_of_ble_eq_true rfl) rfl (fun X hA hnL C K E => ?_)
  subst hA
  refine z_iload_n (n := 1) C 1 dX9_isCorner_0 rfl rfl ?_
  refine z_if_lt (tgt := 19) (n := 4) C dX9_isCorner_1 rfl rfl (fun c1 => ?_) (fun c1 => ?_)
  · refine z_iconst (n := 20) (v := 0) C dX9_isCorner_19 rfl rfl ?_
    refine z_zret C E dX9_isCorner_20 (by decide) ?_
    simp only [fa_lt, fa_le, Int32.reduceToInt] at c1
    exact h0 (by unfold isN; omega)
  · refine z_iload_n (n := 5) C 1 dX9_isCorner_4 rfl rfl ?_
    refine z_aload_n (n := 6) C 0 dX9_isCorner_5 rfl rfl ?_
    refine z_getR (n := 9) (q := t) C K fF_RX9_27 dX9_isCorner_6 rfl rfl sh_0 (by decide) rfl ?_
    refine z_getI (n := 12) C K fF_RX9_348 dX9_isCorner_9 rfl (sh_tw ht) (Tw.lt0 ht) ?_
    refine z_icmp_ge (tgt := 19) (n := 15) C dX9_isCorner_12 rfl rfl (fun c12 => ?_) (fun c12 => ?_)
    · refine z_iconst (n := 20) (v := 0) C dX9_isCorner_19 rfl rfl ?_
      refine z_zret C E dX9_isCorner_20 (by decide) ?_
      simp only [fa_lt, fa_le, Int32.reduceToInt] at c1 c12
      rw [hn, nI_toInt (by omega)] at c12
      exact h0 (by unfold isN; omega)
    · refine z_iconst (n := 16) (v := 1) C dX9_isCorner_15 rfl rfl ?_
      refine z_goto (n := 20) C dX9_isCorner_16 rfl ?_
      refine z_zret C E dX9_isCorner_20 (by decide) ?_
      simp only [fa_lt, fa_le, Int32.reduceToInt] at c1 c12
      rw [hn, nI_toInt (by omega)] at c12
      exact h1 (by unfold isN; omega)
set_option maxHeartbeats 4000000 in
set_option maxRecDepth 100000 in
theorem c_X9_isChild {ad : Nat → Nat} {I : KI} {J : KJ} {t : Nat} {c : Nat} (h5 : I 0 5 = nI c) (hc : c ≤ 10) {v : Int32} {Q : Int32 → KI → KJ → KR → Prop} (h1 : isN c v → Q 1 I J (rf t)) (h0 : ¬ isN c v → Q 0 I J (rf t)) : Mi 1 yX9_isChild (wm yX9_isChild cX9_isChild 2 (some .boolean)) [.ref (ad 0), .int (v)] ad I J (rf t) Q := by
  refine mi_of (own := RX9) yk_X9_isChild rfl (Nat.le_of_ble_eq_true rfl) rfl (fun X hA hnL C K E => ?_)
  subst hA
  refine z_iload_n (n := 1) C 1 dX9_isChild_0 rfl rfl ?_
  refine z_if_lt (tgt := 16) (n := 4) C dX9_isChild_1 rfl rfl (fun c1 => ?_) (fun c1 => ?_)
  · refine z_iconst (n := 17) (v := 0) C dX9_isChild_16 rfl rfl ?_
    refine z_zret C E dX9_isChild_17 (by decide) ?_
    simp only [fa_lt, fa_le, Int32.reduceToInt] at c1
    exact h0 (by unfold isN; omega)
  · refine z_iload_n (n := 5) C 1 dX9_isChild_4 rfl rfl ?_
    refine z_aload_n (n := 6) C 0 dX9_isChild_5 rfl rfl ?_
    refine z_getI (n := 9) C K fF_RX9_40 dX9_isChild_6 rfl sh_0 (by decide) ?_
    refine z_icmp_ge (tgt := 16) (n := 12) C dX9_isChild_9 rfl rfl (fun c9 => ?_) (fun c9 => ?_)
    · refine z_iconst (n := 17) (v := 0) C dX9_isChild_16 rfl rfl ?_
      refine z_zret C E dX9_isChild_17 (by decide) ?_
      simp only [fa_lt, fa_le, Int32.reduceToInt] at c1 c9
      rw [h5, nI_toInt (by omega)] at c9
      exact h0 (by unfold isN; omega)
    · refine z_iconst (n := 13) (v := 1) C dX9_isChild_12 rfl rfl ?_
      refine z_goto (n := 17) C dX9_isChild_13 rfl ?_
      refine z_zret C E dX9_isChild_17 (by decide) ?_
      simp only [fa_lt, fa_le, Int32.reduceToInt] at c1 c9
      rw [h5, nI_toInt (by omega)] at c9
      exact h1 (by unfold isN; omega)
set_option maxHeartbeats 4000000 in
set_option maxRecDepth 100000 in
theorem c_X9_isSet {ad : Nat → Nat} {I : KI} {J : KJ} {t : Nat} {c : Nat} (h5 : I 0 5 = nI c) (hc : c ≤ 10) {v : Int32} {Q : Int32 → KI → KJ → KR → Prop} (h1 : isS c v → Q 1 I J (rf t)) (h0 : ¬ isS c v → Q 0 I J (rf t)) : Mi 1 yX9_isSet (wm yX9_isSet cX9_isSet 2 (some .boolean)) [.ref (ad 0), .int (v)] ad I J (rf t) Q := by
  refine mi_of (own := RX9) yk_X9_isSet rfl (Nat.le_of_ble_eq_true rfl) rfl (fun X hA hnL C K E => ?_)
  subst hA
  refine z_iload_n (n := 1) C 1 dX9_isSet_0 rfl rfl ?_
  refine z_if_le (tgt := 17) (n := 4) C dX9_isSet_1 rfl rfl (fun c1 => ?_) (fun c1 => ?_)
  · refine z_iconst (n := 18) (v := 0) C dX9_isSet_17 rfl rfl ?_
    refine z_zret C E dX9_isSet_18 (by decide) ?_
    simp only [fa_le, Int32.reduceToInt] at c1
    exact h0 (fun q => by
      obtain ⟨m, hm, hm2, rfl⟩ := q
      have h2 : (2 : Nat) ^ c ≤ 2 ^ 10 := Nat.pow_le_pow_right (by decide) hc
      rw [nI_toInt (by omega)] at c1; omega)
  · refine z_iload_n (n := 5) C 1 dX9_isSet_4 rfl rfl ?_
    refine z_aload_n (n := 6) C 0 dX9_isSet_5 rfl rfl ?_
    refine z_getI (n := 9) C K fF_RX9_40 dX9_isSet_6 rfl sh_0 (by decide) ?_
    refine z_ishr (n := 10) C dX9_isSet_9 rfl ?_
    refine z_if_ne (tgt := 17) (n := 13) C dX9_isSet_10 rfl rfl (fun c10 => ?_) (fun c10 => ?_)
    · refine z_iconst (n := 18) (v := 0) C dX9_isSet_17 rfl rfl ?_
      refine z_zret C E dX9_isSet_18 (by decide) ?_
      simp only [fa_le, Int32.reduceToInt] at c1
      rw [h5] at c10
      exact h0 (fun q => by obtain ⟨m, hm, hm2, rfl⟩ := q; exact c10 (set_nlt hc hm2))
    · refine z_iconst (n := 14) (v := 1) C dX9_isSet_13 rfl rfl ?_
      refine z_goto (n := 18) C dX9_isSet_14 rfl ?_
      refine z_zret C E dX9_isSet_18 (by decide) ?_
      simp only [fa_le, Int32.reduceToInt] at c1
      rw [h5] at c10
      exact h1 (set_lt hc (by omega) c10)
set_option maxHeartbeats 4000000 in
set_option maxRecDepth 100000 in
theorem c_X9_fail {ad : Nat → Nat} {I : KI} {J : KJ} {t : Nat} {v : Int32} {Q : Int32 → KI → KJ → KR → Prop} (hQ : Q (-10 - v) (upI I 0 13 v) J (rf t)) : Mi 1 yX9_fail (wm yX9_fail cX9_fail 2 (some .int)) [.ref (ad 0), .int (v)] ad I J (rf t) Q := by
  refine mi_of (own := RX9) yk_X9_fail rfl (Nat.le_of_ble_eq_true rfl) rfl (fun X hA hnL C K E => ?_)
  subst hA
  refine z_aload_n (n := 1) C 0 dX9_fail_0 rfl rfl ?_
  refine z_iload_n (n := 2) C 1 dX9_fail_1 rfl rfl ?_
  refine z_putI (n := 5) C K fF_RX9_78 dX9_fail_2 rfl sh_0 (by decide) ?_
  refine z_bipush (n := 7) (v := (-10)) C dX9_fail_5 rfl rfl ?_
  refine z_iload_n (n := 8) C 1 dX9_fail_7 rfl rfl ?_
  refine z_isub (n := 9) C dX9_fail_8 rfl ?_
  refine z_iret C E dX9_fail_9 ?_
  exact hQ
set_option maxHeartbeats 4000000 in
set_option maxRecDepth 100000 in
theorem c_X9_leaveTrace {ad : Nat → Nat} {I : KI} {J : KJ} {t : Nat} {v : Int32} {Q : KI → KJ → KR → Prop} (hQ : Q (upI I 0 12 (31 * I 0 12 + v)) J (rf t)) : Mv 1 yX9_leaveTrace (wm yX9_leaveTrace cX9_leaveTrace 2 none) [.ref (ad 0), .int (v)] ad I J (rf t) Q := by
  refine mv_of (own := RX9) yk_X9_leaveTrace rfl (Nat.le_of_ble_eq_true rfl) rfl (fun X hA hnL C K E => ?_)
  subst hA
  refine z_aload_n (n := 1) C 0 dX9_leaveTrace_0 rfl rfl ?_
  refine z_bipush (n := 3) (v := 31) C dX9_leaveTrace_1 rfl rfl ?_
  refine z_aload_n (n := 4) C 0 dX9_leaveTrace_3 rfl rfl ?_
  refine z_getI (n := 7) C K fF_RX9_75 dX9_leaveTrace_4 rfl sh_0 (by decide) ?_
  refine z_imul (n := 8) C dX9_leaveTrace_7 rfl ?_
  refine z_iload_n (n := 9) C 1 dX9_leaveTrace_8 rfl rfl ?_
  refine z_iadd (n := 10) C dX9_leaveTrace_9 rfl ?_
  refine z_putI (n := 13) C K fF_RX9_75 dX9_leaveTrace_10 rfl sh_0 (by decide) ?_
  refine z_vret C E dX9_leaveTrace_13 ?_
  exact hQ
theorem c_inB {ad : Nat → Nat} {I : KI} {J : KJ} {t : Nat} {v a b : Int32} {lo hi : Int} (ha : a.toInt = lo) (hb : b.toInt = hi) {Q : Int32 → KI → KJ → KR → Prop} (h1 : isB lo hi v → Q 1 I J (rf t)) (h0 : ¬ isB lo hi v → Q 0 I J (rf t)) : Mi 1 yX9_isWithin (wm yX9_isWithin cX9_isWithin 3 (some .boolean)) [.int v, .int a, .int b] ad I J (rf t) Q := by
  subst ha hb
  exact c_X9_isWithin h1 h0
theorem m_inB {ad : Nat → Nat} {I : KI} {J : KJ} {t : Nat} {v a b : Int32} {lo hi : Int} (ha : a.toInt = lo) (hb : b.toInt = hi) {Q : Int32 → KI → KJ → KR → Prop} (h1 : isB lo hi v → Q 1 I J (rf t)) (h0 : ¬ isB lo hi v → Q 0 I J (rf t)) : Mi 1 yX10_within (wm yX10_within cX10_within 3 (some .boolean)) [.int v, .int a, .int b] ad I J (rf t) Q := by
  subst ha hb
  exact c_X10_within h1 h0
