theorem mKd.tr {I : KI} {c : Nat} {ki co ag re : Nat → Nat} {T : Nat → Nat → Nat} (h : mKd I c ki co ag re T) {j : Nat} (hj : j ≠ 19) {v : Int32} : mKd (upI I 85 j v) c ki co ag re T := h.fr (upI_k _ _ (by omega)) (fun p h1 h2 => upI_row _ _ (by omega))
theorem mSh.fa {I : KI} {th : Nat → Bool} {so ct : Nat → Nat} {ce : Nat → Nat → Int32} (h : mSh I th so ct ce) {j : Nat} {v : Int32} : mSh (upI I 85 j v) th so ct ce := h.fr (fun p hp _ => upI_row _ _ (by omega))
set_option maxHeartbeats 4000000 in
set_option maxRecDepth 100000 in
theorem c_X10_fails {ad : Nat → Nat} {I : KI} {J : KJ} {t : Nat} {v : Int32} {Q : Int32 → KI → KJ → KR → Prop} (hQ : Q (-10 - v) (upI I 85 0 v) J (rf t)) : Mi 1 yX10_fails (wm yX10_fails cX10_fails 2 (some .int)) [.ref (ad 85), .int (v)] ad I J (rf t) Q := by
  refine mi_of (own := RX10) yk_X10_fails rfl (Nat.le_of_ble_eq_true rfl) rfl (fun X hA hnL C K E => ?_)
  subst hA
  refine z_aload_n (n := 1) C 0 dX10_fails_0 rfl rfl ?_
  refine z_iload_n (n := 2) C 1 dX10_fails_1 rfl rfl ?_
  refine z_putI (n := 5) C K fF_RX10_87 dX10_fails_2 rfl sh_85 (by decide) ?_
  refine z_bipush (n := 7) (v := (-10)) C dX10_fails_5 rfl rfl ?_
  refine z_iload_n (n := 8) C 1 dX10_fails_7 rfl rfl ?_
  refine z_isub (n := 9) C dX10_fails_8 rfl ?_
  refine z_iret C E dX10_fails_9 ?_
  exact hQ
set_option maxHeartbeats 4000000 in
set_option maxRecDepth 100000 in
theorem c_X10_lost {ad : Nat → Nat} {I : KI} {J : KJ} {t : Nat} {v : Int32} {Q : Int64 → KI → KJ → KR → Prop} (hQ : Q (-9223372036854775808) (upI I 85 0 v) J (rf t)) : Ml 1 yX10_lost (wm yX10_lost cX10_lost 2 (some .long)) [.ref (ad 85), .int (v)] ad I J (rf t) Q := by
  refine ml_of (own := RX10) yk_X10_lost rfl (Nat.le_of_ble_eq_true rfl) rfl (fun X hA hnL C K E => ?_)
  subst hA
  refine z_aload_n (n := 1) C 0 dX10_lost_0 rfl rfl ?_
  refine z_iload_n (n := 2) C 1 dX10_lost_1 rfl rfl ?_
  refine z_putI (n := 5) C K fF_RX10_87 dX10_lost_2 rfl sh_85 (by decide) ?_
  refine z_ldc2 (n := 8) C dX10_lost_5 kK_RX10_90 rfl ?_
  refine z_lret C E dX10_lost_8 ?_
  exact hQ
set_option maxHeartbeats 4000000 in
set_option maxRecDepth 100000 in
theorem c_X10_begins {ad : Nat → Nat} {I : KI} {J : KJ} {t : Nat} {v : Int32} {Q : KI → KJ → KR → Prop} (hQ : Q (upI I 85 1 (31 * I 85 1 + v)) J (rf t)) : Mv 1 yX10_begins (wm yX10_begins cX10_begins 2 none) [.ref (ad 85), .int (v)] ad I J (rf t) Q := by
  refine mv_of (own := RX10) yk_X10_begins rfl (Nat.le_of_ble_eq_true rfl) rfl (fun X hA hnL C K E => ?_)
  subst hA
  refine z_aload_n (n := 1) C 0 dX10_begins_0 rfl rfl ?_
  refine z_bipush (n := 3) (v := 31) C dX10_begins_1 rfl rfl ?_
  refine z_aload_n (n := 4) C 0 dX10_begins_3 rfl rfl ?_
  refine z_getI (n := 7) C K fF_RX10_310 dX10_begins_4 rfl sh_85 (by decide) ?_
  refine z_imul (n := 8) C dX10_begins_7 rfl ?_
  refine z_iload_n (n := 9) C 1 dX10_begins_8 rfl rfl ?_
  refine z_iadd (n := 10) C dX10_begins_9 rfl ?_
  refine z_putI (n := 13) C K fF_RX10_310 dX10_begins_10 rfl sh_85 (by decide) ?_
  refine z_vret C E dX10_begins_13 ?_
  exact hQ
set_option maxHeartbeats 4000000 in
set_option maxRecDepth 100000 in
theorem c_X10_has {ad : Nat → Nat} {I : KI} {J : KJ} {t : Nat} {m k : Nat} (hm : m < 2 ^ 31) (hk : k < 32) {Q : Int32 → KI → KJ → KR → Prop} (h1 : m.testBit k = true → Q 1 I J (rf t)) (h0 : m.testBit k = false → Q 0 I J (rf t)) : Mi 1 yX10_has (wm yX10_has cX10_has 2 (some .boolean)) [.int (nI m), .int (nI k)] ad I J (rf t) Q := by
  refine mi_of (own := RX10) yk_X10_has rfl (Nat.le_of_ble_eq_true rfl) rfl (fun X hA hnL C K E => ?_)
  subst hA
  refine z_iload_n (n := 1) C 0 dX10_has_0 rfl rfl ?_
  refine z_iload_n (n := 2) C 1 dX10_has_1 rfl rfl ?_
  refine z_ishr (n := 3) C dX10_has_2 rfl ?_
  refine z_iconst (n := 4) (v := 1) C dX10_has_3 rfl rfl ?_
  refine z_iand (n := 5) C dX10_has_4 rfl ?_
  refine z_iconst (n := 6) (v := 1) C dX10_has_5 rfl rfl ?_
  rw [bt_nI hm hk]
  refine z_icmp_ne (tgt := 13) (n := 9) C dX10_has_6 rfl rfl (fun c6 => ?_) (fun c6 => ?_)
  · refine z_iconst (n := 14) (v := 0) C dX10_has_13 rfl rfl ?_
    refine z_zret C E dX10_has_14 (by decide) ?_
    cases hb : m.testBit k with
    | true => first | exact h1 hb | (rw [hb] at c6; exfalso; revert c6; decide)
    | false => first | exact h0 hb | (rw [hb] at c6; exfalso; revert c6; decide)
  · refine z_iconst (n := 10) (v := 1) C dX10_has_9 rfl rfl ?_
    refine z_goto (n := 14) C dX10_has_10 rfl ?_
    refine z_zret C E dX10_has_14 (by decide) ?_
    cases hb : m.testBit k with
    | true => first | exact h1 hb | (rw [hb] at c6; exfalso; revert c6; decide)
    | false => first | exact h0 hb | (rw [hb] at c6; exfalso; revert c6; decide)
set_option maxHeartbeats 4000000 in
set_option maxRecDepth 100000 in
theorem c_X10_isCorner {ad : Nat → Nat} {I : KI} {J : KJ} {t : Nat} {n : Nat} (hn : I 85 5 = nI n) (hn7 : n ≤ 7) {v : Int32} {Q : Int32 → KI → KJ → KR → Prop} (h1 : isN n v → Q 1 I J (rf t)) (h0 : ¬ isN n v → Q 0 I J (rf t)) : Mi 1 yX10_isCorner (wm yX10_isCorner cX10_isCorner 2 (some .boolean)) [.ref (ad 85), .int (v)] ad I J (rf t) Q := by
  refine mi_of (own := RX10) yk_X10_isCorner rfl (Nat.le_of_ble_eq_true rfl) rfl (fun X hA hnL C K E => ?_)
  subst hA
  refine z_iload_n (n := 1) C 1 dX10_isCorner_0 rfl rfl ?_
  refine z_if_lt (tgt := 16) (n := 4) C dX10_isCorner_1 rfl rfl (fun c1 => ?_) (fun c1 => ?_)
  · refine z_iconst (n := 17) (v := 0) C dX10_isCorner_16 rfl rfl ?_
    refine z_zret C E dX10_isCorner_17 (by decide) ?_
    simp only [fa_lt, fa_le, Int32.reduceToInt] at c1
    exact h0 (by unfold isN; omega)
  · refine z_iload_n (n := 5) C 1 dX10_isCorner_4 rfl rfl ?_
    refine z_aload_n (n := 6) C 0 dX10_isCorner_5 rfl rfl ?_
    refine z_getI (n := 9) C K fF_RX10_96 dX10_isCorner_6 rfl sh_85 (by decide) ?_
    refine z_icmp_ge (tgt := 16) (n := 12) C dX10_isCorner_9 rfl rfl (fun c9 => ?_) (fun c9 => ?_)
    · refine z_iconst (n := 17) (v := 0) C dX10_isCorner_16 rfl rfl ?_
      refine z_zret C E dX10_isCorner_17 (by decide) ?_
      simp only [fa_lt, fa_le, Int32.reduceToInt] at c1 c9
      rw [hn, nI_toInt (by omega)] at c9
      exact h0 (by unfold isN; omega)
    · refine z_iconst (n := 13) (v := 1) C dX10_isCorner_12 rfl rfl ?_
      refine z_goto (n := 17) C dX10_isCorner_13 rfl ?_
      refine z_zret C E dX10_isCorner_17 (by decide) ?_
      simp only [fa_lt, fa_le, Int32.reduceToInt] at c1 c9
      rw [hn, nI_toInt (by omega)] at c9
      exact h1 (by unfold isN; omega)
set_option maxHeartbeats 4000000 in
set_option maxRecDepth 100000 in
theorem c_X10_isChild {ad : Nat → Nat} {I : KI} {J : KJ} {t : Nat} {c : Nat} (h5 : I 85 19 = nI c) (hc : c ≤ 10) {v : Int32} {Q : Int32 → KI → KJ → KR → Prop} (h1 : isN c v → Q 1 I J (rf t)) (h0 : ¬ isN c v → Q 0 I J (rf t)) : Mi 1 yX10_isChild (wm yX10_isChild cX10_isChild 2 (some .boolean)) [.ref (ad 85), .int (v)] ad I J (rf t) Q := by
  refine mi_of (own := RX10) yk_X10_isChild rfl (Nat.le_of_ble_eq_true rfl) rfl (fun X hA hnL C K E => ?_)
  subst hA
  refine z_iload_n (n := 1) C 1 dX10_isChild_0 rfl rfl ?_
  refine z_if_lt (tgt := 16) (n := 4) C dX10_isChild_1 rfl rfl (fun c1 => ?_) (fun c1 => ?_)
  · refine z_iconst (n := 17) (v := 0) C dX10_isChild_16 rfl rfl ?_
    refine z_zret C E dX10_isChild_17 (by decide) ?_
    simp only [fa_lt, fa_le, Int32.reduceToInt] at c1
    exact h0 (by unfold isN; omega)
  · refine z_iload_n (n := 5) C 1 dX10_isChild_4 rfl rfl ?_
    refine z_aload_n (n := 6) C 0 dX10_isChild_5 rfl rfl ?_
    refine z_getI (n := 9) C K fF_RX10_133 dX10_isChild_6 rfl sh_85 (by decide) ?_
    refine z_icmp_ge (tgt := 16) (n := 12) C dX10_isChild_9 rfl rfl (fun c9 => ?_) (fun c9 => ?_)
    · refine z_iconst (n := 17) (v := 0) C dX10_isChild_16 rfl rfl ?_
      refine z_zret C E dX10_isChild_17 (by decide) ?_
      simp only [fa_lt, fa_le, Int32.reduceToInt] at c1 c9
      rw [h5, nI_toInt (by omega)] at c9
      exact h0 (by unfold isN; omega)
    · refine z_iconst (n := 13) (v := 1) C dX10_isChild_12 rfl rfl ?_
      refine z_goto (n := 17) C dX10_isChild_13 rfl ?_
      refine z_zret C E dX10_isChild_17 (by decide) ?_
      simp only [fa_lt, fa_le, Int32.reduceToInt] at c1 c9
      rw [h5, nI_toInt (by omega)] at c9
      exact h1 (by unfold isN; omega)
set_option maxHeartbeats 4000000 in
set_option maxRecDepth 100000 in
theorem c_X10_isSet {ad : Nat → Nat} {I : KI} {J : KJ} {t : Nat} {c : Nat} (h5 : I 85 19 = nI c) (hc : c ≤ 10) {v : Int32} {Q : Int32 → KI → KJ → KR → Prop} (h1 : isS c v → Q 1 I J (rf t)) (h0 : ¬ isS c v → Q 0 I J (rf t)) : Mi 1 yX10_isSet (wm yX10_isSet cX10_isSet 2 (some .boolean)) [.ref (ad 85), .int (v)] ad I J (rf t) Q := by
  refine mi_of (own := RX10) yk_X10_isSet rfl (Nat.le_of_ble_eq_true rfl) rfl (fun X hA hnL C K E => ?_)
  subst hA
  refine z_iload_n (n := 1) C 1 dX10_isSet_0 rfl rfl ?_
  refine z_if_le (tgt := 18) (n := 4) C dX10_isSet_1 rfl rfl (fun c1 => ?_) (fun c1 => ?_)
  · refine z_iconst (n := 19) (v := 0) C dX10_isSet_18 rfl rfl ?_
    refine z_zret C E dX10_isSet_19 (by decide) ?_
    simp only [fa_le, Int32.reduceToInt] at c1
    exact h0 (fun q => by
      obtain ⟨m, hm, hm2, rfl⟩ := q
      have h10 : (2 : Nat) ^ c ≤ 2 ^ 10 := Nat.pow_le_pow_right (by decide) hc
      rw [nI_toInt (by omega)] at c1; omega)
  · have h10 : (2 : Nat) ^ c ≤ 2 ^ 10 := Nat.pow_le_pow_right (by decide) hc
    refine z_iload_n (n := 5) C 1 dX10_isSet_4 rfl rfl ?_
    refine z_iconst (n := 6) (v := 1) C dX10_isSet_5 rfl rfl ?_
    refine z_aload_n (n := 7) C 0 dX10_isSet_6 rfl rfl ?_
    refine z_getI (n := 10) C K fF_RX10_133 dX10_isSet_7 rfl sh_85 (by decide) ?_
    refine z_ishl (n := 11) C dX10_isSet_10 rfl ?_
    rw [h5, one_shl c (by omega)]
    refine z_icmp_ge (tgt := 18) (n := 14) C dX10_isSet_11 rfl rfl (fun c11 => ?_) (fun c11 => ?_)
    · refine z_iconst (n := 19) (v := 0) C dX10_isSet_18 rfl rfl ?_
      refine z_zret C E dX10_isSet_19 (by decide) ?_
      simp only [fa_le, Int32.reduceToInt] at c1
      rw [fa_le, nI_toInt (by omega)] at c11
      exact h0 (fun q => by obtain ⟨m, hm, hm2, rfl⟩ := q; rw [nI_toInt (by omega)] at c11; omega)
    · refine z_iconst (n := 15) (v := 1) C dX10_isSet_14 rfl rfl ?_
      refine z_goto (n := 19) C dX10_isSet_15 rfl ?_
      refine z_zret C E dX10_isSet_19 (by decide) ?_
      simp only [fa_le, Int32.reduceToInt] at c1
      rw [fa_le, nI_toInt (by omega)] at c11
      obtain ⟨m, hm, rfl⟩ := i_nat (x := v) (by omega)
      rw [nI_toInt hm] at c1 c11
      exact h1 ⟨m, by omega, by omega, rfl⟩
set_option maxHeartbeats 4000000 in
set_option maxRecDepth 100000 in
theorem c_X10_paceOf {ad : Nat → Nat} {I : KI} {J : KJ} {t : Nat} {x kd ag : Nat} (hx : x < 10) (h0 : I 96 x = nI kd) (h2 : I 98 x = nI ag) (hkd : kd < 3) (hag : ag < 12) {Q : Int32 → KI → KJ → KR → Prop} (hQ : Q (nI (paceS kd ag)) I J (rf t)) : Mi 1 yX10_paceOf (wm yX10_paceOf cX10_paceOf 4 (some .int)) [.ref (ad 85), .int (nI x)] ad I J (rf t) Q := by
  refine mi_of (own := RX10) yk_X10_paceOf rfl (Nat.le_of_ble_eq_true rfl) rfl (fun X hA hnL C K E => ?_)
  subst hA
  refine z_aload_n (n := 1) C 0 dX10_paceOf_0 rfl rfl ?_
  refine z_getR (n := 4) (q := 98) C K fF_RX10_46 dX10_paceOf_1 rfl rfl sh_85 (by decide) rfl ?_
  refine z_iload_n (n := 5) C 1 dX10_paceOf_4 rfl rfl ?_
  refine z_ialdN (n := 6) C K x dX10_paceOf_5 rfl sh_98 (by decide) rfl hx (by decide) ?_
  refine z_istore_n (n := 7) (L' := [(2, _), (0, _), (1, _)]) C dX10_paceOf_6 rfl (by rw [hnL]; decide) rfl ?_
  refine z_iload_n (n := 8) C 0 dX10_paceOf_7 rfl rfl ?_
  refine z_bipush (n := 10) (v := 6) C dX10_paceOf_8 rfl rfl ?_
  refine z_icmp_ge (tgt := 17) (n := 13) C dX10_paceOf_10 rfl rfl (fun c10 => ?_) (fun c10 => ?_)
  · refine z_iload_n (n := 18) C 0 dX10_paceOf_17 rfl rfl ?_
    refine z_bipush (n := 20) (v := 9) C dX10_paceOf_18 rfl rfl ?_
    refine z_icmp_ge (tgt := 27) (n := 23) C dX10_paceOf_20 rfl rfl (fun c20 => ?_) (fun c20 => ?_)
    · refine z_iconst (n := 28) (v := 1) C dX10_paceOf_27 rfl rfl ?_
      refine z_istore_n (n := 29) (L' := [(3, _), (2, _), (0, _), (1, _)]) C dX10_paceOf_28 rfl (by rw [hnL]; decide) rfl ?_
      refine z_aload_n (n := 30) C 2 dX10_paceOf_29 rfl rfl ?_
      refine z_getR (n := 33) (q := 96) C K fF_RX10_40 dX10_paceOf_30 rfl rfl sh_85 (by decide) rfl ?_
      refine z_iload_n (n := 34) C 3 dX10_paceOf_33 rfl rfl ?_
      refine z_ialdN (n := 35) C K x dX10_paceOf_34 rfl sh_96 (by decide) rfl hx (by decide) ?_
      refine z_if_le (tgt := 44) (n := 38) C dX10_paceOf_35 rfl rfl (fun c35 => ?_) (fun c35 => ?_)
      · refine z_iload_n (n := 45) C 0 dX10_paceOf_44 rfl rfl ?_
        refine z_iret C E dX10_paceOf_45 ?_
        refine eqQ (show _ = nI (paceS kd ag) from ?_) hQ
        rw [fa_le, h2, nI_toInt (by omega)] at c10
        rw [fa_le, h2, nI_toInt (by omega)] at c20
        rw [fa_le, h0, nI_toInt (by omega)] at c35
        simp only [Int32.reduceToInt] at c10 c20 c35
        unfold paceS
        repeat' split
        all_goals first | rfl | (exfalso; omega)
      · refine z_iload_n (n := 39) C 0 dX10_paceOf_38 rfl rfl ?_
        refine z_iconst (n := 40) (v := 1) C dX10_paceOf_39 rfl rfl ?_
        refine z_iadd (n := 41) C dX10_paceOf_40 rfl ?_
        refine z_goto (n := 45) C dX10_paceOf_41 rfl ?_
        refine z_iret C E dX10_paceOf_45 ?_
        refine eqQ (show _ = nI (paceS kd ag) from ?_) hQ
        rw [fa_le, h2, nI_toInt (by omega)] at c10
        rw [fa_le, h2, nI_toInt (by omega)] at c20
        rw [fa_le, h0, nI_toInt (by omega)] at c35
        simp only [Int32.reduceToInt] at c10 c20 c35
        unfold paceS
        repeat' split
        all_goals first | rfl | (exfalso; omega)
    · refine z_iconst (n := 24) (v := 2) C dX10_paceOf_23 rfl rfl ?_
      refine z_goto (n := 28) C dX10_paceOf_24 rfl ?_
      refine z_istore_n (n := 29) (L' := [(3, _), (2, _), (0, _), (1, _)]) C dX10_paceOf_28 rfl (by rw [hnL]; decide) rfl ?_
      refine z_aload_n (n := 30) C 2 dX10_paceOf_29 rfl rfl ?_
      refine z_getR (n := 33) (q := 96) C K fF_RX10_40 dX10_paceOf_30 rfl rfl sh_85 (by decide) rfl ?_
      refine z_iload_n (n := 34) C 3 dX10_paceOf_33 rfl rfl ?_
      refine z_ialdN (n := 35) C K x dX10_paceOf_34 rfl sh_96 (by decide) rfl hx (by decide) ?_
      refine z_if_le (tgt := 44) (n := 38) C dX10_paceOf_35 rfl rfl (fun c35 => ?_) (fun c35 => ?_)
      · refine z_iload_n (n := 45) C 0 dX10_paceOf_44 rfl rfl ?_
        refine z_iret C E dX10_paceOf_45 ?_
        refine eqQ (show _ = nI (paceS kd ag) from ?_) hQ
        rw [fa_le, h2, nI_toInt (by omega)] at c10
        rw [fa_le, h2, nI_toInt (by omega)] at c20
        rw [fa_le, h0, nI_toInt (by omega)] at c35
        simp only [Int32.reduceToInt] at c10 c20 c35
        unfold paceS
        repeat' split
        all_goals first | rfl | (exfalso; omega)
      · refine z_iload_n (n := 39) C 0 dX10_paceOf_38 rfl rfl ?_
        refine z_iconst (n := 40) (v := 1) C dX10_paceOf_39 rfl rfl ?_
        refine z_iadd (n := 41) C dX10_paceOf_40 rfl ?_
        refine z_goto (n := 45) C dX10_paceOf_41 rfl ?_
        refine z_iret C E dX10_paceOf_45 ?_
        refine eqQ (show _ = nI (paceS kd ag) from ?_) hQ
        rw [fa_le, h2, nI_toInt (by omega)] at c10
        rw [fa_le, h2, nI_toInt (by omega)] at c20
        rw [fa_le, h0, nI_toInt (by omega)] at c35
        simp only [Int32.reduceToInt] at c10 c20 c35
        unfold paceS
        repeat' split
        all_goals first | rfl | (exfalso; omega)
  · refine z_iconst (n := 14) (v := 3) C dX10_paceOf_13 rfl rfl ?_
    refine z_goto (n := 28) C dX10_paceOf_14 rfl ?_
    refine z_istore_n (n := 29) (L' := [(3, _), (2, _), (0, _), (1, _)]) C dX10_paceOf_28 rfl (by rw [hnL]; decide) rfl ?_
    refine z_aload_n (n := 30) C 2 dX10_paceOf_29 rfl rfl ?_
    refine z_getR (n := 33) (q := 96) C K fF_RX10_40 dX10_paceOf_30 rfl rfl sh_85 (by decide) rfl ?_
    refine z_iload_n (n := 34) C 3 dX10_paceOf_33 rfl rfl ?_
    refine z_ialdN (n := 35) C K x dX10_paceOf_34 rfl sh_96 (by decide) rfl hx (by decide) ?_
    refine z_if_le (tgt := 44) (n := 38) C dX10_paceOf_35 rfl rfl (fun c35 => ?_) (fun c35 => ?_)
    · refine z_iload_n (n := 45) C 0 dX10_paceOf_44 rfl rfl ?_
      refine z_iret C E dX10_paceOf_45 ?_
      refine eqQ (show _ = nI (paceS kd ag) from ?_) hQ
      rw [fa_le, h2, nI_toInt (by omega)] at c10
      rw [fa_le, h0, nI_toInt (by omega)] at c35
      simp only [Int32.reduceToInt] at c10 c35
      unfold paceS
      repeat' split
      all_goals first | rfl | (exfalso; omega)
    · refine z_iload_n (n := 39) C 0 dX10_paceOf_38 rfl rfl ?_
      refine z_iconst (n := 40) (v := 1) C dX10_paceOf_39 rfl rfl ?_
      refine z_iadd (n := 41) C dX10_paceOf_40 rfl ?_
      refine z_goto (n := 45) C dX10_paceOf_41 rfl ?_
      refine z_iret C E dX10_paceOf_45 ?_
      refine eqQ (show _ = nI (paceS kd ag) from ?_) hQ
      rw [fa_le, h2, nI_toInt (by omega)] at c10
      rw [fa_le, h0, nI_toInt (by omega)] at c35
      simp only [Int32.reduceToInt] at c10 c35
      unfold paceS
      repeat' split
      all_goals first | rfl | (exfalso; omega)
set_option maxHeartbeats 4000000 in
set_option maxRecDepth 100000 in
theorem c_X10_ready {ad : Nat → Nat} {I : KI} {J : KJ} {t : Nat} {c : Nat} {ki co ag re : Nat → Nat} {T : Nat → Nat → Nat}(hk : mKd I c ki co ag re T){n : Nat} (ok : okKd n c ki co ag re T){xv v : Int32} {Q : Int32 → KI → KJ → KR → Prop} (hR : ∀ a, readyR c xv v = some a → Q a I J (rf t)) (hS : readyR c xv v = none → ∀ x r : Nat, xv = nI x → x < c → v = nI r → r ≤ 60 → ∀ I', (∀ q, q ≠ 99 → I' q = I q) → mKd I' c ki co ag (fu re x r) T → Q (nI (re x)) I' J (rf t)) : Mi 3 yX10_ready (wm yX10_ready cX10_ready 4 (some .int)) [.ref (ad 85), .int (xv), .int (v)] ad I J (rf t) Q := by
  refine mi_of (own := RX10) yk_X10_ready rfl (Nat.le_of_ble_eq_true rfl) rfl (fun X hA hnL C K E => ?_)
  subst hA
  refine z_aload_n (n := 1) C 0 dX10_ready_0 rfl rfl ?_
  refine z_iload_n (n := 2) C 1 dX10_ready_1 rfl rfl ?_
  refine z_vi_1 (n := 5) (d' := 1) C K dX10_ready_2 rfl yk_X10_isChild yv_X10_isChild kM_RX10_169 (by decide) hR0 rfl rfl sh_85 (by decide) (by decide) ?_
  refine c_X10_isChild hk.1 ok.1 (fun b2 => ?_) (fun b2 => ?_)
  · refine z_ifT_ne (tgt := 10) C (by decide) dX10_ready_5 rfl ?_
    refine z_iload_n (n := 11) C 2 dX10_ready_10 rfl rfl ?_
    refine z_iconst (n := 12) (v := 0) C dX10_ready_11 rfl rfl ?_
    refine z_bipush (n := 14) (v := 60) C dX10_ready_12 rfl rfl ?_
    refine z_si_3 (n := 17) (d' := 1) C K dX10_ready_14 rfl yk_X10_within kT_yX10_within kM_RX10_92 (by decide) hR0 rfl ?_
    refine m_inB (lo := 0) (hi := 60) (by decide) (by decide) (fun b14 => ?_) (fun b14 => ?_)
    · refine z_ifT_ne (tgt := 23) C (by decide) dX10_ready_17 rfl ?_
      have hnone : readyR c xv v = none := by unfold readyR; rw [if_neg (fun q => q b2), if_neg (fun q => q b14)]
      obtain ⟨x, hxc, rfl⟩ := isN_of b2
      obtain ⟨r, hr, rfl⟩ := isB_of (h := 60) b14
      have hx : x < 10 := by have := ok.1; omega
      refine z_aload_n (n := 24) C 0 dX10_ready_23 rfl rfl ?_
      refine z_getR (n := 27) (q := 99) C K fF_RX10_49 dX10_ready_24 rfl rfl sh_85 (by decide) rfl ?_
      refine z_iload_n (n := 28) C 1 dX10_ready_27 rfl rfl ?_
      refine z_ialdN (n := 29) C K x dX10_ready_28 rfl sh_99 (by decide) rfl hx (by decide) ?_
      refine z_istore_n (n := 30) (L' := [(3, _), (0, _), (1, _), (2, _)]) C dX10_ready_29 rfl (by rw [hnL]; decide) rfl ?_
      refine z_aload_n (n := 31) C 1 dX10_ready_30 rfl rfl ?_
      refine z_getR (n := 34) (q := 99) C K fF_RX10_49 dX10_ready_31 rfl rfl sh_85 (by decide) rfl ?_
      refine z_iload_n (n := 35) C 2 dX10_ready_34 rfl rfl ?_
      refine z_iload_n (n := 36) C 3 dX10_ready_35 rfl rfl ?_
      refine z_iastN (n := 37) C K x dX10_ready_36 rfl sh_99 (by decide) rfl hx (by decide) ?_
      refine z_iload_n (n := 38) C 0 dX10_ready_37 rfl rfl ?_
      refine z_iret C E dX10_ready_38 ?_
      refine eqQ (hk.2.1 x hxc).2.2.2 (hS hnone x r rfl hxc rfl hr _ (fun q h => upI_row _ _ h) ⟨?_, fun z hz => ?_, fun a b ha hb => ?_⟩)
      · rw [upI_p _ _ (by omega)]; exact hk.1
      · have h1 := hk.2.1 z hz
        rw [upI_row _ _ (by decide), upI_row _ _ (by decide), upI_row _ _ (by decide)]
        refine ⟨h1.1, h1.2.1, h1.2.2.1, ?_⟩
        by_cases hzx : z = x
        · subst hzx; rw [upI_same, fu_same]
        · rw [upI_k _ _ hzx, fu_ne _ _ hzx]; exact h1.2.2.2
      · rw [upI_row _ _ (by decide)]; exact hk.2.2 a b ha hb
    · refine z_ifF_ne (n := 20) (tgt := 23) C (by decide) dX10_ready_17 rfl rfl ?_
      refine z_bipush (n := 22) (v := (-2)) C dX10_ready_20 rfl rfl ?_
      refine z_iret C E dX10_ready_22 ?_
      exact hR _ (by unfold readyR; rw [if_neg (fun q => q b2), if_pos b14])
  · refine z_ifF_ne (n := 8) (tgt := 10) C (by decide) dX10_ready_5 rfl rfl ?_
    refine z_iconst (n := 9) (v := (-1)) C dX10_ready_8 rfl rfl ?_
    refine z_iret C E dX10_ready_9 ?_
    exact hR _ (by unfold readyR; rw [if_pos b2])
set_option maxHeartbeats 4000000 in
set_option maxRecDepth 100000 in
theorem c_X10_holds {ad : Nat → Nat} {I : KI} {J : KJ} {t : Nat} {h hc : Nat} {hd : Nat → Nat} (hm : mMi I h hc hd) {v : Int32} {Q : Int32 → KI → KJ → KR → Prop} (hR : ¬ isB 1 9 v → Q (-2) I J (rf t)) (hS : ∀ w : Nat, v = nI w → 1 ≤ w → w ≤ 9 → Q (nI h) (upI I 85 32 (nI w)) J (rf t)) : Mi 2 yX10_holds (wm yX10_holds cX10_holds 3 (some .int)) [.ref (ad 85), .int (v)] ad I J (rf t) Q := by
  refine mi_of (own := RX10) yk_X10_holds rfl (Nat.le_of_ble_eq_true rfl) rfl (fun X hA hnL C K E => ?_)
  subst hA
  refine z_iload_n (n := 1) C 1 dX10_holds_0 rfl rfl ?_
  refine z_iconst (n := 2) (v := 1) C dX10_holds_1 rfl rfl ?_
  refine z_bipush (n := 4) (v := 9) C dX10_holds_2 rfl rfl ?_
  refine z_si_3 (n := 7) (d' := 1) C K dX10_holds_4 rfl yk_X10_within kT_yX10_within kM_RX10_92 (by decide) hR0 rfl ?_
  refine m_inB (lo := 1) (hi := 9) (by decide) (by decide) (fun b4 => ?_) (fun b4 => ?_)
  · refine z_ifT_ne (tgt := 13) C (by decide) dX10_holds_7 rfl ?_
    refine z_aload_n (n := 14) C 0 dX10_holds_13 rfl rfl ?_
    refine z_getI (n := 17) C K fF_RX10_68 dX10_holds_14 rfl sh_85 (by decide) ?_
    refine z_istore_n (n := 18) (L' := [(2, _), (0, _), (1, _)]) C dX10_holds_17 rfl (by rw [hnL]; decide) rfl ?_
    refine z_aload_n (n := 19) C 1 dX10_holds_18 rfl rfl ?_
    refine z_iload_n (n := 20) C 2 dX10_holds_19 rfl rfl ?_
    refine z_putI (n := 23) C K fF_RX10_68 dX10_holds_20 rfl sh_85 (by decide) ?_
    refine z_iload_n (n := 24) C 0 dX10_holds_23 rfl rfl ?_
    refine z_iret C E dX10_holds_24 ?_
    obtain ⟨w, hw, rfl⟩ := i_natlt (n := 10) (x := v) (by have := b4.1; omega) (by have := b4.2; omega)
    exact eqQ hm.1 (hS w rfl (by have := b4.1; rw [nI_toInt (by omega)] at this; omega) (by omega))
  · refine z_ifF_ne (n := 10) (tgt := 13) C (by decide) dX10_holds_7 rfl rfl ?_
    refine z_bipush (n := 12) (v := (-2)) C dX10_holds_10 rfl rfl ?_
    refine z_iret C E dX10_holds_12 ?_
    exact hR b4
set_option maxHeartbeats 4000000 in
set_option maxRecDepth 100000 in
theorem c_X10_helper {ad : Nat → Nat} {I : KI} {J : KJ} {t : Nat} {h hc : Nat} {hd : Nat → Nat} (hm : mMi I h hc hd) (hok : okMi h hc hd){v : Int32} {Q : Int32 → KI → KJ → KR → Prop} (hR : ∀ a, helperR hc v = some a → Q a I J (rf t)) (hS : helperR hc v = none → ∀ w : Nat, v = nI w → w < 32 → hc < 5 → Q (nI hc) (upI (upI I 107 hc (nI w)) 85 37 (nI (hc + 1))) J (rf t)) : Mi 2 yX10_helper (wm yX10_helper cX10_helper 2 (some .int)) [.ref (ad 85), .int (v)] ad I J (rf t) Q := by
  refine mi_of (own := RX10) yk_X10_helper rfl (Nat.le_of_ble_eq_true rfl) rfl (fun X hA hnL C K E => ?_)
  subst hA
  refine z_iload_n (n := 1) C 1 dX10_helper_0 rfl rfl ?_
  refine z_iconst (n := 2) (v := 0) C dX10_helper_1 rfl rfl ?_
  refine z_bipush (n := 4) (v := 31) C dX10_helper_2 rfl rfl ?_
  refine z_si_3 (n := 7) (d' := 1) C K dX10_helper_4 rfl yk_X10_within kT_yX10_within kM_RX10_92 (by decide) hR0 rfl ?_
  refine m_inB (lo := 0) (hi := 31) (by decide) (by decide) (fun b4 => ?_) (fun b4 => ?_)
  · refine z_ifT_ne (tgt := 13) C (by decide) dX10_helper_7 rfl ?_
    refine z_aload_n (n := 14) C 0 dX10_helper_13 rfl rfl ?_
    refine z_getI (n := 17) C K fF_RX10_295 dX10_helper_14 rfl sh_85 (by decide) ?_
    rw [hm.2.1]
    refine z_iconst (n := 18) (v := 5) C dX10_helper_17 rfl rfl ?_
    refine z_icmp_ne (tgt := 24) (n := 21) C dX10_helper_18 rfl rfl (fun c18 => ?_) (fun c18 => ?_)
    · have c18 : ¬ hc = 5 := fun e => c18 (by rw [e]; rfl)
      have h5 : hc < 5 := by have := hok.2.2.1; omega
      refine z_aload_n (n := 25) C 0 dX10_helper_24 rfl rfl ?_
      refine z_getR (n := 28) (q := 107) C K fF_RX10_78 dX10_helper_25 rfl rfl sh_85 (by decide) rfl ?_
      refine z_aload_n (n := 29) C 0 dX10_helper_28 rfl rfl ?_
      refine z_getI (n := 32) C K fF_RX10_295 dX10_helper_29 rfl sh_85 (by decide) ?_
      refine z_iload_n (n := 33) C 1 dX10_helper_32 rfl rfl ?_
      refine z_iastN (n := 34) C K hc dX10_helper_33 rfl sh_107 (by decide) hm.2.1 h5 (by decide) ?_
      refine z_aload_n (n := 35) C 0 dX10_helper_34 rfl rfl ?_
      refine z_dup (n := 36) C dX10_helper_35 rfl rfl ?_
      refine z_getI (n := 39) C K fF_RX10_295 dX10_helper_36 rfl sh_85 (by decide) ?_
      refine z_iconst (n := 40) (v := 1) C dX10_helper_39 rfl rfl ?_
      refine z_iadd (n := 41) C dX10_helper_40 rfl ?_
      refine z_putI (n := 44) C K fF_RX10_295 dX10_helper_41 rfl sh_85 (by decide) ?_
      refine z_aload_n (n := 45) C 0 dX10_helper_44 rfl rfl ?_
      refine z_getI (n := 48) C K fF_RX10_295 dX10_helper_45 rfl sh_85 (by decide) ?_
      refine z_iconst (n := 49) (v := 1) C dX10_helper_48 rfl rfl ?_
      refine z_isub (n := 50) C dX10_helper_49 rfl ?_
      refine z_iret C E dX10_helper_50 ?_
      have hnone : helperR hc v = none := by unfold helperR; rw [if_neg (fun q => q b4), if_neg (by omega)]
      obtain ⟨w, hw, rfl⟩ := isB_of (h := 31) b4
      have e : upI I 107 hc (nI w) 85 37 = nI hc := by rw [upI_p _ _ (by omega)]; exact hm.2.1
      rw [upI_same, e, nI_1, nI_pred]
      exact hS hnone w rfl (by omega) (by omega)
    · refine z_bipush (n := 23) (v := (-4)) C dX10_helper_21 rfl rfl ?_
      refine z_iret C E dX10_helper_23 ?_
      have c18 : hc = 5 := nI_inj (b := 5) c18 (by have := hok.2.2.1; omega) (by decide)
      exact hR _ (by unfold helperR; rw [if_neg (fun q => q b4), if_pos c18])
  · refine z_ifF_ne (n := 10) (tgt := 13) C (by decide) dX10_helper_7 rfl rfl ?_
    refine z_bipush (n := 12) (v := (-2)) C dX10_helper_10 rfl rfl ?_
    refine z_iret C E dX10_helper_12 ?_
    exact hR _ (by unfold helperR; rw [if_pos b4])
set_option maxHeartbeats 4000000 in
set_option maxRecDepth 100000 in
theorem c_X10_days {ad : Nat → Nat} {I : KI} {J : KJ} {t : Nat} {h hc : Nat} {hd : Nat → Nat} (hm : mMi I h hc hd) (hok : okMi h hc hd){xv v : Int32} {Q : Int32 → KI → KJ → KR → Prop} (hR : ∀ a, daysR hc xv v = some a → Q a I J (rf t)) (hS : daysR hc xv v = none → ∀ x w : Nat, xv = nI x → x < hc → v = nI w → w < 32 → Q (nI (hd x)) (upI I 107 x (nI w)) J (rf t)) : Mi 2 yX10_days (wm yX10_days cX10_days 4 (some .int)) [.ref (ad 85), .int (xv), .int (v)] ad I J (rf t) Q := by
  refine mi_of (own := RX10) yk_X10_days rfl (Nat.le_of_ble_eq_true rfl) rfl (fun X hA hnL C K E => ?_)
  subst hA
  refine z_iload_n (n := 1) C 1 dX10_days_0 rfl rfl ?_
  refine z_if_lt (tgt := 12) (n := 4) C dX10_days_1 rfl rfl (fun c1 => ?_) (fun c1 => ?_)
  · refine z_iconst (n := 13) (v := (-1)) C dX10_days_12 rfl rfl ?_
    refine z_iret C E dX10_days_13 ?_
    simp only [fa_lt, Int32.reduceToInt] at c1
    exact hR _ (by unfold daysR; rw [if_pos (fun q => by unfold isN at q; omega)])
  · refine z_iload_n (n := 5) C 1 dX10_days_4 rfl rfl ?_
    refine z_aload_n (n := 6) C 0 dX10_days_5 rfl rfl ?_
    refine z_getI (n := 9) C K fF_RX10_295 dX10_days_6 rfl sh_85 (by decide) ?_
    refine z_icmp_lt (tgt := 14) (n := 12) C dX10_days_9 rfl rfl (fun c9 => ?_) (fun c9 => ?_)
    · rw [hm.2.1, fa_lt, nI_toInt (by have := hok.2.2.1; omega)] at c9
      simp only [fa_lt, Int32.reduceToInt] at c1
      have b1 : isN hc xv := ⟨by omega, c9⟩
      refine z_iload_n (n := 15) C 2 dX10_days_14 rfl rfl ?_
      refine z_iconst (n := 16) (v := 0) C dX10_days_15 rfl rfl ?_
      refine z_bipush (n := 18) (v := 31) C dX10_days_16 rfl rfl ?_
      refine z_si_3 (n := 21) (d' := 1) C K dX10_days_18 rfl yk_X10_within kT_yX10_within kM_RX10_92 (by decide) hR0 rfl ?_
      refine m_inB (lo := 0) (hi := 31) (by decide) (by decide) (fun b18 => ?_) (fun b18 => ?_)
      · refine z_ifT_ne (tgt := 27) C (by decide) dX10_days_21 rfl ?_
        have hnone : daysR hc xv v = none := by unfold daysR; rw [if_neg (fun q => q b1), if_neg (fun q => q b18)]
        obtain ⟨x, hx, rfl⟩ := isN_of b1
        obtain ⟨w, hw, rfl⟩ := isB_of (h := 31) b18
        refine z_aload_n (n := 28) C 0 dX10_days_27 rfl rfl ?_
        refine z_getR (n := 31) (q := 107) C K fF_RX10_78 dX10_days_28 rfl rfl sh_85 (by decide) rfl ?_
        refine z_iload_n (n := 32) C 1 dX10_days_31 rfl rfl ?_
        refine z_ialdN (n := 33) C K x dX10_days_32 rfl sh_107 (by decide) rfl (by have := hok.2.2.1; omega) (by decide) ?_
        refine z_istore_n (n := 34) (L' := [(3, _), (0, _), (1, _), (2, _)]) C dX10_days_33 rfl (by rw [hnL]; decide) rfl ?_
        refine z_aload_n (n := 35) C 1 dX10_days_34 rfl rfl ?_
        refine z_getR (n := 38) (q := 107) C K fF_RX10_78 dX10_days_35 rfl rfl sh_85 (by decide) rfl ?_
        refine z_iload_n (n := 39) C 2 dX10_days_38 rfl rfl ?_
        refine z_iload_n (n := 40) C 3 dX10_days_39 rfl rfl ?_
        refine z_iastN (n := 41) C K x dX10_days_40 rfl sh_107 (by decide) rfl (by have := hok.2.2.1; omega) (by decide) ?_
        refine z_iload_n (n := 42) C 0 dX10_days_41 rfl rfl ?_
        refine z_iret C E dX10_days_42 ?_
        exact eqQ (hm.2.2 x hx) (hS hnone x w rfl hx rfl (by omega))
      · refine z_ifF_ne (n := 24) (tgt := 27) C (by decide) dX10_days_21 rfl rfl ?_
        refine z_bipush (n := 26) (v := (-2)) C dX10_days_24 rfl rfl ?_
        refine z_iret C E dX10_days_26 ?_
        exact hR _ (by unfold daysR; rw [if_neg (fun q => q b1), if_pos b18])
    · refine z_iconst (n := 13) (v := (-1)) C dX10_days_12 rfl rfl ?_
      refine z_iret C E dX10_days_13 ?_
      simp only [fa_lt, Int32.reduceToInt] at c1
      rw [hm.2.1, fa_lt, nI_toInt (by have := hok.2.2.1; omega)] at c9
      exact hR _ (by unfold daysR; rw [if_pos (fun q => by unfold isN at q; omega)])
set_option maxHeartbeats 4000000 in
set_option maxRecDepth 100000 in
theorem c_X10_trace {ad : Nat → Nat} {I : KI} {J : KJ} {t : Nat}  {Q : Int32 → KI → KJ → KR → Prop} (hQ : Q (I 85 1) I J (rf t)) : Mi 1 yX10_trace (wm yX10_trace cX10_trace 1 (some .int)) [.ref (ad 85)] ad I J (rf t) Q := by
  refine mi_of (own := RX10) yk_X10_trace rfl (Nat.le_of_ble_eq_true rfl) rfl (fun X hA hnL C K E => ?_)
  subst hA
  refine z_aload_n (n := 1) C 0 dX10_trace_0 rfl rfl ?_
  refine z_getI (n := 4) C K fF_RX10_310 dX10_trace_1 rfl sh_85 (by decide) ?_
  refine z_iret C E dX10_trace_4 ?_
  exact hQ
set_option maxHeartbeats 4000000 in
set_option maxRecDepth 100000 in
theorem c_X10_fault {ad : Nat → Nat} {I : KI} {J : KJ} {t : Nat}  {Q : Int32 → KI → KJ → KR → Prop} (hQ : Q (I 85 0) I J (rf t)) : Mi 1 yX10_fault (wm yX10_fault cX10_fault 1 (some .int)) [.ref (ad 85)] ad I J (rf t) Q := by
  refine mi_of (own := RX10) yk_X10_fault rfl (Nat.le_of_ble_eq_true rfl) rfl (fun X hA hnL C K E => ?_)
  subst hA
  refine z_aload_n (n := 1) C 0 dX10_fault_0 rfl rfl ?_
  refine z_getI (n := 4) C K fF_RX10_87 dX10_fault_1 rfl sh_85 (by decide) ?_
  refine z_iret C E dX10_fault_4 ?_
  exact hQ
set_option maxHeartbeats 4000000 in
set_option maxRecDepth 100000 in
theorem c_X10_tag {ad : Nat → Nat} {I : KI} {J : KJ} {t : Nat} {c : Nat} {ki co ag re : Nat → Nat} {T : Nat → Nat → Nat}(hk : mKd I c ki co ag re T){n : Nat} (ok : okKd n c ki co ag re T){xv : Int32} {Q : Int32 → KI → KJ → KR → Prop} (hR : ¬ isN c xv → Q (-1) I J (rf t)) (hS : ∀ x, xv = nI x → x < c → Q (tagS ki x (I 85 1)).1 (upI I 85 1 (tagS ki x (I 85 1)).2) J (rf t)) : Mi 3 yX10_tag (wm yX10_tag cX10_tag 2 (some .int)) [.ref (ad 85), .int (xv)] ad I J (rf t) Q := by
  refine mi_of (own := RX10) yk_X10_tag rfl (Nat.le_of_ble_eq_true rfl) rfl (fun X hA hnL C K E => ?_)
  subst hA
  refine z_aload_n (n := 1) C 0 dX10_tag_0 rfl rfl ?_
  refine z_iload_n (n := 2) C 1 dX10_tag_1 rfl rfl ?_
  refine z_vi_1 (n := 5) (d' := 1) C K dX10_tag_2 rfl yk_X10_isChild yv_X10_isChild kM_RX10_169 (by decide) hR0 rfl rfl sh_85 (by decide) (by decide) ?_
  refine c_X10_isChild hk.1 ok.1 (fun b2 => ?_) (fun b2 => ?_)
  · refine z_ifT_ne (tgt := 10) C (by decide) dX10_tag_5 rfl ?_
    obtain ⟨x, hxc, rfl⟩ := isN_of b2
    have hx : x < 10 := by have := ok.1; omega
    have hz := hk.2.1 x hxc
    have hb := ok.2.1 x hxc
    refine z_aload_n (n := 11) C 0 dX10_tag_10 rfl rfl ?_
    refine z_aload_n (n := 12) C 0 dX10_tag_11 rfl rfl ?_
    refine z_getR (n := 15) (q := 96) C K fF_RX10_40 dX10_tag_12 rfl rfl sh_85 (by decide) rfl ?_
    refine z_iload_n (n := 16) C 1 dX10_tag_15 rfl rfl ?_
    refine z_ialdN (n := 17) C K x dX10_tag_16 rfl sh_96 (by decide) rfl hx (by decide) ?_
    refine z_iconst (n := 18) (v := 2) C dX10_tag_17 rfl rfl ?_
    rw [hz.1]
    refine z_icmp_ne (tgt := 25) (n := 21) C dX10_tag_18 rfl rfl (fun c18 => ?_) (fun c18 => ?_)
    · refine z_iconst (n := 26) (v := 4) C dX10_tag_25 rfl rfl ?_
      refine z_vv_1 (n := 29) (d' := 1) C K dX10_tag_26 rfl yk_X10_begins yv_X10_begins kM_RX10_313 (by decide) hR0 rfl rfl sh_85 (by decide) (by decide) ?_
      refine c_X10_begins ?_
      refine z_aload_n (n := 30) C 0 dX10_tag_29 rfl rfl ?_
      refine z_getR (n := 33) (q := 96) C K fF_RX10_40 dX10_tag_30 rfl rfl sh_85 (by decide) rfl ?_
      refine z_iload_n (n := 34) C 1 dX10_tag_33 rfl rfl ?_
      refine z_ialdN (n := 35) C K x dX10_tag_34 rfl sh_96 (by decide) rfl hx (by decide) ?_
      refine z_iconst (n := 36) (v := 2) C dX10_tag_35 rfl rfl ?_
      rw [upI_p _ _ (by decide), hz.1]
      refine z_icmp_ne (tgt := 44) (n := 39) C dX10_tag_36 rfl rfl (fun c36 => ?_) (fun c36 => ?_)
      · refine z_iload_n (n := 45) C 1 dX10_tag_44 rfl rfl ?_
        refine z_iret C E dX10_tag_45 ?_
        have h3 := hS x rfl hxc
        unfold tagS at h3
        have e : ki x = 0 ∨ ki x = 1 ∨ ki x = 2 := by omega
        rcases e with e | e | e <;> rw [e] at h3
        all_goals first | (rw [e] at c18; exfalso; revert c18; decide) | (rw [e] at c36; exfalso; revert c36; decide) | exact h3
      · refine z_bipush (n := 41) (v := 60) C dX10_tag_39 rfl rfl ?_
        refine z_goto (n := 45) C dX10_tag_41 rfl ?_
        refine z_iret C E dX10_tag_45 ?_
        have h3 := hS x rfl hxc
        unfold tagS at h3
        have e : ki x = 0 ∨ ki x = 1 ∨ ki x = 2 := by omega
        rcases e with e | e | e <;> rw [e] at h3
        all_goals first | (rw [e] at c18; exfalso; revert c18; decide) | (rw [e] at c36; exfalso; revert c36; decide) | exact h3
    · refine z_iconst (n := 22) (v := 5) C dX10_tag_21 rfl rfl ?_
      refine z_goto (n := 26) C dX10_tag_22 rfl ?_
      refine z_vv_1 (n := 29) (d' := 1) C K dX10_tag_26 rfl yk_X10_begins yv_X10_begins kM_RX10_313 (by decide) hR0 rfl rfl sh_85 (by decide) (by decide) ?_
      refine c_X10_begins ?_
      refine z_aload_n (n := 30) C 0 dX10_tag_29 rfl rfl ?_
      refine z_getR (n := 33) (q := 96) C K fF_RX10_40 dX10_tag_30 rfl rfl sh_85 (by decide) rfl ?_
      refine z_iload_n (n := 34) C 1 dX10_tag_33 rfl rfl ?_
      refine z_ialdN (n := 35) C K x dX10_tag_34 rfl sh_96 (by decide) rfl hx (by decide) ?_
      refine z_iconst (n := 36) (v := 2) C dX10_tag_35 rfl rfl ?_
      rw [upI_p _ _ (by decide), hz.1]
      refine z_icmp_ne (tgt := 44) (n := 39) C dX10_tag_36 rfl rfl (fun c36 => ?_) (fun c36 => ?_)
      · refine z_iload_n (n := 45) C 1 dX10_tag_44 rfl rfl ?_
        refine z_iret C E dX10_tag_45 ?_
        have h3 := hS x rfl hxc
        unfold tagS at h3
        have e : ki x = 0 ∨ ki x = 1 ∨ ki x = 2 := by omega
        rcases e with e | e | e <;> rw [e] at h3
        all_goals first | (rw [e] at c18; exfalso; revert c18; decide) | (rw [e] at c36; exfalso; revert c36; decide) | exact h3
      · refine z_bipush (n := 41) (v := 60) C dX10_tag_39 rfl rfl ?_
        refine z_goto (n := 45) C dX10_tag_41 rfl ?_
        refine z_iret C E dX10_tag_45 ?_
        have h3 := hS x rfl hxc
        unfold tagS at h3
        have e : ki x = 0 ∨ ki x = 1 ∨ ki x = 2 := by omega
        rcases e with e | e | e <;> rw [e] at h3
        all_goals first | (rw [e] at c18; exfalso; revert c18; decide) | (rw [e] at c36; exfalso; revert c36; decide) | exact h3
  · refine z_ifF_ne (n := 8) (tgt := 10) C (by decide) dX10_tag_5 rfl rfl ?_
    refine z_iconst (n := 9) (v := (-1)) C dX10_tag_8 rfl rfl ?_
    refine z_iret C E dX10_tag_9 ?_
    exact hR b2
set_option maxHeartbeats 4000000 in
set_option maxRecDepth 100000 in
theorem c_X10_as {ad : Nat → Nat} {I : KI} {J : KJ} {t : Nat} {c : Nat} {ki co ag re : Nat → Nat} {T : Nat → Nat → Nat}(hk : mKd I c ki co ag re T){n : Nat} (ok : okKd n c ki co ag re T){xv kv : Int32} {Q : Int32 → KI → KJ → KR → Prop} (hQ : Q (asR c ki xv kv).1 (upI I 85 0 (nI (asR c ki xv kv).2)) J (rf t)) : Mi 4 yX10_as (wm yX10_as cX10_as 3 (some .int)) [.ref (ad 85), .int (xv), .int (kv)] ad I J (rf t) Q := by
  refine mi_of (own := RX10) yk_X10_as rfl (Nat.le_of_ble_eq_true rfl) rfl (fun X hA hnL C K E => ?_)
  subst hA
  refine z_aload_n (n := 1) C 0 dX10_as_0 rfl rfl ?_
  refine z_iconst (n := 2) (v := 0) C dX10_as_1 rfl rfl ?_
  refine z_putI (n := 5) C K fF_RX10_87 dX10_as_2 rfl sh_85 (by decide) ?_
  refine z_aload_n (n := 6) C 0 dX10_as_5 rfl rfl ?_
  refine z_iload_n (n := 7) C 1 dX10_as_6 rfl rfl ?_
  refine z_vi_1 (n := 10) (d' := 1) C K dX10_as_7 rfl yk_X10_isChild yv_X10_isChild kM_RX10_169 (by decide) hR0 rfl rfl sh_85 (by decide) (by decide) ?_
  refine c_X10_isChild (hk.tr (j := 0) (by decide)).1 ok.1 (fun b7 => ?_) (fun b7 => ?_)
  · refine z_ifT_ne (tgt := 15) C (by decide) dX10_as_10 rfl ?_
    refine z_iload_n (n := 16) C 2 dX10_as_15 rfl rfl ?_
    refine z_iconst (n := 17) (v := 0) C dX10_as_16 rfl rfl ?_
    refine z_iconst (n := 18) (v := 2) C dX10_as_17 rfl rfl ?_
    refine z_si_3 (n := 21) (d' := 1) C K dX10_as_18 rfl yk_X10_within kT_yX10_within kM_RX10_92 (by decide) hR0 rfl ?_
    refine m_inB (lo := 0) (hi := 2) (by decide) (by decide) (fun b18 => ?_) (fun b18 => ?_)
    · refine z_ifT_ne (tgt := 27) C (by decide) dX10_as_21 rfl ?_
      obtain ⟨x, hxc, rfl⟩ := isN_of b7
      have hx : x < 10 := by have := ok.1; omega
      have hz := hk.2.1 x hxc
      have hb := ok.2.1 x hxc
      refine z_aload_n (n := 28) C 0 dX10_as_27 rfl rfl ?_
      refine z_getR (n := 31) (q := 96) C K fF_RX10_40 dX10_as_28 rfl rfl sh_85 (by decide) rfl ?_
      refine z_iload_n (n := 32) C 1 dX10_as_31 rfl rfl ?_
      refine z_ialdN (n := 33) C K x dX10_as_32 rfl sh_96 (by decide) rfl hx (by decide) ?_
      refine z_iload_n (n := 34) C 2 dX10_as_33 rfl rfl ?_
      rw [upI_p _ _ (by omega), hz.1]
      refine z_icmp_lt (tgt := 41) (n := 37) C dX10_as_34 rfl rfl (fun c34 => ?_) (fun c34 => ?_)
      · refine z_aload_n (n := 42) C 0 dX10_as_41 rfl rfl ?_
        refine z_iconst (n := 43) (v := 2) C dX10_as_42 rfl rfl ?_
        refine z_vi_1 (n := 46) (d' := 1) C K dX10_as_43 rfl yk_X10_fails yv_X10_fails kM_RX10_110 (by decide) hR0 rfl rfl sh_85 (by decide) (by decide) ?_
        refine c_X10_fails ?_
        refine z_iret C E dX10_as_46 ?_
        rw [fa_lt, nI_toInt (by omega)] at c34
        unfold asR at hQ
        rw [if_neg (fun q => q b7), if_neg (fun q => q b18), nI_clamp (by omega), if_neg (by omega)] at hQ
        rw [upI_upI]
        exact hQ
      · refine z_iconst (n := 38) (v := 1) C dX10_as_37 rfl rfl ?_
        refine z_goto (n := 46) C dX10_as_38 rfl ?_
        refine z_iret C E dX10_as_46 ?_
        rw [fa_lt, nI_toInt (by omega)] at c34
        unfold asR at hQ
        rw [if_neg (fun q => q b7), if_neg (fun q => q b18), nI_clamp (by omega), if_pos (by omega)] at hQ
        exact hQ
    · refine z_ifF_ne (n := 24) (tgt := 27) C (by decide) dX10_as_21 rfl rfl ?_
      refine z_bipush (n := 26) (v := (-2)) C dX10_as_24 rfl rfl ?_
      refine z_iret C E dX10_as_26 ?_
      unfold asR at hQ
      rw [if_neg (fun q => q b7), if_pos (show ¬ isB 0 2 kv from b18)] at hQ
      exact hQ
  · refine z_ifF_ne (n := 13) (tgt := 15) C (by decide) dX10_as_10 rfl rfl ?_
    refine z_iconst (n := 14) (v := (-1)) C dX10_as_13 rfl rfl ?_
    refine z_iret C E dX10_as_14 ?_
    unfold asR at hQ
    rw [if_pos b7] at hQ
    exact hQ
