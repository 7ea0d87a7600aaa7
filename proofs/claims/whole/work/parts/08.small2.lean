set_option maxHeartbeats 4000000 in
set_option maxRecDepth 100000 in
theorem c_X6_rowFault {ad : Nat → Nat} {I : KI} {J : KJ} {t : Nat} {k c so : Nat} {th : Bool} (hk : k < 4) (h0 : I (67 + 2 * k) 0 = b2i th) (h1 : I (67 + 2 * k) 1 = nI so) (hc : c ≤ 100) (hI : I (67 + 2 * k) 2 = nI c) {w i n : Int32} {Q : Int32 → KI → KJ → KR → Prop} (hQ : Q (nI (rfS th so c w i n)) I J (rf t)) : Mi 2 yX6_rowFault (wm yX6_rowFault cX6_rowFault 4 (some .int)) [.ref (ad (67 + 2 * k)), .int (w), .int (i), .int (n)] ad I J (rf t) Q := by
  refine mi_of (own := RX6) yk_X6_rowFault rfl (Nat.le_of_ble_eq_true rfl) rfl (fun X hA hnL C K E => ?_)
  subst hA
  refine z_aload_n (n := 1) C 0 dX6_rowFault_0 rfl rfl ?_
  refine z_getB (n := 4) C K fF_RX6_9 dX6_rowFault_1 rfl (sh_sheet hk) (lt_sheet hk) ?_
  refine z_if_ne (tgt := 9) (n := 7) C dX6_rowFault_4 rfl rfl (fun c4 => ?_) (fun c4 => ?_)
  · refine z_aload_n (n := 10) C 0 dX6_rowFault_9 rfl rfl ?_
    refine z_getI (n := 13) C K fF_RX6_15 dX6_rowFault_10 rfl (sh_sheet hk) (lt_sheet hk) ?_
    refine z_iload_n (n := 14) C 1 dX6_rowFault_13 rfl rfl ?_
    refine z_icmp_eq (tgt := 19) (n := 17) C dX6_rowFault_14 rfl rfl (fun c14 => ?_) (fun c14 => ?_)
    · refine z_iload_n (n := 20) C 3 dX6_rowFault_19 rfl rfl ?_
      refine z_if_ge (tgt := 25) (n := 23) C dX6_rowFault_20 rfl rfl (fun c20 => ?_) (fun c20 => ?_)
      · refine z_aload_n (n := 26) C 0 dX6_rowFault_25 rfl rfl ?_
        refine z_iload_n (n := 27) C 2 dX6_rowFault_26 rfl rfl ?_
        refine z_iload_n (n := 28) C 3 dX6_rowFault_27 rfl rfl ?_
        refine z_vi_2 (n := 31) (d' := 1) C K dX6_rowFault_28 rfl yk_X6_reaches yv_X6_reaches kM_RX6_35 (by decide) hR0 rfl rfl (sh_sheet hk) (by decide) (lt_sheet hk) ?_
        refine c_X6_reaches hk hc hI (fun b28 => ?_) (fun b28 => ?_)
        · refine z_ifF_eq (n := 34) (tgt := 38) C (by decide) dX6_rowFault_31 rfl rfl ?_
          refine z_iconst (n := 35) (v := 0) C dX6_rowFault_34 rfl rfl ?_
          refine z_goto (n := 39) C dX6_rowFault_35 rfl ?_
          refine z_iret C E dX6_rowFault_39 ?_
          refine eqQ (show _ = nI (rfS th so c w i n) from ?_) hQ
          rw [h0] at c4
          rw [h1] at c14
          simp only [fa_lt, fa_le, Int32.reduceToInt] at c20
          unfold rfS
          repeat' split
          all_goals first | rfl | (exfalso; simp_all [b2i_0, b2i_n0]; done) | (exfalso; simp_all [b2i_0, b2i_n0]; omega)
        · refine z_ifT_eq (tgt := 38) C (by decide) dX6_rowFault_31 rfl ?_
          refine z_iconst (n := 39) (v := 3) C dX6_rowFault_38 rfl rfl ?_
          refine z_iret C E dX6_rowFault_39 ?_
          refine eqQ (show _ = nI (rfS th so c w i n) from ?_) hQ
          rw [h0] at c4
          rw [h1] at c14
          simp only [fa_lt, fa_le, Int32.reduceToInt] at c20
          unfold rfS
          repeat' split
          all_goals first | rfl | (exfalso; simp_all [b2i_0, b2i_n0]; done) | (exfalso; simp_all [b2i_0, b2i_n0]; omega)
      · refine z_iconst (n := 24) (v := 4) C dX6_rowFault_23 rfl rfl ?_
        refine z_iret C E dX6_rowFault_24 ?_
        refine eqQ (show _ = nI (rfS th so c w i n) from ?_) hQ
        rw [h0] at c4
        rw [h1] at c14
        simp only [fa_lt, fa_le, Int32.reduceToInt] at c20
        unfold rfS
        repeat' split
        all_goals first | rfl | (exfalso; simp_all [b2i_0, b2i_n0]; done) | (exfalso; simp_all [b2i_0, b2i_n0]; omega)
    · refine z_iconst (n := 18) (v := 2) C dX6_rowFault_17 rfl rfl ?_
      refine z_iret C E dX6_rowFault_18 ?_
      refine eqQ (show _ = nI (rfS th so c w i n) from ?_) hQ
      rw [h0] at c4
      rw [h1] at c14
      unfold rfS
      repeat' split
      all_goals first | rfl | (exfalso; simp_all [b2i_0, b2i_n0]; done) | (exfalso; simp_all [b2i_0, b2i_n0]; omega)
  · refine z_iconst (n := 8) (v := 1) C dX6_rowFault_7 rfl rfl ?_
    refine z_iret C E dX6_rowFault_8 ?_
    refine eqQ (show _ = nI (rfS th so c w i n) from ?_) hQ
    rw [h0] at c4
    unfold rfS
    repeat' split
    all_goals first | rfl | (exfalso; simp_all [b2i_0, b2i_n0]; done) | (exfalso; simp_all [b2i_0, b2i_n0]; omega)
set_option maxHeartbeats 4000000 in
set_option maxRecDepth 100000 in
theorem c_X6_change {ad : Nat → Nat} {I : KI} {J : KJ} {t : Nat} {k c so : Nat} (hk : k < 4) (h1 : I (67 + 2 * k) 1 = nI so) (hso : so < 3) (hc : c ≤ 100) (hI : I (67 + 2 * k) 2 = nI c) {j : Nat} (hj : j < c) {v : Int32} {Q : KI → KJ → KR → Prop} (hQ : Q (upI I (68 + 2 * k) j (cutS so v)) J (rf t)) : Mv 2 yX6_change (wm yX6_change cX6_change 3 none) [.ref (ad (67 + 2 * k)), .int (nI j), .int (v)] ad I J (rf t) Q := by
  refine mv_of (own := RX6) yk_X6_change rfl (Nat.le_of_ble_eq_true rfl) rfl (fun X hA hnL C K E => ?_)
  subst hA
  refine z_aload_n (n := 1) C 0 dX6_change_0 rfl rfl ?_
  refine z_iload_n (n := 2) C 1 dX6_change_1 rfl rfl ?_
  refine z_iconst (n := 3) (v := 1) C dX6_change_2 rfl rfl ?_
  refine z_vi_2 (n := 6) (d' := 1) C K dX6_change_3 rfl yk_X6_reaches yv_X6_reaches kM_RX6_35 (by decide) hR0 rfl rfl (sh_sheet hk) (by decide) (lt_sheet hk) ?_
  refine c_X6_reaches hk hc hI (fun b3 => ?_) (fun b3 => ?_)
  · refine z_ifT_ne (tgt := 10) C (by decide) dX6_change_6 rfl ?_
    refine z_aload_n (n := 11) C 0 dX6_change_10 rfl rfl ?_
    refine z_getI (n := 14) C K fF_RX6_15 dX6_change_11 rfl (sh_sheet hk) (lt_sheet hk) ?_
    refine z_if_ne (tgt := 28) (n := 17) C dX6_change_14 rfl rfl (fun c14 => ?_) (fun c14 => ?_)
    · refine z_aload_n (n := 29) C 0 dX6_change_28 rfl rfl ?_
      refine z_getI (n := 32) C K fF_RX6_15 dX6_change_29 rfl (sh_sheet hk) (lt_sheet hk) ?_
      refine z_iconst (n := 33) (v := 1) C dX6_change_32 rfl rfl ?_
      refine z_icmp_ne (tgt := 47) (n := 36) C dX6_change_33 rfl rfl (fun c33 => ?_) (fun c33 => ?_)
      · refine z_aload_n (n := 48) C 0 dX6_change_47 rfl rfl ?_
        refine z_getR (n := 51) (q := (68 + 2 * k)) C K fF_RX6_22 dX6_change_48 rfl rfl (sh_sheet hk) (lt_sheet hk) (rf_cells hk) ?_
        refine z_iload_n (n := 52) C 1 dX6_change_51 rfl rfl ?_
        refine z_iload_n (n := 53) C 2 dX6_change_52 rfl rfl ?_
        refine z_iastN (n := 54) C K j dX6_change_53 rfl (sh_cells hk) (lt_cells hk) rfl (by omega) (by decide) ?_
        refine z_vret C E dX6_change_54 ?_
        rw [h1] at c14
        rw [h1] at c33
        have e : so = 0 ∨ so = 1 ∨ so = 2 := by omega
        rcases e with rfl | rfl | rfl
        all_goals first | exact hQ | (exfalso; revert c14; decide) | (exfalso; revert c33; decide)
      · refine z_aload_n (n := 37) C 0 dX6_change_36 rfl rfl ?_
        refine z_getR (n := 40) (q := (68 + 2 * k)) C K fF_RX6_22 dX6_change_37 rfl rfl (sh_sheet hk) (lt_sheet hk) (rf_cells hk) ?_
        refine z_iload_n (n := 41) C 1 dX6_change_40 rfl rfl ?_
        refine z_iload_n (n := 42) C 2 dX6_change_41 rfl rfl ?_
        refine z_i2s (n := 43) C dX6_change_42 rfl ?_
        refine z_iastN (n := 44) C K j dX6_change_43 rfl (sh_cells hk) (lt_cells hk) rfl (by omega) (by decide) ?_
        refine z_goto (n := 54) C dX6_change_44 rfl ?_
        refine z_vret C E dX6_change_54 ?_
        rw [h1] at c14
        rw [h1] at c33
        have e : so = 0 ∨ so = 1 ∨ so = 2 := by omega
        rcases e with rfl | rfl | rfl
        all_goals first | exact hQ | (exfalso; revert c14; decide) | (exfalso; revert c33; decide)
    · refine z_aload_n (n := 18) C 0 dX6_change_17 rfl rfl ?_
      refine z_getR (n := 21) (q := (68 + 2 * k)) C K fF_RX6_22 dX6_change_18 rfl rfl (sh_sheet hk) (lt_sheet hk) (rf_cells hk) ?_
      refine z_iload_n (n := 22) C 1 dX6_change_21 rfl rfl ?_
      refine z_iload_n (n := 23) C 2 dX6_change_22 rfl rfl ?_
      refine z_i2b (n := 24) C dX6_change_23 rfl ?_
      refine z_iastN (n := 25) C K j dX6_change_24 rfl (sh_cells hk) (lt_cells hk) rfl (by omega) (by decide) ?_
      refine z_goto (n := 54) C dX6_change_25 rfl ?_
      refine z_vret C E dX6_change_54 ?_
      rw [h1] at c14
      have e : so = 0 ∨ so = 1 ∨ so = 2 := by omega
      rcases e with rfl | rfl | rfl
      all_goals first | exact hQ | (exfalso; revert c14; decide) | (exfalso; revert c33; decide)
  · refine z_ifF_ne (n := 9) (tgt := 10) C (by decide) dX6_change_6 rfl rfl ?_
    exfalso
    rw [nI_toInt (by omega)] at b3
    simp only [Int32.reduceToInt] at b3
    omega
set_option maxHeartbeats 4000000 in
set_option maxRecDepth 100000 in
theorem c_X0_become {ad : Nat → Nat} {I : KI} {J : KJ} {t : Nat} {x : Nat} (hx : x < 10) {k c a r : Int32} {Q : KI → KJ → KR → Prop} (hQ : Q (upI (upI (upI (upI (upI (upI I (75 + x) 0 k) (75 + x) 1 c) (75 + x) 2 a) (75 + x) 3 r) (75 + x) 4 0) (75 + x) 5 0) J (rf t)) : Mv 1 yX0_become (wm yX0_become cX0_become 5 none) [.ref (ad (75 + x)), .int (k), .int (c), .int (a), .int (r)] ad I J (rf t) Q := by
  refine mv_of (own := RX0) yk_X0_become rfl (Nat.le_of_ble_eq_true rfl) rfl (fun X hA hnL C K E => ?_)
  subst hA
  refine z_aload_n (n := 1) C 0 dX0_become_0 rfl rfl ?_
  refine z_iload_n (n := 2) C 1 dX0_become_1 rfl rfl ?_
  refine z_putI (n := 5) C K fF_RX0_9 dX0_become_2 rfl (sh_child hx) (lt_child hx) ?_
  refine z_aload_n (n := 6) C 0 dX0_become_5 rfl rfl ?_
  refine z_iload_n (n := 7) C 2 dX0_become_6 rfl rfl ?_
  refine z_putI (n := 10) C K fF_RX0_15 dX0_become_7 rfl (sh_child hx) (lt_child hx) ?_
  refine z_aload_n (n := 11) C 0 dX0_become_10 rfl rfl ?_
  refine z_iload_n (n := 12) C 3 dX0_become_11 rfl rfl ?_
  refine z_putI (n := 15) C K fF_RX0_18 dX0_become_12 rfl (sh_child hx) (lt_child hx) ?_
  refine z_aload_n (n := 16) C 0 dX0_become_15 rfl rfl ?_
  refine z_iload (n := 18) C 4 dX0_become_16 rfl rfl ?_
  refine z_putI (n := 21) C K fF_RX0_21 dX0_become_18 rfl (sh_child hx) (lt_child hx) ?_
  refine z_aload_n (n := 22) C 0 dX0_become_21 rfl rfl ?_
  refine z_iconst (n := 23) (v := 0) C dX0_become_22 rfl rfl ?_
  refine z_putI (n := 26) C K fF_RX0_24 dX0_become_23 rfl (sh_child hx) (lt_child hx) ?_
  refine z_aload_n (n := 27) C 0 dX0_become_26 rfl rfl ?_
  refine z_iconst (n := 28) (v := 0) C dX0_become_27 rfl rfl ?_
  refine z_putI (n := 31) C K fF_RX0_27 dX0_become_28 rfl (sh_child hx) (lt_child hx) ?_
  refine z_vret C E dX0_become_31 ?_
  exact hQ
set_option maxHeartbeats 4000000 in
set_option maxRecDepth 100000 in
theorem c_X0_pace {ad : Nat → Nat} {I : KI} {J : KJ} {t : Nat} {x kd ag : Nat} (hx : x < 10) (h0 : I (75 + x) 0 = nI kd) (h2 : I (75 + x) 2 = nI ag) (hkd : kd < 3) (hag : ag < 12) {Q : Int32 → KI → KJ → KR → Prop} (hQ : Q (nI (paceS kd ag)) I J (rf t)) : Mi 1 yX0_pace (wm yX0_pace cX0_pace 2 (some .int)) [.ref (ad (75 + x))] ad I J (rf t) Q := by
  refine mi_of (own := RX0) yk_X0_pace rfl (Nat.le_of_ble_eq_true rfl) rfl (fun X hA hnL C K E => ?_)
  subst hA
  refine z_aload_n (n := 1) C 0 dX0_pace_0 rfl rfl ?_
  refine z_getI (n := 4) C K fF_RX0_18 dX0_pace_1 rfl (sh_child hx) (lt_child hx) ?_
  refine z_iconst (n := 5) (v := 5) C dX0_pace_4 rfl rfl ?_
  refine z_icmp_gt (tgt := 12) (n := 8) C dX0_pace_5 rfl rfl (fun c5 => ?_) (fun c5 => ?_)
  · refine z_aload_n (n := 13) C 0 dX0_pace_12 rfl rfl ?_
    refine z_getI (n := 16) C K fF_RX0_18 dX0_pace_13 rfl (sh_child hx) (lt_child hx) ?_
    refine z_bipush (n := 18) (v := 8) C dX0_pace_16 rfl rfl ?_
    refine z_icmp_gt (tgt := 25) (n := 21) C dX0_pace_18 rfl rfl (fun c18 => ?_) (fun c18 => ?_)
    · refine z_iconst (n := 26) (v := 1) C dX0_pace_25 rfl rfl ?_
      refine z_istore_n (n := 27) (L' := [(1, _), (0, _)]) C dX0_pace_26 rfl (by rw [hnL]; decide) rfl ?_
      refine z_aload_n (n := 28) C 1 dX0_pace_27 rfl rfl ?_
      refine z_getI (n := 31) C K fF_RX0_9 dX0_pace_28 rfl (sh_child hx) (lt_child hx) ?_
      refine z_iconst (n := 32) (v := 1) C dX0_pace_31 rfl rfl ?_
      refine z_icmp_lt (tgt := 41) (n := 35) C dX0_pace_32 rfl rfl (fun c32 => ?_) (fun c32 => ?_)
      · refine z_iload_n (n := 42) C 0 dX0_pace_41 rfl rfl ?_
        refine z_iret C E dX0_pace_42 ?_
        refine eqQ (show _ = nI (paceS kd ag) from ?_) hQ
        rw [fa_lt, h2, nI_toInt (by omega)] at c5
        rw [fa_lt, h2, nI_toInt (by omega)] at c18
        rw [fa_lt, h0, nI_toInt (by omega)] at c32
        simp only [Int32.reduceToInt] at c5 c18 c32
        unfold paceS
        repeat' split
        all_goals first | rfl | (exfalso; omega)
      · refine z_iload_n (n := 36) C 0 dX0_pace_35 rfl rfl ?_
        refine z_iconst (n := 37) (v := 1) C dX0_pace_36 rfl rfl ?_
        refine z_iadd (n := 38) C dX0_pace_37 rfl ?_
        refine z_goto (n := 42) C dX0_pace_38 rfl ?_
        refine z_iret C E dX0_pace_42 ?_
        refine eqQ (show _ = nI (paceS kd ag) from ?_) hQ
        rw [fa_lt, h2, nI_toInt (by omega)] at c5
        rw [fa_lt, h2, nI_toInt (by omega)] at c18
        rw [fa_lt, h0, nI_toInt (by omega)] at c32
        simp only [Int32.reduceToInt] at c5 c18 c32
        unfold paceS
        repeat' split
        all_goals first | rfl | (exfalso; omega)
    · refine z_iconst (n := 22) (v := 2) C dX0_pace_21 rfl rfl ?_
      refine z_goto (n := 26) C dX0_pace_22 rfl ?_
      refine z_istore_n (n := 27) (L' := [(1, _), (0, _)]) C dX0_pace_26 rfl (by rw [hnL]; decide) rfl ?_
      refine z_aload_n (n := 28) C 1 dX0_pace_27 rfl rfl ?_
      refine z_getI (n := 31) C K fF_RX0_9 dX0_pace_28 rfl (sh_child hx) (lt_child hx) ?_
      refine z_iconst (n := 32) (v := 1) C dX0_pace_31 rfl rfl ?_
      refine z_icmp_lt (tgt := 41) (n := 35) C dX0_pace_32 rfl rfl (fun c32 => ?_) (fun c32 => ?_)
      · refine z_iload_n (n := 42) C 0 dX0_pace_41 rfl rfl ?_
        refine z_iret C E dX0_pace_42 ?_
        refine eqQ (show _ = nI (paceS kd ag) from ?_) hQ
        rw [fa_lt, h2, nI_toInt (by omega)] at c5
        rw [fa_lt, h2, nI_toInt (by omega)] at c18
        rw [fa_lt, h0, nI_toInt (by omega)] at c32
        simp only [Int32.reduceToInt] at c5 c18 c32
        unfold paceS
        repeat' split
        all_goals first | rfl | (exfalso; omega)
      · refine z_iload_n (n := 36) C 0 dX0_pace_35 rfl rfl ?_
        refine z_iconst (n := 37) (v := 1) C dX0_pace_36 rfl rfl ?_
        refine z_iadd (n := 38) C dX0_pace_37 rfl ?_
        refine z_goto (n := 42) C dX0_pace_38 rfl ?_
        refine z_iret C E dX0_pace_42 ?_
        refine eqQ (show _ = nI (paceS kd ag) from ?_) hQ
        rw [fa_lt, h2, nI_toInt (by omega)] at c5
        rw [fa_lt, h2, nI_toInt (by omega)] at c18
        rw [fa_lt, h0, nI_toInt (by omega)] at c32
        simp only [Int32.reduceToInt] at c5 c18 c32
        unfold paceS
        repeat' split
        all_goals first | rfl | (exfalso; omega)
  · refine z_iconst (n := 9) (v := 3) C dX0_pace_8 rfl rfl ?_
    refine z_goto (n := 26) C dX0_pace_9 rfl ?_
    refine z_istore_n (n := 27) (L' := [(1, _), (0, _)]) C dX0_pace_26 rfl (by rw [hnL]; decide) rfl ?_
    refine z_aload_n (n := 28) C 1 dX0_pace_27 rfl rfl ?_
    refine z_getI (n := 31) C K fF_RX0_9 dX0_pace_28 rfl (sh_child hx) (lt_child hx) ?_
    refine z_iconst (n := 32) (v := 1) C dX0_pace_31 rfl rfl ?_
    refine z_icmp_lt (tgt := 41) (n := 35) C dX0_pace_32 rfl rfl (fun c32 => ?_) (fun c32 => ?_)
    · refine z_iload_n (n := 42) C 0 dX0_pace_41 rfl rfl ?_
      refine z_iret C E dX0_pace_42 ?_
      refine eqQ (show _ = nI (paceS kd ag) from ?_) hQ
      rw [fa_lt, h2, nI_toInt (by omega)] at c5
      rw [fa_lt, h0, nI_toInt (by omega)] at c32
      simp only [Int32.reduceToInt] at c5 c32
      unfold paceS
      repeat' split
      all_goals first | rfl | (exfalso; omega)
    · refine z_iload_n (n := 36) C 0 dX0_pace_35 rfl rfl ?_
      refine z_iconst (n := 37) (v := 1) C dX0_pace_36 rfl rfl ?_
      refine z_iadd (n := 38) C dX0_pace_37 rfl ?_
      refine z_goto (n := 42) C dX0_pace_38 rfl ?_
      refine z_iret C E dX0_pace_42 ?_
      refine eqQ (show _ = nI (paceS kd ag) from ?_) hQ
      rw [fa_lt, h2, nI_toInt (by omega)] at c5
      rw [fa_lt, h0, nI_toInt (by omega)] at c32
      simp only [Int32.reduceToInt] at c5 c32
      unfold paceS
      repeat' split
      all_goals first | rfl | (exfalso; omega)
set_option maxHeartbeats 4000000 in
set_option maxRecDepth 100000 in
theorem c_X0_heads {ad : Nat → Nat} {I : KI} {J : KJ} {t : Nat} {x kd : Nat} (hx : x < 10) (h0 : I (75 + x) 0 = nI kd) (hkd : kd < 3) {Q : Int32 → KI → KJ → KR → Prop} (hQ : Q (if kd = 2 then 3 else 1) I J (rf t)) : Mi 1 yX0_heads (wm yX0_heads cX0_heads 1 (some .int)) [.ref (ad (75 + x))] ad I J (rf t) Q := by
  refine mi_of (own := RX0) yk_X0_heads rfl (Nat.le_of_ble_eq_true rfl) rfl (fun X hA hnL C K E => ?_)
  subst hA
  refine z_aload_n (n := 1) C 0 dX0_heads_0 rfl rfl ?_
  refine z_getI (n := 4) C K fF_RX0_9 dX0_heads_1 rfl (sh_child hx) (lt_child hx) ?_
  refine z_iconst (n := 5) (v := 2) C dX0_heads_4 rfl rfl ?_
  refine z_icmp_ne (tgt := 12) (n := 8) C dX0_heads_5 rfl rfl (fun c5 => ?_) (fun c5 => ?_)
  · refine z_iconst (n := 13) (v := 1) C dX0_heads_12 rfl rfl ?_
    refine z_iret C E dX0_heads_13 ?_
    rw [h0] at c5
    have e : kd = 0 ∨ kd = 1 ∨ kd = 2 := by omega
    rcases e with rfl | rfl | rfl
    all_goals first | exact hQ | (exfalso; revert c5; decide)
  · refine z_iconst (n := 9) (v := 3) C dX0_heads_8 rfl rfl ?_
    refine z_goto (n := 13) C dX0_heads_9 rfl ?_
    refine z_iret C E dX0_heads_13 ?_
    rw [h0] at c5
    have e : kd = 0 ∨ kd = 1 ∨ kd = 2 := by omega
    rcases e with rfl | rfl | rfl
    all_goals first | exact hQ | (exfalso; revert c5; decide)
set_option maxHeartbeats 4000000 in
set_option maxRecDepth 100000 in
theorem c_X0_bondWith {ad : Nat → Nat} {I : KI} {J : KJ} {t : Nat} {x y F G : Nat} (hx : x < 10) (hy : y < 10) (h4 : I (75 + x) 4 = nI F) (h5 : I (75 + x) 5 = nI G) (hF : F < 1024) (hG : G < 1024) {Q : Int32 → KI → KJ → KR → Prop} (hQ : Q (nI (bondS F G y)) I J (rf t)) : Mi 1 yX0_bondWith (wm yX0_bondWith cX0_bondWith 2 (some .int)) [.ref (ad (75 + x)), .int (nI y)] ad I J (rf t) Q := by
  refine mi_of (own := RX0) yk_X0_bondWith rfl (Nat.le_of_ble_eq_true rfl) rfl (fun X hA hnL C K E => ?_)
  subst hA
  refine z_aload_n (n := 1) C 0 dX0_bondWith_0 rfl rfl ?_
  refine z_getI (n := 4) C K fF_RX0_24 dX0_bondWith_1 rfl (sh_child hx) (lt_child hx) ?_
  refine z_iload_n (n := 5) C 1 dX0_bondWith_4 rfl rfl ?_
  refine z_ishr (n := 6) C dX0_bondWith_5 rfl ?_
  refine z_iconst (n := 7) (v := 1) C dX0_bondWith_6 rfl rfl ?_
  refine z_iand (n := 8) C dX0_bondWith_7 rfl ?_
  refine z_if_eq (tgt := 13) (n := 11) C dX0_bondWith_8 rfl rfl (fun c8 => ?_) (fun c8 => ?_)
  · refine z_aload_n (n := 14) C 0 dX0_bondWith_13 rfl rfl ?_
    refine z_getI (n := 17) C K fF_RX0_27 dX0_bondWith_14 rfl (sh_child hx) (lt_child hx) ?_
    refine z_iload_n (n := 18) C 1 dX0_bondWith_17 rfl rfl ?_
    refine z_ishr (n := 19) C dX0_bondWith_18 rfl ?_
    refine z_iconst (n := 20) (v := 1) C dX0_bondWith_19 rfl rfl ?_
    refine z_iand (n := 21) C dX0_bondWith_20 rfl ?_
    refine z_if_eq (tgt := 28) (n := 24) C dX0_bondWith_21 rfl rfl (fun c21 => ?_) (fun c21 => ?_)
    · refine z_iconst (n := 29) (v := 0) C dX0_bondWith_28 rfl rfl ?_
      refine z_iret C E dX0_bondWith_29 ?_
      refine eqQ (show _ = nI (bondS F G y) from ?_) hQ
      rw [h4, bt_nI (by omega) (by omega)] at c8
      rw [h5, bt_nI (by omega) (by omega)] at c21
      unfold bondS
      repeat' split
      all_goals first | rfl | (exfalso; simp_all; done)
    · refine z_iconst (n := 25) (v := 2) C dX0_bondWith_24 rfl rfl ?_
      refine z_goto (n := 29) C dX0_bondWith_25 rfl ?_
      refine z_iret C E dX0_bondWith_29 ?_
      refine eqQ (show _ = nI (bondS F G y) from ?_) hQ
      rw [h4, bt_nI (by omega) (by omega)] at c8
      rw [h5, bt_nI (by omega) (by omega)] at c21
      unfold bondS
      repeat' split
      all_goals first | rfl | (exfalso; simp_all; done)
  · refine z_iconst (n := 12) (v := 1) C dX0_bondWith_11 rfl rfl ?_
    refine z_iret C E dX0_bondWith_12 ?_
    refine eqQ (show _ = nI (bondS F G y) from ?_) hQ
    rw [h4, bt_nI (by omega) (by omega)] at c8
    unfold bondS
    repeat' split
    all_goals first | rfl | (exfalso; simp_all; done)
set_option maxHeartbeats 4000000 in
set_option maxRecDepth 100000 in
theorem c_X0_bind {ad : Nat → Nat} {I : KI} {J : KJ} {t : Nat} {x y F G v : Nat} (hx : x < 10) (hy : y < 10) (h4 : I (75 + x) 4 = nI F) (h5 : I (75 + x) 5 = nI G) (hv : v < 3) {Q : KI → KJ → KR → Prop} (hQ : Q (upI (upI I (75 + x) 4 (nI (bindS F y v 1))) (75 + x) 5 (nI (bindS G y v 2))) J (rf t)) : Mv 1 yX0_bind (wm yX0_bind cX0_bind 4 none) [.ref (ad (75 + x)), .int (nI y), .int (nI v)] ad I J (rf t) Q := by
  refine mv_of (own := RX0) yk_X0_bind rfl (Nat.le_of_ble_eq_true rfl) rfl (fun X hA hnL C K E => ?_)
  subst hA
  refine z_iconst (n := 1) (v := 1) C dX0_bind_0 rfl rfl ?_
  refine z_iload_n (n := 2) C 1 dX0_bind_1 rfl rfl ?_
  refine z_ishl (n := 3) C dX0_bind_2 rfl ?_
  refine z_istore_n (n := 4) (L' := [(3, _), (0, _), (1, _), (2, _)]) C dX0_bind_3 rfl (by rw [hnL]; decide) rfl ?_
  refine z_aload_n (n := 5) C 1 dX0_bind_4 rfl rfl ?_
  refine z_iload_n (n := 6) C 3 dX0_bind_5 rfl rfl ?_
  refine z_iconst (n := 7) (v := 1) C dX0_bind_6 rfl rfl ?_
  refine z_icmp_ne (tgt := 19) (n := 10) C dX0_bind_7 rfl rfl (fun c7 => ?_) (fun c7 => ?_)
  · refine z_aload_n (n := 20) C 1 dX0_bind_19 rfl rfl ?_
    refine z_getI (n := 23) C K fF_RX0_24 dX0_bind_20 rfl (sh_child hx) (lt_child hx) ?_
    refine z_iload_n (n := 24) C 0 dX0_bind_23 rfl rfl ?_
    refine z_iconst (n := 25) (v := (-1)) C dX0_bind_24 rfl rfl ?_
    refine z_ixor (n := 26) C dX0_bind_25 rfl ?_
    refine z_iand (n := 27) C dX0_bind_26 rfl ?_
    refine z_putI (n := 30) C K fF_RX0_24 dX0_bind_27 rfl (sh_child hx) (lt_child hx) ?_
    refine z_aload_n (n := 31) C 1 dX0_bind_30 rfl rfl ?_
    refine z_iload_n (n := 32) C 3 dX0_bind_31 rfl rfl ?_
    refine z_iconst (n := 33) (v := 2) C dX0_bind_32 rfl rfl ?_
    refine z_icmp_ne (tgt := 45) (n := 36) C dX0_bind_33 rfl rfl (fun c33 => ?_) (fun c33 => ?_)
    · refine z_aload_n (n := 46) C 1 dX0_bind_45 rfl rfl ?_
      refine z_getI (n := 49) C K fF_RX0_27 dX0_bind_46 rfl (sh_child hx) (lt_child hx) ?_
      refine z_iload_n (n := 50) C 0 dX0_bind_49 rfl rfl ?_
      refine z_iconst (n := 51) (v := (-1)) C dX0_bind_50 rfl rfl ?_
      refine z_ixor (n := 52) C dX0_bind_51 rfl ?_
      refine z_iand (n := 53) C dX0_bind_52 rfl ?_
      refine z_putI (n := 56) C K fF_RX0_27 dX0_bind_53 rfl (sh_child hx) (lt_child hx) ?_
      refine z_vret C E dX0_bind_56 ?_
      have e : v = 0 ∨ v = 1 ∨ v = 2 := by omega
      rw [upI_k I _ (show (5 : Nat) ≠ 4 by decide), h4, h5, one_shl y (by omega)]
      rcases e with rfl | rfl | rfl
      all_goals first | (exfalso; revert c7; decide) | (exfalso; revert c33; decide) | skip
      all_goals simp only [or_nI, clr_nI]
      all_goals exact hQ
    · refine z_aload_n (n := 37) C 1 dX0_bind_36 rfl rfl ?_
      refine z_getI (n := 40) C K fF_RX0_27 dX0_bind_37 rfl (sh_child hx) (lt_child hx) ?_
      refine z_iload_n (n := 41) C 0 dX0_bind_40 rfl rfl ?_
      refine z_ior (n := 42) C dX0_bind_41 rfl ?_
      refine z_goto (n := 53) C dX0_bind_42 rfl ?_
      refine z_putI (n := 56) C K fF_RX0_27 dX0_bind_53 rfl (sh_child hx) (lt_child hx) ?_
      refine z_vret C E dX0_bind_56 ?_
      have e : v = 0 ∨ v = 1 ∨ v = 2 := by omega
      rw [upI_k I _ (show (5 : Nat) ≠ 4 by decide), h4, h5, one_shl y (by omega)]
      rcases e with rfl | rfl | rfl
      all_goals first | (exfalso; revert c7; decide) | (exfalso; revert c33; decide) | skip
      all_goals simp only [or_nI, clr_nI]
      all_goals exact hQ
  · refine z_aload_n (n := 11) C 1 dX0_bind_10 rfl rfl ?_
    refine z_getI (n := 14) C K fF_RX0_24 dX0_bind_11 rfl (sh_child hx) (lt_child hx) ?_
    refine z_iload_n (n := 15) C 0 dX0_bind_14 rfl rfl ?_
    refine z_ior (n := 16) C dX0_bind_15 rfl ?_
    refine z_goto (n := 27) C dX0_bind_16 rfl ?_
    refine z_putI (n := 30) C K fF_RX0_24 dX0_bind_27 rfl (sh_child hx) (lt_child hx) ?_
    refine z_aload_n (n := 31) C 1 dX0_bind_30 rfl rfl ?_
    refine z_iload_n (n := 32) C 3 dX0_bind_31 rfl rfl ?_
    refine z_iconst (n := 33) (v := 2) C dX0_bind_32 rfl rfl ?_
    refine z_icmp_ne (tgt := 45) (n := 36) C dX0_bind_33 rfl rfl (fun c33 => ?_) (fun c33 => ?_)
    · refine z_aload_n (n := 46) C 1 dX0_bind_45 rfl rfl ?_
      refine z_getI (n := 49) C K fF_RX0_27 dX0_bind_46 rfl (sh_child hx) (lt_child hx) ?_
      refine z_iload_n (n := 50) C 0 dX0_bind_49 rfl rfl ?_
      refine z_iconst (n := 51) (v := (-1)) C dX0_bind_50 rfl rfl ?_
      refine z_ixor (n := 52) C dX0_bind_51 rfl ?_
      refine z_iand (n := 53) C dX0_bind_52 rfl ?_
      refine z_putI (n := 56) C K fF_RX0_27 dX0_bind_53 rfl (sh_child hx) (lt_child hx) ?_
      refine z_vret C E dX0_bind_56 ?_
      have e : v = 0 ∨ v = 1 ∨ v = 2 := by omega
      rw [upI_k I _ (show (5 : Nat) ≠ 4 by decide), h4, h5, one_shl y (by omega)]
      rcases e with rfl | rfl | rfl
      all_goals first | (exfalso; revert c7; decide) | (exfalso; revert c33; decide) | skip
      all_goals simp only [or_nI, clr_nI]
      all_goals exact hQ
    · refine z_aload_n (n := 37) C 1 dX0_bind_36 rfl rfl ?_
      refine z_getI (n := 40) C K fF_RX0_27 dX0_bind_37 rfl (sh_child hx) (lt_child hx) ?_
      refine z_iload_n (n := 41) C 0 dX0_bind_40 rfl rfl ?_
      refine z_ior (n := 42) C dX0_bind_41 rfl ?_
      refine z_goto (n := 53) C dX0_bind_42 rfl ?_
      refine z_putI (n := 56) C K fF_RX0_27 dX0_bind_53 rfl (sh_child hx) (lt_child hx) ?_
      refine z_vret C E dX0_bind_56 ?_
      have e : v = 0 ∨ v = 1 ∨ v = 2 := by omega
      rw [upI_k I _ (show (5 : Nat) ≠ 4 by decide), h4, h5, one_shl y (by omega)]
      rcases e with rfl | rfl | rfl
      all_goals first | (exfalso; revert c7; decide) | (exfalso; revert c33; decide) | skip
      all_goals simp only [or_nI, clr_nI]
      all_goals exact hQ
