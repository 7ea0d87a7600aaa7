set_option maxHeartbeats 4000000 in
set_option maxRecDepth 100000 in
theorem c_X10_mayBe {ad : Nat → Nat} {I : KI} {J : KJ} {t : Nat} {n c : Nat} {ki co ag re : Nat → Nat} {T : Nat → Nat → Nat} (hk : mKd I c ki co ag re T) (okk : okKd n c ki co ag re T) {set emp r : Nat} {rs : List Nat} (hset : set < 2 ^ c) (hr : rowA I 105 rs) (hrs : rsOk set emp rs) {x al loops : Nat} (hx : x < c) (hlen : rs.length < loops) (hl8 : loops ≤ 8) (hemp : emp = 98 ∨ emp + 2 = loops) (hr11 : r ≤ 11) (hal1 : al ≤ 1) (hal0 : 1 ≤ rs.length → (al = 1 ↔ rs.getD 0 99 = 99)) {Q : Int32 → KI → KJ → KR → Prop} (h1 : okS T ag r rs x = true → Q 1 I J (rf t)) (h0 : ¬ okS T ag r rs x = true → Q 0 I J (rf t)) : Mi 1 yX10_mayBe (wm yX10_mayBe cX10_mayBe 5 (some .boolean)) [.ref (ad 85), .int (nI rs.length), .int (nI x), .int (nI r), .int (nI al)] ad I J (rf t) Q := by
  refine mi_of (own := RX10) yk_X10_mayBe rfl (Nat.le_of_ble_eq_true rfl) rfl (fun X hA hnL C K E => ?_)
  subst hA
  have h1024 : 2 ^ c ≤ 2 ^ 10 := Nat.pow_le_pow_right (by decide) okk.1
  have hc10 := okk.1
  have hs1024 : set < 1024 := by omega
  have hcb : ∀ y, set.testBit y = true → y < c := fun y hy => by
    by_cases e : y < c
    · exact e
    · rw [Nat.testBit_lt_two_pow (Nat.lt_of_lt_of_le hset (Nat.pow_le_pow_right (by decide) (by omega)))] at hy; cases hy
  have hgi := getD_in hrs.1
  refine z_iload_n (n := 1) C 1 dX10_mayBe_0 rfl rfl ?_
  refine z_iconst (n := 2) (v := 2) C dX10_mayBe_1 rfl rfl ?_
  refine z_irem (n := 3) C dX10_mayBe_2 rfl (by decide) ?_
  rw [show (2 : Int32) = nI 2 from rfl, pk_rem (by omega) (by decide) (by decide)]
  refine z_if_ne (tgt := 18) (n := 6) C dX10_mayBe_3 rfl rfl (fun c3 => ?_) (fun c3 => ?_)
  · have hod : rs.length % 2 = 1 := by
      have : rs.length % 2 ≠ 0 := fun e => c3 (by rw [e]; rfl)
      omega
    refine z_iload_n (n := 19) C 1 dX10_mayBe_18 rfl rfl ?_
    refine z_iconst (n := 20) (v := 2) C dX10_mayBe_19 rfl rfl ?_
    refine z_irem (n := 21) C dX10_mayBe_20 rfl (by decide) ?_
    rw [show (2 : Int32) = nI 2 from rfl, pk_rem (by omega) (by decide) (by decide)]
    refine z_iconst (n := 22) (v := 1) C dX10_mayBe_21 rfl rfl ?_
    refine z_icmp_ne (tgt := 54) (n := 25) C dX10_mayBe_22 rfl rfl (fun c22 => ?_) (fun c22 => ?_)
    · exact absurd (by rw [hod]; rfl) c22
    · refine z_iload (n := 27) C 4 dX10_mayBe_25 rfl rfl ?_
      refine z_if_ne (tgt := 54) (n := 30) C dX10_mayBe_27 rfl rfl (fun c27 => ?_) (fun c27 => ?_)
      · refine z_iload_n (n := 55) C 1 dX10_mayBe_54 rfl rfl ?_
        refine z_iconst (n := 56) (v := 2) C dX10_mayBe_55 rfl rfl ?_
        refine z_icmp_lt (tgt := 81) (n := 59) C dX10_mayBe_56 rfl rfl (fun c56 => ?_) (fun c56 => ?_)
        · refine z_iconst (n := 82) (v := 1) C dX10_mayBe_81 rfl rfl ?_
          refine z_goto (n := 86) C dX10_mayBe_82 rfl ?_
          refine z_zret C E dX10_mayBe_86 (by decide) ?_
          have z0 : seatQ T (rs.getD 0 99) x = false := by unfold seatQ; rw [(hal0 (by omega)).mp (by have : al ≠ 0 := fun e => c27 (by rw [e]; rfl); omega)]; rfl
          rw [fa_lt, nI_toInt (by omega)] at c56
          simp only [Int32.reduceToInt] at c56
          have z1 : seatQ T (rs.getD 1 99) x = false := by rw [getD_end (show rs.length ≤ 1 by omega)]; rfl
          exact h1 (by unfold okS; rw [decide_eq_true hod, z0, z1]; rfl)
        · rw [fa_lt, nI_toInt (by omega)] at c56
          simp only [Int32.reduceToInt] at c56
          have hs1 : rs.getD 1 99 ≠ 99 := fun e => by have := (hrs.h1 (by omega)).mp e; omega
          obtain ⟨s1, e1⟩ : ∃ s1, rs.getD 1 99 = s1 := ⟨_, rfl⟩
          have hz1 := hgi 1
          have hrow1 := hr.h1 (by omega)
          rw [e1] at hs1 hz1 hrow1
          have hs1c := hcb s1 (hz1.resolve_left hs1)
          rw [show seatI s1 = nI s1 from if_neg hs1] at hrow1
          have hT4 := (okk.2.2 x s1 hx hs1c).1
          refine z_aload_n (n := 60) C 0 dX10_mayBe_59 rfl rfl ?_
          refine z_getR (n := 63) (q := 100) C K fF_RX10_52 dX10_mayBe_60 rfl rfl sh_85 (by decide) rfl ?_
          refine z_bipush (n := 65) (v := 10) C dX10_mayBe_63 rfl rfl ?_
          refine z_iload_n (n := 66) C 2 dX10_mayBe_65 rfl rfl ?_
          rw [show (10 : Int32) = nI 10 from rfl]
          refine z_imul (n := 67) C dX10_mayBe_66 rfl ?_
          rw [mul_nI]
          refine z_aload_n (n := 68) C 0 dX10_mayBe_67 rfl rfl ?_
          refine z_getR (n := 71) (q := 105) C K fF_RX10_72 dX10_mayBe_68 rfl rfl sh_85 (by decide) rfl ?_
          refine z_iload_n (n := 72) C 1 dX10_mayBe_71 rfl rfl ?_
          refine z_iconst (n := 73) (v := 2) C dX10_mayBe_72 rfl rfl ?_
          refine z_isub (n := 74) C dX10_mayBe_73 rfl ?_
          rw [show nI rs.length - 2 = nI (rs.length - 2) from nI_sub (b := 2) (by omega) (by omega)]
          refine z_ialdN (n := 75) C K (rs.length - 2) dX10_mayBe_74 rfl sh_105 (by decide) rfl (by omega) (by decide) ?_
          rw [hrow1]
          refine z_iadd (n := 76) C dX10_mayBe_75 rfl ?_
          rw [nI_add]
          refine z_ialdN (n := 77) C K (10 * x + s1) dX10_mayBe_76 rfl sh_100 (by decide) rfl (by omega) (by decide) ?_
          rw [hk.2.2 x s1 hx hs1c]
          refine z_iconst (n := 78) (v := 2) C dX10_mayBe_77 rfl rfl ?_
          refine z_icmp_eq (tgt := 85) (n := 81) C dX10_mayBe_78 rfl rfl (fun c78 => ?_) (fun c78 => ?_)
          · refine z_iconst (n := 86) (v := 0) C dX10_mayBe_85 rfl rfl ?_
            refine z_zret C E dX10_mayBe_86 (by decide) ?_
            have hT : T x s1 = 2 := nI_inj (b := 2) c78 (by omega) (by decide)
            exact h0 (fun q => by unfold okS at q; rw [e1, show seatQ T s1 x = true by unfold seatQ; rw [hT, decide_eq_true hs1]; rfl] at q; simp at q)
          · refine z_iconst (n := 82) (v := 1) C dX10_mayBe_81 rfl rfl ?_
            refine z_goto (n := 86) C dX10_mayBe_82 rfl ?_
            refine z_zret C E dX10_mayBe_86 (by decide) ?_
            have z0 : seatQ T (rs.getD 0 99) x = false := by unfold seatQ; rw [(hal0 (by omega)).mp (by have : al ≠ 0 := fun e => c27 (by rw [e]; rfl); omega)]; rfl
            have z1 : seatQ T (rs.getD 1 99) x = false := by
              rw [e1]
              unfold seatQ
              rw [show (T x s1 == 2) = false from beq_eq_false_iff_ne.mpr (fun e => c78 (by rw [e]; rfl)), Bool.and_false]
            exact h1 (by unfold okS; rw [decide_eq_true hod, z0, z1]; rfl)
      · have hal := hal0 (by omega)
        have hs0 : rs.getD 0 99 ≠ 99 := fun e => by have := hal.mpr e; subst this; exact absurd c27 (by decide)
        obtain ⟨s0, e0⟩ : ∃ s0, rs.getD 0 99 = s0 := ⟨_, rfl⟩
        have hz0 := hgi 0
        have hrow0 := hr.h0 (by omega)
        rw [e0] at hs0 hz0 hrow0
        have hs0c := hcb s0 (hz0.resolve_left hs0)
        rw [show seatI s0 = nI s0 from if_neg hs0] at hrow0
        have hT3 := (okk.2.2 x s0 hx hs0c).1
        refine z_aload_n (n := 31) C 0 dX10_mayBe_30 rfl rfl ?_
        refine z_getR (n := 34) (q := 100) C K fF_RX10_52 dX10_mayBe_31 rfl rfl sh_85 (by decide) rfl ?_
        refine z_bipush (n := 36) (v := 10) C dX10_mayBe_34 rfl rfl ?_
        refine z_iload_n (n := 37) C 2 dX10_mayBe_36 rfl rfl ?_
        rw [show (10 : Int32) = nI 10 from rfl]
        refine z_imul (n := 38) C dX10_mayBe_37 rfl ?_
        rw [mul_nI]
        refine z_aload_n (n := 39) C 0 dX10_mayBe_38 rfl rfl ?_
        refine z_getR (n := 42) (q := 105) C K fF_RX10_72 dX10_mayBe_39 rfl rfl sh_85 (by decide) rfl ?_
        refine z_iload_n (n := 43) C 1 dX10_mayBe_42 rfl rfl ?_
        refine z_iconst (n := 44) (v := 1) C dX10_mayBe_43 rfl rfl ?_
        refine z_isub (n := 45) C dX10_mayBe_44 rfl ?_
        rw [nI_s1 _ (by omega)]
        refine z_ialdN (n := 46) C K (rs.length - 1) dX10_mayBe_45 rfl sh_105 (by decide) rfl (by omega) (by decide) ?_
        rw [hrow0]
        refine z_iadd (n := 47) C dX10_mayBe_46 rfl ?_
        rw [nI_add]
        refine z_ialdN (n := 48) C K (10 * x + s0) dX10_mayBe_47 rfl sh_100 (by decide) rfl (by omega) (by decide) ?_
        rw [hk.2.2 x s0 hx hs0c]
        refine z_iconst (n := 49) (v := 2) C dX10_mayBe_48 rfl rfl ?_
        refine z_icmp_ne (tgt := 54) (n := 52) C dX10_mayBe_49 rfl rfl (fun c49 => ?_) (fun c49 => ?_)
        · refine z_iload_n (n := 55) C 1 dX10_mayBe_54 rfl rfl ?_
          refine z_iconst (n := 56) (v := 2) C dX10_mayBe_55 rfl rfl ?_
          refine z_icmp_lt (tgt := 81) (n := 59) C dX10_mayBe_56 rfl rfl (fun c56 => ?_) (fun c56 => ?_)
          · refine z_iconst (n := 82) (v := 1) C dX10_mayBe_81 rfl rfl ?_
            refine z_goto (n := 86) C dX10_mayBe_82 rfl ?_
            refine z_zret C E dX10_mayBe_86 (by decide) ?_
            have z0 : seatQ T (rs.getD 0 99) x = false := by
              rw [e0]
              unfold seatQ
              rw [show (T x s0 == 2) = false from beq_eq_false_iff_ne.mpr (fun e => c49 (by rw [e]; rfl)), Bool.and_false]
            rw [fa_lt, nI_toInt (by omega)] at c56
            simp only [Int32.reduceToInt] at c56
            have z1 : seatQ T (rs.getD 1 99) x = false := by rw [getD_end (show rs.length ≤ 1 by omega)]; rfl
            exact h1 (by unfold okS; rw [decide_eq_true hod, z0, z1]; rfl)
          · rw [fa_lt, nI_toInt (by omega)] at c56
            simp only [Int32.reduceToInt] at c56
            have hs1 : rs.getD 1 99 ≠ 99 := fun e => by have := (hrs.h1 (by omega)).mp e; omega
            obtain ⟨s1, e1⟩ : ∃ s1, rs.getD 1 99 = s1 := ⟨_, rfl⟩
            have hz1 := hgi 1
            have hrow1 := hr.h1 (by omega)
            rw [e1] at hs1 hz1 hrow1
            have hs1c := hcb s1 (hz1.resolve_left hs1)
            rw [show seatI s1 = nI s1 from if_neg hs1] at hrow1
            have hT4 := (okk.2.2 x s1 hx hs1c).1
            refine z_aload_n (n := 60) C 0 dX10_mayBe_59 rfl rfl ?_
            refine z_getR (n := 63) (q := 100) C K fF_RX10_52 dX10_mayBe_60 rfl rfl sh_85 (by decide) rfl ?_
            refine z_bipush (n := 65) (v := 10) C dX10_mayBe_63 rfl rfl ?_
            refine z_iload_n (n := 66) C 2 dX10_mayBe_65 rfl rfl ?_
            rw [show (10 : Int32) = nI 10 from rfl]
            refine z_imul (n := 67) C dX10_mayBe_66 rfl ?_
            rw [mul_nI]
            refine z_aload_n (n := 68) C 0 dX10_mayBe_67 rfl rfl ?_
            refine z_getR (n := 71) (q := 105) C K fF_RX10_72 dX10_mayBe_68 rfl rfl sh_85 (by decide) rfl ?_
            refine z_iload_n (n := 72) C 1 dX10_mayBe_71 rfl rfl ?_
            refine z_iconst (n := 73) (v := 2) C dX10_mayBe_72 rfl rfl ?_
            refine z_isub (n := 74) C dX10_mayBe_73 rfl ?_
            rw [show nI rs.length - 2 = nI (rs.length - 2) from nI_sub (b := 2) (by omega) (by omega)]
            refine z_ialdN (n := 75) C K (rs.length - 2) dX10_mayBe_74 rfl sh_105 (by decide) rfl (by omega) (by decide) ?_
            rw [hrow1]
            refine z_iadd (n := 76) C dX10_mayBe_75 rfl ?_
            rw [nI_add]
            refine z_ialdN (n := 77) C K (10 * x + s1) dX10_mayBe_76 rfl sh_100 (by decide) rfl (by omega) (by decide) ?_
            rw [hk.2.2 x s1 hx hs1c]
            refine z_iconst (n := 78) (v := 2) C dX10_mayBe_77 rfl rfl ?_
            refine z_icmp_eq (tgt := 85) (n := 81) C dX10_mayBe_78 rfl rfl (fun c78 => ?_) (fun c78 => ?_)
            · refine z_iconst (n := 86) (v := 0) C dX10_mayBe_85 rfl rfl ?_
              refine z_zret C E dX10_mayBe_86 (by decide) ?_
              have hT : T x s1 = 2 := nI_inj (b := 2) c78 (by omega) (by decide)
              exact h0 (fun q => by unfold okS at q; rw [e1, show seatQ T s1 x = true by unfold seatQ; rw [hT, decide_eq_true hs1]; rfl] at q; simp at q)
            · refine z_iconst (n := 82) (v := 1) C dX10_mayBe_81 rfl rfl ?_
              refine z_goto (n := 86) C dX10_mayBe_82 rfl ?_
              refine z_zret C E dX10_mayBe_86 (by decide) ?_
              have z0 : seatQ T (rs.getD 0 99) x = false := by
                rw [e0]
                unfold seatQ
                rw [show (T x s0 == 2) = false from beq_eq_false_iff_ne.mpr (fun e => c49 (by rw [e]; rfl)), Bool.and_false]
              have z1 : seatQ T (rs.getD 1 99) x = false := by
                rw [e1]
                unfold seatQ
                rw [show (T x s1 == 2) = false from beq_eq_false_iff_ne.mpr (fun e => c78 (by rw [e]; rfl)), Bool.and_false]
              exact h1 (by unfold okS; rw [decide_eq_true hod, z0, z1]; rfl)
        · refine z_iconst (n := 53) (v := 0) C dX10_mayBe_52 rfl rfl ?_
          refine z_zret C E dX10_mayBe_53 (by decide) ?_
          have hT : T x s0 = 2 := nI_inj (b := 2) c49 (by omega) (by decide)
          exact h0 (fun q => by unfold okS at q; rw [hod, e0, show seatQ T s0 x = true by unfold seatQ; rw [hT, decide_eq_true hs0]; rfl] at q; simp at q)
  · have hev : rs.length % 2 = 0 := nI_inj (b := 0) c3 (by omega) (by decide)
    refine z_aload_n (n := 7) C 0 dX10_mayBe_6 rfl rfl ?_
    refine z_getR (n := 10) (q := 98) C K fF_RX10_46 dX10_mayBe_7 rfl rfl sh_85 (by decide) rfl ?_
    refine z_iload_n (n := 11) C 2 dX10_mayBe_10 rfl rfl ?_
    refine z_ialdN (n := 12) C K x dX10_mayBe_11 rfl sh_98 (by decide) rfl (by omega) (by decide) ?_
    rw [(hk.2.1 x hx).2.2.1]
    refine z_iload_n (n := 13) C 3 dX10_mayBe_12 rfl rfl ?_
    have hagx := (okk.2.1 x hx).2.2.2.1
    refine z_icmp_ge (tgt := 18) (n := 16) C dX10_mayBe_13 rfl rfl (fun c13 => ?_) (fun c13 => ?_)
    · rw [fa_le, nI_toInt (by omega), nI_toInt (by omega)] at c13
      have hage : r ≤ ag x := by omega
      refine z_iload_n (n := 19) C 1 dX10_mayBe_18 rfl rfl ?_
      refine z_iconst (n := 20) (v := 2) C dX10_mayBe_19 rfl rfl ?_
      refine z_irem (n := 21) C dX10_mayBe_20 rfl (by decide) ?_
      rw [show (2 : Int32) = nI 2 from rfl, pk_rem (by omega) (by decide) (by decide)]
      refine z_iconst (n := 22) (v := 1) C dX10_mayBe_21 rfl rfl ?_
      refine z_icmp_ne (tgt := 54) (n := 25) C dX10_mayBe_22 rfl rfl (fun c22 => ?_) (fun c22 => ?_)
      · refine z_iload_n (n := 55) C 1 dX10_mayBe_54 rfl rfl ?_
        refine z_iconst (n := 56) (v := 2) C dX10_mayBe_55 rfl rfl ?_
        refine z_icmp_lt (tgt := 81) (n := 59) C dX10_mayBe_56 rfl rfl (fun c56 => ?_) (fun c56 => ?_)
        · refine z_iconst (n := 82) (v := 1) C dX10_mayBe_81 rfl rfl ?_
          refine z_goto (n := 86) C dX10_mayBe_82 rfl ?_
          refine z_zret C E dX10_mayBe_86 (by decide) ?_
          rw [fa_lt, nI_toInt (by omega)] at c56
          simp only [Int32.reduceToInt] at c56
          have z1 : seatQ T (rs.getD 1 99) x = false := by rw [getD_end (show rs.length ≤ 1 by omega)]; rfl
          exact h1 (by unfold okS; rw [decide_eq_true hage, z1, decide_eq_false (show ¬ rs.length % 2 = 1 by omega)]; rfl)
        · rw [fa_lt, nI_toInt (by omega)] at c56
          simp only [Int32.reduceToInt] at c56
          have hs1 : rs.getD 1 99 ≠ 99 := fun e => by have := (hrs.h1 (by omega)).mp e; omega
          obtain ⟨s1, e1⟩ : ∃ s1, rs.getD 1 99 = s1 := ⟨_, rfl⟩
          have hz1 := hgi 1
          have hrow1 := hr.h1 (by omega)
          rw [e1] at hs1 hz1 hrow1
          have hs1c := hcb s1 (hz1.resolve_left hs1)
          rw [show seatI s1 = nI s1 from if_neg hs1] at hrow1
          have hT4 := (okk.2.2 x s1 hx hs1c).1
          refine z_aload_n (n := 60) C 0 dX10_mayBe_59 rfl rfl ?_
          refine z_getR (n := 63) (q := 100) C K fF_RX10_52 dX10_mayBe_60 rfl rfl sh_85 (by decide) rfl ?_
          refine z_bipush (n := 65) (v := 10) C dX10_mayBe_63 rfl rfl ?_
          refine z_iload_n (n := 66) C 2 dX10_mayBe_65 rfl rfl ?_
          rw [show (10 : Int32) = nI 10 from rfl]
          refine z_imul (n := 67) C dX10_mayBe_66 rfl ?_
          rw [mul_nI]
          refine z_aload_n (n := 68) C 0 dX10_mayBe_67 rfl rfl ?_
          refine z_getR (n := 71) (q := 105) C K fF_RX10_72 dX10_mayBe_68 rfl rfl sh_85 (by decide) rfl ?_
          refine z_iload_n (n := 72) C 1 dX10_mayBe_71 rfl rfl ?_
          refine z_iconst (n := 73) (v := 2) C dX10_mayBe_72 rfl rfl ?_
          refine z_isub (n := 74) C dX10_mayBe_73 rfl ?_
          rw [show nI rs.length - 2 = nI (rs.length - 2) from nI_sub (b := 2) (by omega) (by omega)]
          refine z_ialdN (n := 75) C K (rs.length - 2) dX10_mayBe_74 rfl sh_105 (by decide) rfl (by omega) (by decide) ?_
          rw [hrow1]
          refine z_iadd (n := 76) C dX10_mayBe_75 rfl ?_
          rw [nI_add]
          refine z_ialdN (n := 77) C K (10 * x + s1) dX10_mayBe_76 rfl sh_100 (by decide) rfl (by omega) (by decide) ?_
          rw [hk.2.2 x s1 hx hs1c]
          refine z_iconst (n := 78) (v := 2) C dX10_mayBe_77 rfl rfl ?_
          refine z_icmp_eq (tgt := 85) (n := 81) C dX10_mayBe_78 rfl rfl (fun c78 => ?_) (fun c78 => ?_)
          · refine z_iconst (n := 86) (v := 0) C dX10_mayBe_85 rfl rfl ?_
            refine z_zret C E dX10_mayBe_86 (by decide) ?_
            have hT : T x s1 = 2 := nI_inj (b := 2) c78 (by omega) (by decide)
            exact h0 (fun q => by unfold okS at q; rw [e1, show seatQ T s1 x = true by unfold seatQ; rw [hT, decide_eq_true hs1]; rfl] at q; simp at q)
          · refine z_iconst (n := 82) (v := 1) C dX10_mayBe_81 rfl rfl ?_
            refine z_goto (n := 86) C dX10_mayBe_82 rfl ?_
            refine z_zret C E dX10_mayBe_86 (by decide) ?_
            have z1 : seatQ T (rs.getD 1 99) x = false := by
              rw [e1]
              unfold seatQ
              rw [show (T x s1 == 2) = false from beq_eq_false_iff_ne.mpr (fun e => c78 (by rw [e]; rfl)), Bool.and_false]
            exact h1 (by unfold okS; rw [decide_eq_true hage, z1, decide_eq_false (show ¬ rs.length % 2 = 1 by omega)]; rfl)
      · exact absurd (hev.symm.trans (nI_inj (b := 1) c22 (by omega) (by decide))) (by decide)
    · refine z_iconst (n := 17) (v := 0) C dX10_mayBe_16 rfl rfl ?_
      refine z_zret C E dX10_mayBe_17 (by decide) ?_
      rw [fa_le, nI_toInt (by omega), nI_toInt (by omega)] at c13
      exact h0 (fun q => by unfold okS at q; rw [hev, decide_eq_false (show ¬ r ≤ ag x by omega)] at q; cases q)
set_option maxHeartbeats 4000000 in
set_option maxRecDepth 100000 in
theorem l_X10_friendRows {X : KX} {t : Nat} (C : Cx X RX10 cX10_friendRows 1) (K : Kx X) (hnL : xnL X = 4) {J : KJ} {Q : Int32 → KI → KJ → KR → Prop} (E : Ei X .int Q) {I : KI} {n c : Nat} {ki co ag re : Nat → Nat} {T : Nat → Nat → Nat} (hk : mKd I c ki co ag re T) (okk : okKd n c ki co ag re T) {set emp : Nat} {rs : List Nat} {L : Nat} (hset : set < 2 ^ c) (hr : rowA I 105 rs) (hrs : rsOk set emp rs) (hL : rs.length = L) (hl8 : L ≤ 8) (hemp : emp = 98 ∨ emp + 2 = L) (hLe : L % 2 = 0) (hQ : Q (nI (rowS T rs)) I J (rf t)) : ∀ (f at1 : Nat), L + 2 - at1 < f → (at1 % 2 = 1 ∧ at1 ≤ L + 1) → Z X 0 0 (V X I J (rf t)) 4 [(3, .int (nI at1)), (2, .int (nI (rowS T (rs.drop (L - at1))))), (0, .ref (xad X 85)), (1, .int (nI L))] [] := by
  intro f
  induction f with
  | zero => intro at1 h; omega
  | succ f ih =>
    intro at1 hf hi
    obtain ⟨ha1, ha2⟩ := hi
    have h1024 : 2 ^ c ≤ 2 ^ 10 := Nat.pow_le_pow_right (by decide) okk.1
    have hc10 := okk.1
    have hs1024 : set < 1024 := by omega
    have hcb : ∀ y, set.testBit y = true → y < c := fun y hy => by
      by_cases e : y < c
      · exact e
      · rw [Nat.testBit_lt_two_pow (Nat.lt_of_lt_of_le hset (Nat.pow_le_pow_right (by decide) (by omega)))] at hy; cases hy
    have hgi := getD_in hrs.1
    have hgs : ∀ i s, rs.getD i 99 = s → s = 99 ∨ s < 10 := fun i s e => by subst e; exact (hgi i).imp id (fun q => bit_lt10 hs1024 q)
    refine z_iload_n (n := 5) C 0 dX10_friendRows_4 rfl rfl ?_
    refine z_iload_n (n := 6) C 3 dX10_friendRows_5 rfl rfl ?_
    refine z_icmp_ge (tgt := 63) (n := 9) C dX10_friendRows_6 rfl rfl (fun c6 => ?_) (fun c6 => ?_)
    · refine z_iload_n (n := 64) C 1 dX10_friendRows_63 rfl rfl ?_
      refine z_iret C E dX10_friendRows_64 ?_
      rw [fa_le, nI_toInt (by omega), nI_toInt (by omega)] at c6
      have e : L - at1 = 0 := by omega
      rw [e, List.drop_zero]
      exact hQ
    · rw [fa_le, nI_toInt (by omega), nI_toInt (by omega)] at c6
      obtain ⟨sp, es⟩ : ∃ sp, rs.getD (L - at1) 99 = sp := ⟨_, rfl⟩
      obtain ⟨sx, ex⟩ : ∃ sx, rs.getD (L - at1 - 1) 99 = sx := ⟨_, rfl⟩
      have hrp : I 105 (at1 - 1) = seatI sp := by rw [hr (at1 - 1) (by omega), show rs.length - 1 - (at1 - 1) = L - at1 by omega, es]
      have hrx : I 105 at1 = seatI sx := by rw [hr at1 (by omega), show rs.length - 1 - at1 = L - at1 - 1 by omega, ex]
      have hd2 : rs.drop (L - at1 - 1) = sx :: rs.drop (L - at1) := by rw [drop_rev (show L - at1 - 1 < rs.length by omega), ex, show L - at1 - 1 + 1 = L - at1 by omega]
      have hsx : sx ≠ 99 := fun e => by
        have := (hrs.2 at1 (by omega)).mp (by rw [show rs.length - 1 - at1 = L - at1 - 1 by omega, ex, e])
        omega
      have hsxb := (by have := hgi (L - at1 - 1); rw [ex] at this; exact this.resolve_left hsx : set.testBit sx = true)
      have hsxc := hcb sx hsxb
      rw [show seatI sx = nI sx from if_neg hsx] at hrx
      refine z_iload_n (n := 10) C 1 dX10_friendRows_9 rfl rfl ?_
      refine z_aload_n (n := 11) C 2 dX10_friendRows_10 rfl rfl ?_
      refine z_getR (n := 14) (q := 105) C K fF_RX10_72 dX10_friendRows_11 rfl rfl sh_85 (by decide) rfl ?_
      refine z_iload_n (n := 15) C 0 dX10_friendRows_14 rfl rfl ?_
      refine z_iconst (n := 16) (v := 1) C dX10_friendRows_15 rfl rfl ?_
      refine z_isub (n := 17) C dX10_friendRows_16 rfl ?_
      rw [nI_s1 _ (by omega)]
      refine z_ialdN (n := 18) C K (at1 - 1) dX10_friendRows_17 rfl sh_105 (by decide) rfl (by omega) (by decide) ?_
      rw [hrp]
      refine z_bipush (n := 20) (v := (-9)) C dX10_friendRows_18 rfl rfl ?_
      refine z_icmp_eq (tgt := 54) (n := 23) C dX10_friendRows_20 rfl rfl (fun c20 => ?_) (fun c20 => ?_)
      · refine z_iconst (n := 55) (v := 0) C dX10_friendRows_54 rfl rfl ?_
        refine z_iadd (n := 56) C dX10_friendRows_55 rfl ?_
        refine z_istore_n (n := 57) (L' := [(2, _), (3, _), (0, _), (1, _)]) C dX10_friendRows_56 rfl (by rw [hnL]; decide) rfl ?_
        refine z_iincG (n := 60) (c := 2) (L' := [(3, _), (2, _), (0, _), (1, _)]) C 1 dX10_friendRows_57 rfl rfl rfl (by rw [hnL]; decide) rfl ?_
        refine z_goto (n := 4) C dX10_friendRows_60 rfl ?_
        have hrow : rowS T (sx :: rs.drop (L - at1)) = rowS T (rs.drop (L - at1)) := by rw [rowS, if_neg (fun q => by have q2 := q.2; rw [drop_get0, es, (seatI_eq (hgs (L - at1) sp es)).mp c20] at q2; cases q2)]; rfl
        rw [show nI (rowS T (rs.drop (L - at1))) + 0 = nI (rowS T (sx :: rs.drop (L - at1))) by rw [hrow]; exact Int32.add_zero _]
        rw [show nI at1 + 2 = nI (at1 + 2) from nI_add at1 2]
        refine Eq.mp (congrArg (fun z => Z X 0 0 (V X I J (rf t)) 4 [(3, .int (nI (at1 + 2))), (2, .int (nI z)), (0, .ref (xad X 85)), (1, .int (nI L))] []) ?_) (ih (at1 + 2) (by omega) ⟨by omega, by omega⟩)
        by_cases e : at1 + 2 ≤ L
        · have hd3 : rs.drop (L - (at1 + 2)) = rs.getD (L - (at1 + 2)) 99 :: rs.drop (L - at1 - 1) := by rw [drop_rev (show L - (at1 + 2) < rs.length by omega), show L - (at1 + 2) + 1 = L - at1 - 1 by omega]
          rw [hd3, hd2]
          exact rowS_even _ (by rw [List.length_cons, List.length_drop]; omega)
        · rw [show L - (at1 + 2) = L - at1 - 1 by omega, hd2]
      · have hsp : sp ≠ 99 := fun e => c20 (by rw [e]; rfl)
        have hspb := (by have := hgi (L - at1); rw [es] at this; exact this.resolve_left hsp : set.testBit sp = true)
        have hspc := hcb sp hspb
        have hT3 := (okk.2.2 sx sp hsxc hspc).1
        refine z_aload_n (n := 24) C 2 dX10_friendRows_23 rfl rfl ?_
        refine z_getR (n := 27) (q := 100) C K fF_RX10_52 dX10_friendRows_24 rfl rfl sh_85 (by decide) rfl ?_
        refine z_bipush (n := 29) (v := 10) C dX10_friendRows_27 rfl rfl ?_
        refine z_aload_n (n := 30) C 2 dX10_friendRows_29 rfl rfl ?_
        refine z_getR (n := 33) (q := 105) C K fF_RX10_72 dX10_friendRows_30 rfl rfl sh_85 (by decide) rfl ?_
        refine z_iload_n (n := 34) C 0 dX10_friendRows_33 rfl rfl ?_
        refine z_ialdN (n := 35) C K at1 dX10_friendRows_34 rfl sh_105 (by decide) rfl (by omega) (by decide) ?_
        rw [hrx, show (10 : Int32) = nI 10 from rfl]
        refine z_imul (n := 36) C dX10_friendRows_35 rfl ?_
        rw [mul_nI]
        refine z_aload_n (n := 37) C 2 dX10_friendRows_36 rfl rfl ?_
        refine z_getR (n := 40) (q := 105) C K fF_RX10_72 dX10_friendRows_37 rfl rfl sh_85 (by decide) rfl ?_
        refine z_iload_n (n := 41) C 0 dX10_friendRows_40 rfl rfl ?_
        refine z_iconst (n := 42) (v := 1) C dX10_friendRows_41 rfl rfl ?_
        refine z_isub (n := 43) C dX10_friendRows_42 rfl ?_
        rw [nI_s1 _ (by omega)]
        refine z_ialdN (n := 44) C K (at1 - 1) dX10_friendRows_43 rfl sh_105 (by decide) rfl (by omega) (by decide) ?_
        rw [hrp, show seatI sp = nI sp from if_neg hsp]
        refine z_iadd (n := 45) C dX10_friendRows_44 rfl ?_
        rw [nI_add]
        refine z_ialdN (n := 46) C K (10 * sx + sp) dX10_friendRows_45 rfl sh_100 (by decide) rfl (by omega) (by decide) ?_
        rw [hk.2.2 sx sp hsxc hspc]
        refine z_iconst (n := 47) (v := 1) C dX10_friendRows_46 rfl rfl ?_
        refine z_icmp_ne (tgt := 54) (n := 50) C dX10_friendRows_47 rfl rfl (fun c47 => ?_) (fun c47 => ?_)
        · refine z_iconst (n := 55) (v := 0) C dX10_friendRows_54 rfl rfl ?_
          refine z_iadd (n := 56) C dX10_friendRows_55 rfl ?_
          refine z_istore_n (n := 57) (L' := [(2, _), (3, _), (0, _), (1, _)]) C dX10_friendRows_56 rfl (by rw [hnL]; decide) rfl ?_
          refine z_iincG (n := 60) (c := 2) (L' := [(3, _), (2, _), (0, _), (1, _)]) C 1 dX10_friendRows_57 rfl rfl rfl (by rw [hnL]; decide) rfl ?_
          refine z_goto (n := 4) C dX10_friendRows_60 rfl ?_
          have hrow : rowS T (sx :: rs.drop (L - at1)) = rowS T (rs.drop (L - at1)) := by rw [rowS, if_neg (fun q => by have q2 := q.2; rw [drop_get0, es] at q2; unfold frS at q2; rw [Bool.and_eq_true, beq_iff_eq] at q2; exact c47 (by rw [q2.2]; rfl))]; rfl
          rw [show nI (rowS T (rs.drop (L - at1))) + 0 = nI (rowS T (sx :: rs.drop (L - at1))) by rw [hrow]; exact Int32.add_zero _]
          rw [show nI at1 + 2 = nI (at1 + 2) from nI_add at1 2]
          refine Eq.mp (congrArg (fun z => Z X 0 0 (V X I J (rf t)) 4 [(3, .int (nI (at1 + 2))), (2, .int (nI z)), (0, .ref (xad X 85)), (1, .int (nI L))] []) ?_) (ih (at1 + 2) (by omega) ⟨by omega, by omega⟩)
          by_cases e : at1 + 2 ≤ L
          · have hd3 : rs.drop (L - (at1 + 2)) = rs.getD (L - (at1 + 2)) 99 :: rs.drop (L - at1 - 1) := by rw [drop_rev (show L - (at1 + 2) < rs.length by omega), show L - (at1 + 2) + 1 = L - at1 - 1 by omega]
            rw [hd3, hd2]
            exact rowS_even _ (by rw [List.length_cons, List.length_drop]; omega)
          · rw [show L - (at1 + 2) = L - at1 - 1 by omega, hd2]
        · refine z_iconst (n := 51) (v := 1) C dX10_friendRows_50 rfl rfl ?_
          refine z_goto (n := 55) C dX10_friendRows_51 rfl ?_
          refine z_iadd (n := 56) C dX10_friendRows_55 rfl ?_
          refine z_istore_n (n := 57) (L' := [(2, _), (3, _), (0, _), (1, _)]) C dX10_friendRows_56 rfl (by rw [hnL]; decide) rfl ?_
          refine z_iincG (n := 60) (c := 2) (L' := [(3, _), (2, _), (0, _), (1, _)]) C 1 dX10_friendRows_57 rfl rfl rfl (by rw [hnL]; decide) rfl ?_
          refine z_goto (n := 4) C dX10_friendRows_60 rfl ?_
          have hrow : rowS T (sx :: rs.drop (L - at1)) = rowS T (rs.drop (L - at1)) + 1 := by rw [rowS, if_pos ⟨by rw [List.length_drop]; omega, by rw [drop_get0, es]; unfold frS; rw [decide_eq_true hsp, nI_inj (b := 1) c47 (by omega) (by decide)]; rfl⟩]
          rw [nI_1, ← hrow]
          rw [show nI at1 + 2 = nI (at1 + 2) from nI_add at1 2]
          refine Eq.mp (congrArg (fun z => Z X 0 0 (V X I J (rf t)) 4 [(3, .int (nI (at1 + 2))), (2, .int (nI z)), (0, .ref (xad X 85)), (1, .int (nI L))] []) ?_) (ih (at1 + 2) (by omega) ⟨by omega, by omega⟩)
          by_cases e : at1 + 2 ≤ L
          · have hd3 : rs.drop (L - (at1 + 2)) = rs.getD (L - (at1 + 2)) 99 :: rs.drop (L - at1 - 1) := by rw [drop_rev (show L - (at1 + 2) < rs.length by omega), show L - (at1 + 2) + 1 = L - at1 - 1 by omega]
            rw [hd3, hd2]
            exact rowS_even _ (by rw [List.length_cons, List.length_drop]; omega)
          · rw [show L - (at1 + 2) = L - at1 - 1 by omega, hd2]
set_option maxHeartbeats 4000000 in
set_option maxRecDepth 100000 in
theorem c_X10_friendRows {ad : Nat → Nat} {I : KI} {J : KJ} {t : Nat} {n c : Nat} {ki co ag re : Nat → Nat} {T : Nat → Nat → Nat} (hk : mKd I c ki co ag re T) (okk : okKd n c ki co ag re T) {set emp : Nat} {rs : List Nat} {L : Nat} (hset : set < 2 ^ c) (hr : rowA I 105 rs) (hrs : rsOk set emp rs) (hL : rs.length = L) (hl8 : L ≤ 8) (hemp : emp = 98 ∨ emp + 2 = L) (hLe : L % 2 = 0) (hL2 : 2 ≤ L) {Q : Int32 → KI → KJ → KR → Prop} (hQ : Q (nI (rowS T rs)) I J (rf t)) : Mi 1 yX10_friendRows (wm yX10_friendRows cX10_friendRows 4 (some .int)) [.ref (ad 85), .int (nI L)] ad I J (rf t) Q := by
  refine mi_of (own := RX10) yk_X10_friendRows rfl (Nat.le_of_ble_eq_true rfl) rfl (fun X hA hnL C K E => ?_)
  subst hA
  refine z_iconst (n := 1) (v := 0) C dX10_friendRows_0 rfl rfl ?_
  refine z_istore_n (n := 2) (L' := [(2, _), (0, _), (1, _)]) C dX10_friendRows_1 rfl (by rw [hnL]; decide) rfl ?_
  refine z_iconst (n := 3) (v := 1) C dX10_friendRows_2 rfl rfl ?_
  refine z_istore_n (n := 4) (L' := [(3, _), (2, _), (0, _), (1, _)]) C dX10_friendRows_3 rfl (by rw [hnL]; decide) rfl ?_
  have h1 := l_X10_friendRows C K hnL E hk okk hset hr hrs hL hl8 hemp hLe hQ (L + 2) 1 (by omega) ⟨rfl, by omega⟩
  have e1 : rowS T (rs.drop (L - 1)) = 0 := by
    rw [drop_rev (show L - 1 < rs.length by omega), show L - 1 + 1 = L by omega, List.drop_eq_nil_of_le (by omega)]; rfl
  rw [e1] at h1
  exact h1
