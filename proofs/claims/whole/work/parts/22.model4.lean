theorem so_n9 {th : Bool} {s : Nat} (hs : s < 3) : ((if th then nI s else -9 : Int32) = -9) ↔ th = false := by
  cases th with
  | false => exact ⟨fun _ => rfl, fun _ => rfl⟩
  | true =>
    have e : s = 0 ∨ s = 1 ∨ s = 2 := by omega
    rcases e with rfl | rfl | rfl <;> decide
theorem so_eq {th : Bool} {s : Nat} {w : Int32} (h : th = true) : ((if th then nI s else -9 : Int32) = w) ↔ nI s = w := by rw [h]; exact Iff.rfl
set_option maxHeartbeats 4000000 in
set_option maxRecDepth 100000 in
theorem c_X10_against {ad : Nat → Nat} {I : KI} {J : KJ} {t : Nat} {k c so : Nat} {th : Bool} (hk : k < 4) (h0 : I 86 k = (if th then nI so else -9)) (hso : so < 3) (hc : c ≤ 100) (hI : I 87 k = nI c) {w i n : Int32} {Q : Int32 → KI → KJ → KR → Prop} (hQ : Q (nI (rfS th so c w i n)) I J (rf t)) : Mi 1 yX10_against (wm yX10_against cX10_against 5 (some .int)) [.ref (ad 85), .int (nI k), .int (w), .int (i), .int (n)] ad I J (rf t) Q := by
  refine mi_of (own := RX10) yk_X10_against rfl (Nat.le_of_ble_eq_true rfl) rfl (fun X hA hnL C K E => ?_)
  subst hA
  refine z_aload_n (n := 1) C 0 dX10_against_0 rfl rfl ?_
  refine z_getR (n := 4) (q := 86) C K fF_RX10_9 dX10_against_1 rfl rfl sh_85 (by decide) rfl ?_
  refine z_iload_n (n := 5) C 1 dX10_against_4 rfl rfl ?_
  refine z_ialdN (n := 6) C K k dX10_against_5 rfl sh_86 (by decide) rfl hk (by decide) ?_
  refine z_bipush (n := 8) (v := (-9)) C dX10_against_6 rfl rfl ?_
  refine z_icmp_eq (tgt := 23) (n := 11) C dX10_against_8 rfl rfl (fun c8 => ?_) (fun c8 => ?_)
  · refine z_aload_n (n := 24) C 0 dX10_against_23 rfl rfl ?_
    refine z_getR (n := 27) (q := 86) C K fF_RX10_9 dX10_against_24 rfl rfl sh_85 (by decide) rfl ?_
    refine z_iload_n (n := 28) C 1 dX10_against_27 rfl rfl ?_
    refine z_ialdN (n := 29) C K k dX10_against_28 rfl sh_86 (by decide) rfl hk (by decide) ?_
    refine z_bipush (n := 31) (v := (-9)) C dX10_against_29 rfl rfl ?_
    refine z_icmp_ne (tgt := 36) (n := 34) C dX10_against_31 rfl rfl (fun c31 => ?_) (fun c31 => ?_)
    · refine z_iload (n := 38) C 4 dX10_against_36 rfl rfl ?_
      refine z_if_ge (tgt := 43) (n := 41) C dX10_against_38 rfl rfl (fun c38 => ?_) (fun c38 => ?_)
      · refine z_iload_n (n := 44) C 3 dX10_against_43 rfl rfl ?_
        refine z_if_lt (tgt := 70) (n := 47) C dX10_against_44 rfl rfl (fun c44 => ?_) (fun c44 => ?_)
        · refine z_iconst (n := 71) (v := 3) C dX10_against_70 rfl rfl ?_
          refine z_goto (n := 75) C dX10_against_71 rfl ?_
          refine z_iret C E dX10_against_75 ?_
          refine eqQ (show _ = nI (rfS th so c w i n) from ?_) hQ
          rw [h0] at c8 c31
          have hr := fb_rng i
          have hr2 := fb_rng n
          simp only [so_n9 hso] at c8 c31
          simp only [fa_lt, fa_le, Int32.reduceToInt] at c38
          simp only [fa_lt, fa_le, Int32.reduceToInt] at c44
          unfold rfS
          cases th with
          | false => first | rfl | (exfalso; simp_all; done)
          | true =>
            rw [if_neg (by decide)]
            simp only [so_eq] at *
            first
            | (exfalso; simp_all; done)
            | (rw [if_pos (by assumption)]; rfl)
            | (rw [if_neg (by intro q; exact q (by assumption))]
               repeat' split
               all_goals first | rfl | (exfalso; omega))
        · refine z_iload_n (n := 48) C 3 dX10_against_47 rfl rfl ?_
          refine z_aload_n (n := 49) C 0 dX10_against_48 rfl rfl ?_
          refine z_getR (n := 52) (q := 87) C K fF_RX10_13 dX10_against_49 rfl rfl sh_85 (by decide) rfl ?_
          refine z_iload_n (n := 53) C 1 dX10_against_52 rfl rfl ?_
          refine z_ialdN (n := 54) C K k dX10_against_53 rfl sh_87 (by decide) rfl hk (by decide) ?_
          refine z_icmp_gt (tgt := 70) (n := 57) C dX10_against_54 rfl rfl (fun c54 => ?_) (fun c54 => ?_)
          · refine z_iconst (n := 71) (v := 3) C dX10_against_70 rfl rfl ?_
            refine z_goto (n := 75) C dX10_against_71 rfl ?_
            refine z_iret C E dX10_against_75 ?_
            refine eqQ (show _ = nI (rfS th so c w i n) from ?_) hQ
            rw [h0] at c8 c31
            have hr := fb_rng i
            have hr2 := fb_rng n
            simp only [so_n9 hso] at c8 c31
            simp only [fa_lt, fa_le, Int32.reduceToInt] at c38
            simp only [fa_lt, fa_le, Int32.reduceToInt] at c44
            rw [hI, fa_lt, nI_toInt (by omega)] at c54
            unfold rfS
            cases th with
            | false => first | rfl | (exfalso; simp_all; done)
            | true =>
              rw [if_neg (by decide)]
              simp only [so_eq] at *
              first
              | (exfalso; simp_all; done)
              | (rw [if_pos (by assumption)]; rfl)
              | (rw [if_neg (by intro q; exact q (by assumption))]
                 repeat' split
                 all_goals first | rfl | (exfalso; omega))
          · refine z_iload (n := 59) C 4 dX10_against_57 rfl rfl ?_
            refine z_aload_n (n := 60) C 0 dX10_against_59 rfl rfl ?_
            refine z_getR (n := 63) (q := 87) C K fF_RX10_13 dX10_against_60 rfl rfl sh_85 (by decide) rfl ?_
            refine z_iload_n (n := 64) C 1 dX10_against_63 rfl rfl ?_
            refine z_ialdN (n := 65) C K k dX10_against_64 rfl sh_87 (by decide) rfl hk (by decide) ?_
            refine z_iload_n (n := 66) C 3 dX10_against_65 rfl rfl ?_
            refine z_isub (n := 67) C dX10_against_66 rfl ?_
            refine z_icmp_le (tgt := 74) (n := 70) C dX10_against_67 rfl rfl (fun c67 => ?_) (fun c67 => ?_)
            · refine z_iconst (n := 75) (v := 0) C dX10_against_74 rfl rfl ?_
              refine z_iret C E dX10_against_75 ?_
              refine eqQ (show _ = nI (rfS th so c w i n) from ?_) hQ
              rw [h0] at c8 c31
              have hr := fb_rng i
              have hr2 := fb_rng n
              simp only [so_n9 hso] at c8 c31
              simp only [fa_lt, fa_le, Int32.reduceToInt] at c38
              simp only [fa_lt, fa_le, Int32.reduceToInt] at c44
              rw [hI, fa_lt, nI_toInt (by omega)] at c54
              have hsub : (nI c - i).toInt = c - i.toInt := by rw [fb_subI (by rw [nI_toInt (by omega)]; omega) (by rw [nI_toInt (by omega)]; omega), nI_toInt (by omega)]
              rw [hI, fa_le, hsub] at c67
              unfold rfS
              cases th with
              | false => first | rfl | (exfalso; simp_all; done)
              | true =>
                rw [if_neg (by decide)]
                simp only [so_eq] at *
                first
                | (exfalso; simp_all; done)
                | (rw [if_pos (by assumption)]; rfl)
                | (rw [if_neg (by intro q; exact q (by assumption))]
                   repeat' split
                   all_goals first | rfl | (exfalso; omega))
            · refine z_iconst (n := 71) (v := 3) C dX10_against_70 rfl rfl ?_
              refine z_goto (n := 75) C dX10_against_71 rfl ?_
              refine z_iret C E dX10_against_75 ?_
              refine eqQ (show _ = nI (rfS th so c w i n) from ?_) hQ
              rw [h0] at c8 c31
              have hr := fb_rng i
              have hr2 := fb_rng n
              simp only [so_n9 hso] at c8 c31
              simp only [fa_lt, fa_le, Int32.reduceToInt] at c38
              simp only [fa_lt, fa_le, Int32.reduceToInt] at c44
              rw [hI, fa_lt, nI_toInt (by omega)] at c54
              have hsub : (nI c - i).toInt = c - i.toInt := by rw [fb_subI (by rw [nI_toInt (by omega)]; omega) (by rw [nI_toInt (by omega)]; omega), nI_toInt (by omega)]
              rw [hI, fa_le, hsub] at c67
              unfold rfS
              cases th with
              | false => first | rfl | (exfalso; simp_all; done)
              | true =>
                rw [if_neg (by decide)]
                simp only [so_eq] at *
                first
                | (exfalso; simp_all; done)
                | (rw [if_pos (by assumption)]; rfl)
                | (rw [if_neg (by intro q; exact q (by assumption))]
                   repeat' split
                   all_goals first | rfl | (exfalso; omega))
      · refine z_iconst (n := 42) (v := 4) C dX10_against_41 rfl rfl ?_
        refine z_iret C E dX10_against_42 ?_
        refine eqQ (show _ = nI (rfS th so c w i n) from ?_) hQ
        rw [h0] at c8 c31
        have hr := fb_rng i
        have hr2 := fb_rng n
        simp only [so_n9 hso] at c8 c31
        simp only [fa_lt, fa_le, Int32.reduceToInt] at c38
        unfold rfS
        cases th with
        | false => first | rfl | (exfalso; simp_all; done)
        | true =>
          rw [if_neg (by decide)]
          simp only [so_eq] at *
          first
          | (exfalso; simp_all; done)
          | (rw [if_pos (by assumption)]; rfl)
          | (rw [if_neg (by intro q; exact q (by assumption))]
             repeat' split
             all_goals first | rfl | (exfalso; omega))
    · refine z_iconst (n := 35) (v := 1) C dX10_against_34 rfl rfl ?_
      refine z_iret C E dX10_against_35 ?_
      refine eqQ (show _ = nI (rfS th so c w i n) from ?_) hQ
      rw [h0] at c8 c31
      have hr := fb_rng i
      have hr2 := fb_rng n
      simp only [so_n9 hso] at c8 c31
      unfold rfS
      cases th with
      | false => first | rfl | (exfalso; simp_all; done)
      | true =>
        rw [if_neg (by decide)]
        simp only [so_eq] at *
        first
        | (exfalso; simp_all; done)
        | (rw [if_pos (by assumption)]; rfl)
        | (rw [if_neg (by intro q; exact q (by assumption))]
           repeat' split
           all_goals first | rfl | (exfalso; omega))
  · refine z_aload_n (n := 12) C 0 dX10_against_11 rfl rfl ?_
    refine z_getR (n := 15) (q := 86) C K fF_RX10_9 dX10_against_12 rfl rfl sh_85 (by decide) rfl ?_
    refine z_iload_n (n := 16) C 1 dX10_against_15 rfl rfl ?_
    refine z_ialdN (n := 17) C K k dX10_against_16 rfl sh_86 (by decide) rfl hk (by decide) ?_
    refine z_iload_n (n := 18) C 2 dX10_against_17 rfl rfl ?_
    refine z_icmp_eq (tgt := 23) (n := 21) C dX10_against_18 rfl rfl (fun c18 => ?_) (fun c18 => ?_)
    · refine z_aload_n (n := 24) C 0 dX10_against_23 rfl rfl ?_
      refine z_getR (n := 27) (q := 86) C K fF_RX10_9 dX10_against_24 rfl rfl sh_85 (by decide) rfl ?_
      refine z_iload_n (n := 28) C 1 dX10_against_27 rfl rfl ?_
      refine z_ialdN (n := 29) C K k dX10_against_28 rfl sh_86 (by decide) rfl hk (by decide) ?_
      refine z_bipush (n := 31) (v := (-9)) C dX10_against_29 rfl rfl ?_
      refine z_icmp_ne (tgt := 36) (n := 34) C dX10_against_31 rfl rfl (fun c31 => ?_) (fun c31 => ?_)
      · refine z_iload (n := 38) C 4 dX10_against_36 rfl rfl ?_
        refine z_if_ge (tgt := 43) (n := 41) C dX10_against_38 rfl rfl (fun c38 => ?_) (fun c38 => ?_)
        · refine z_iload_n (n := 44) C 3 dX10_against_43 rfl rfl ?_
          refine z_if_lt (tgt := 70) (n := 47) C dX10_against_44 rfl rfl (fun c44 => ?_) (fun c44 => ?_)
          · refine z_iconst (n := 71) (v := 3) C dX10_against_70 rfl rfl ?_
            refine z_goto (n := 75) C dX10_against_71 rfl ?_
            refine z_iret C E dX10_against_75 ?_
            refine eqQ (show _ = nI (rfS th so c w i n) from ?_) hQ
            rw [h0] at c8 c18 c31
            have hr := fb_rng i
            have hr2 := fb_rng n
            simp only [so_n9 hso] at c8 c31
            simp only [fa_lt, fa_le, Int32.reduceToInt] at c38
            simp only [fa_lt, fa_le, Int32.reduceToInt] at c44
            unfold rfS
            cases th with
            | false => first | rfl | (exfalso; simp_all; done)
            | true =>
              rw [if_neg (by decide)]
              simp only [so_eq] at *
              first
              | (exfalso; simp_all; done)
              | (rw [if_pos (by assumption)]; rfl)
              | (rw [if_neg (by intro q; exact q (by assumption))]
                 repeat' split
                 all_goals first | rfl | (exfalso; omega))
          · refine z_iload_n (n := 48) C 3 dX10_against_47 rfl rfl ?_
            refine z_aload_n (n := 49) C 0 dX10_against_48 rfl rfl ?_
            refine z_getR (n := 52) (q := 87) C K fF_RX10_13 dX10_against_49 rfl rfl sh_85 (by decide) rfl ?_
            refine z_iload_n (n := 53) C 1 dX10_against_52 rfl rfl ?_
            refine z_ialdN (n := 54) C K k dX10_against_53 rfl sh_87 (by decide) rfl hk (by decide) ?_
            refine z_icmp_gt (tgt := 70) (n := 57) C dX10_against_54 rfl rfl (fun c54 => ?_) (fun c54 => ?_)
            · refine z_iconst (n := 71) (v := 3) C dX10_against_70 rfl rfl ?_
              refine z_goto (n := 75) C dX10_against_71 rfl ?_
              refine z_iret C E dX10_against_75 ?_
              refine eqQ (show _ = nI (rfS th so c w i n) from ?_) hQ
              rw [h0] at c8 c18 c31
              have hr := fb_rng i
              have hr2 := fb_rng n
              simp only [so_n9 hso] at c8 c31
              simp only [fa_lt, fa_le, Int32.reduceToInt] at c38
              simp only [fa_lt, fa_le, Int32.reduceToInt] at c44
              rw [hI, fa_lt, nI_toInt (by omega)] at c54
              unfold rfS
              cases th with
              | false => first | rfl | (exfalso; simp_all; done)
              | true =>
                rw [if_neg (by decide)]
                simp only [so_eq] at *
                first
                | (exfalso; simp_all; done)
                | (rw [if_pos (by assumption)]; rfl)
                | (rw [if_neg (by intro q; exact q (by assumption))]
                   repeat' split
                   all_goals first | rfl | (exfalso; omega))
            · refine z_iload (n := 59) C 4 dX10_against_57 rfl rfl ?_
              refine z_aload_n (n := 60) C 0 dX10_against_59 rfl rfl ?_
              refine z_getR (n := 63) (q := 87) C K fF_RX10_13 dX10_against_60 rfl rfl sh_85 (by decide) rfl ?_
              refine z_iload_n (n := 64) C 1 dX10_against_63 rfl rfl ?_
              refine z_ialdN (n := 65) C K k dX10_against_64 rfl sh_87 (by decide) rfl hk (by decide) ?_
              refine z_iload_n (n := 66) C 3 dX10_against_65 rfl rfl ?_
              refine z_isub (n := 67) C dX10_against_66 rfl ?_
              refine z_icmp_le (tgt := 74) (n := 70) C dX10_against_67 rfl rfl (fun c67 => ?_) (fun c67 => ?_)
              · refine z_iconst (n := 75) (v := 0) C dX10_against_74 rfl rfl ?_
                refine z_iret C E dX10_against_75 ?_
                refine eqQ (show _ = nI (rfS th so c w i n) from ?_) hQ
                rw [h0] at c8 c18 c31
                have hr := fb_rng i
                have hr2 := fb_rng n
                simp only [so_n9 hso] at c8 c31
                simp only [fa_lt, fa_le, Int32.reduceToInt] at c38
                simp only [fa_lt, fa_le, Int32.reduceToInt] at c44
                rw [hI, fa_lt, nI_toInt (by omega)] at c54
                have hsub : (nI c - i).toInt = c - i.toInt := by rw [fb_subI (by rw [nI_toInt (by omega)]; omega) (by rw [nI_toInt (by omega)]; omega), nI_toInt (by omega)]
                rw [hI, fa_le, hsub] at c67
                unfold rfS
                cases th with
                | false => first | rfl | (exfalso; simp_all; done)
                | true =>
                  rw [if_neg (by decide)]
                  simp only [so_eq] at *
                  first
                  | (exfalso; simp_all; done)
                  | (rw [if_pos (by assumption)]; rfl)
                  | (rw [if_neg (by intro q; exact q (by assumption))]
                     repeat' split
                     all_goals first | rfl | (exfalso; omega))
              · refine z_iconst (n := 71) (v := 3) C dX10_against_70 rfl rfl ?_
                refine z_goto (n := 75) C dX10_against_71 rfl ?_
                refine z_iret C E dX10_against_75 ?_
                refine eqQ (show _ = nI (rfS th so c w i n) from ?_) hQ
                rw [h0] at c8 c18 c31
                have hr := fb_rng i
                have hr2 := fb_rng n
                simp only [so_n9 hso] at c8 c31
                simp only [fa_lt, fa_le, Int32.reduceToInt] at c38
                simp only [fa_lt, fa_le, Int32.reduceToInt] at c44
                rw [hI, fa_lt, nI_toInt (by omega)] at c54
                have hsub : (nI c - i).toInt = c - i.toInt := by rw [fb_subI (by rw [nI_toInt (by omega)]; omega) (by rw [nI_toInt (by omega)]; omega), nI_toInt (by omega)]
                rw [hI, fa_le, hsub] at c67
                unfold rfS
                cases th with
                | false => first | rfl | (exfalso; simp_all; done)
                | true =>
                  rw [if_neg (by decide)]
                  simp only [so_eq] at *
                  first
                  | (exfalso; simp_all; done)
                  | (rw [if_pos (by assumption)]; rfl)
                  | (rw [if_neg (by intro q; exact q (by assumption))]
                     repeat' split
                     all_goals first | rfl | (exfalso; omega))
        · refine z_iconst (n := 42) (v := 4) C dX10_against_41 rfl rfl ?_
          refine z_iret C E dX10_against_42 ?_
          refine eqQ (show _ = nI (rfS th so c w i n) from ?_) hQ
          rw [h0] at c8 c18 c31
          have hr := fb_rng i
          have hr2 := fb_rng n
          simp only [so_n9 hso] at c8 c31
          simp only [fa_lt, fa_le, Int32.reduceToInt] at c38
          unfold rfS
          cases th with
          | false => first | rfl | (exfalso; simp_all; done)
          | true =>
            rw [if_neg (by decide)]
            simp only [so_eq] at *
            first
            | (exfalso; simp_all; done)
            | (rw [if_pos (by assumption)]; rfl)
            | (rw [if_neg (by intro q; exact q (by assumption))]
               repeat' split
               all_goals first | rfl | (exfalso; omega))
      · refine z_iconst (n := 35) (v := 1) C dX10_against_34 rfl rfl ?_
        refine z_iret C E dX10_against_35 ?_
        refine eqQ (show _ = nI (rfS th so c w i n) from ?_) hQ
        rw [h0] at c8 c18 c31
        have hr := fb_rng i
        have hr2 := fb_rng n
        simp only [so_n9 hso] at c8 c31
        unfold rfS
        cases th with
        | false => first | rfl | (exfalso; simp_all; done)
        | true =>
          rw [if_neg (by decide)]
          simp only [so_eq] at *
          first
          | (exfalso; simp_all; done)
          | (rw [if_pos (by assumption)]; rfl)
          | (rw [if_neg (by intro q; exact q (by assumption))]
             repeat' split
             all_goals first | rfl | (exfalso; omega))
    · refine z_iconst (n := 22) (v := 2) C dX10_against_21 rfl rfl ?_
      refine z_iret C E dX10_against_22 ?_
      refine eqQ (show _ = nI (rfS th so c w i n) from ?_) hQ
      rw [h0] at c8 c18
      have hr := fb_rng i
      have hr2 := fb_rng n
      simp only [so_n9 hso] at c8
      unfold rfS
      cases th with
      | false => first | rfl | (exfalso; simp_all; done)
      | true =>
        rw [if_neg (by decide)]
        simp only [so_eq] at *
        first
        | (exfalso; simp_all; done)
        | (rw [if_pos (by assumption)]; rfl)
        | (rw [if_neg (by intro q; exact q (by assumption))]
           repeat' split
           all_goals first | rfl | (exfalso; omega))
