set_option maxHeartbeats 4000000 in
set_option maxRecDepth 100000 in
theorem c_X10_copy {ad : Nat → Nat} {I : KI} {J : KJ} {t : Nat} {th : Nat → Bool} {so ct : Nat → Nat} {ce : Nat → Nat → Int32} (hs : mSh I th so ct ce) (ok : okSh so ct){kv iv ov jv nv : Int32} {Q : Int32 → KI → KJ → KR → Prop} (hR : ∀ a f, copyR th so ct kv iv ov jv nv = some (a, f) → Q a (upI I 85 0 (nI f)) J (rf t)) (hS : copyR th so ct kv iv ov jv nv = none → ∀ k i o j n : Nat, kv = nI k → k < 4 → iv = nI i → ov = nI o → o < 4 → jv = nI j → nv = nI n → i + n ≤ ct k → j + n ≤ ct o → ∀ I', (∀ q, q ≠ 85 → ¬ (86 ≤ q ∧ q ≤ 88) → I' q = I q) → (∀ j, j ≠ 0 → I' 85 j = I 85 j) → I' 85 0 = nI 0 → mSh I' th so ct (ceCp ce k o i j n) → Q (nI n) I' J (rf t)) : Mi 3 yX10_copy (wm yX10_copy cX10_copy 10 (some .int)) [.ref (ad 85), .int (kv), .int (iv), .int (ov), .int (jv), .int (nv)] ad I J (rf t) Q := by
  refine mi_of (own := RX10) yk_X10_copy rfl (Nat.le_of_ble_eq_true rfl) rfl (fun X hA hnL C K E => ?_)
  subst hA
  refine z_aload_n (n := 1) C 0 dX10_copy_0 rfl rfl ?_
  refine z_iconst (n := 2) (v := 0) C dX10_copy_1 rfl rfl ?_
  refine z_putI (n := 5) C K fF_RX10_87 dX10_copy_2 rfl sh_85 (by decide) ?_
  refine z_iload_n (n := 6) C 1 dX10_copy_5 rfl rfl ?_
  refine z_si_1 (n := 9) (d' := 2) C K dX10_copy_6 rfl yk_X10_isSheet kT_yX10_isSheet kM_RX10_99 (by decide) hR0 rfl ?_
  refine c_X10_isSheet (fun b6 => ?_) (fun b6 => ?_)
  · refine z_ifF_eq (n := 12) (tgt := 19) C (by decide) dX10_copy_9 rfl rfl ?_
    refine z_iload_n (n := 13) C 3 dX10_copy_12 rfl rfl ?_
    refine z_si_1 (n := 16) (d' := 2) C K dX10_copy_13 rfl yk_X10_isSheet kT_yX10_isSheet kM_RX10_99 (by decide) hR0 rfl ?_
    refine c_X10_isSheet (fun b13 => ?_) (fun b13 => ?_)
    · refine z_ifT_ne (tgt := 21) C (by decide) dX10_copy_16 rfl ?_
      obtain ⟨k, hk3, rfl⟩ := isB_of (h := 3) b6
      obtain ⟨o, ho3, rfl⟩ := isB_of (h := 3) b13
      have hk : k < 4 := by omega
      have ho : o < 4 := by omega
      have hz := hs.fa (j := 0) (v := 0) k hk
      have hy := hs.fa (j := 0) (v := 0) o ho
      have hkc : (nI k).toNatClampNeg = k := nI_clamp (by omega)
      have hoc : (nI o).toNatClampNeg = o := nI_clamp (by omega)
      have hok := ok k hk
      have hok2 := ok o ho
      refine z_aload_n (n := 22) C 0 dX10_copy_21 rfl rfl ?_
      refine z_getR (n := 25) (q := 86) C K fF_RX10_9 dX10_copy_22 rfl rfl sh_85 (by decide) rfl ?_
      refine z_iload_n (n := 26) C 1 dX10_copy_25 rfl rfl ?_
      refine z_ialdN (n := 27) C K k dX10_copy_26 rfl sh_86 (by decide) rfl hk (by decide) ?_
      refine z_bipush (n := 29) (v := (-9)) C dX10_copy_27 rfl rfl ?_
      rw [hz.1]
      refine z_icmp_eq (tgt := 43) (n := 32) C dX10_copy_29 rfl rfl (fun c29 => ?_) (fun c29 => ?_)
      · refine z_aload_n (n := 44) C 0 dX10_copy_43 rfl rfl ?_
        refine z_iconst (n := 45) (v := 1) C dX10_copy_44 rfl rfl ?_
        refine z_vi_1 (n := 48) (d' := 1) C K dX10_copy_45 rfl yk_X10_fails yv_X10_fails kM_RX10_110 (by decide) hR0 rfl rfl sh_85 (by decide) (by decide) ?_
        refine c_X10_fails ?_
        refine z_iret C E dX10_copy_48 ?_
        rw [so_n9 hok.1] at c29
        rw [upI_upI]
        exact hR (-11) 1 (by unfold copyR; rw [if_neg (fun q => q ⟨b6, b13⟩), hkc, hoc, if_pos (Or.inl c29)])
      · refine z_aload_n (n := 33) C 0 dX10_copy_32 rfl rfl ?_
        refine z_getR (n := 36) (q := 86) C K fF_RX10_9 dX10_copy_33 rfl rfl sh_85 (by decide) rfl ?_
        refine z_iload_n (n := 37) C 3 dX10_copy_36 rfl rfl ?_
        refine z_ialdN (n := 38) C K o dX10_copy_37 rfl sh_86 (by decide) rfl ho (by decide) ?_
        refine z_bipush (n := 40) (v := (-9)) C dX10_copy_38 rfl rfl ?_
        rw [hy.1]
        refine z_icmp_ne (tgt := 49) (n := 43) C dX10_copy_40 rfl rfl (fun c40 => ?_) (fun c40 => ?_)
        · refine z_aload_n (n := 50) C 0 dX10_copy_49 rfl rfl ?_
          refine z_getR (n := 53) (q := 86) C K fF_RX10_9 dX10_copy_50 rfl rfl sh_85 (by decide) rfl ?_
          refine z_iload_n (n := 54) C 1 dX10_copy_53 rfl rfl ?_
          refine z_ialdN (n := 55) C K k dX10_copy_54 rfl sh_86 (by decide) rfl hk (by decide) ?_
          refine z_aload_n (n := 56) C 0 dX10_copy_55 rfl rfl ?_
          refine z_getR (n := 59) (q := 86) C K fF_RX10_9 dX10_copy_56 rfl rfl sh_85 (by decide) rfl ?_
          refine z_iload_n (n := 60) C 3 dX10_copy_59 rfl rfl ?_
          refine z_ialdN (n := 61) C K o dX10_copy_60 rfl sh_86 (by decide) rfl ho (by decide) ?_
          rw [hz.1, hy.1]
          refine z_icmp_eq (tgt := 70) (n := 64) C dX10_copy_61 rfl rfl (fun c61 => ?_) (fun c61 => ?_)
          · refine z_iload_n (n := 71) C 2 dX10_copy_70 rfl rfl ?_
            refine z_if_lt (tgt := 109) (n := 74) C dX10_copy_71 rfl rfl (fun c71 => ?_) (fun c71 => ?_)
            · refine z_iconst (n := 110) (v := 0) C dX10_copy_109 rfl rfl ?_
              refine z_istore (n := 112) (L' := [(6, _), (0, _), (1, _), (2, _), (3, _), (4, _), (5, _)]) C dX10_copy_110 rfl (by rw [hnL]; decide) rfl ?_
              refine z_iload (n := 114) C 0 dX10_copy_112 rfl rfl ?_
              refine z_ifT_eq (tgt := 144) C (by decide) dX10_copy_114 rfl ?_
              refine z_aload_n (n := 145) C 1 dX10_copy_144 rfl rfl ?_
              refine z_iconst (n := 146) (v := 3) C dX10_copy_145 rfl rfl ?_
              refine z_vi_1 (n := 149) (d' := 1) C K dX10_copy_146 rfl yk_X10_fails yv_X10_fails kM_RX10_110 (by decide) hR0 rfl rfl sh_85 (by decide) (by decide) ?_
              refine c_X10_fails ?_
              refine z_iret C E dX10_copy_149 ?_
              rw [so_n9 hok.1] at c29
              rw [so_n9 hok2.1] at c40
              have hk1 : th k = true := by cases h : th k with | true => rfl | false => exact absurd h c29
              have ho1 : th o = true := by cases h : th o with | true => rfl | false => exact absurd h c40
              rw [hk1, ho1] at c61
              have heq : so k = so o := nI_inj c61 (by omega) (by omega)
              have r1 := fb_rng iv
              have r2 := fb_rng jv
              have r3 := fb_rng nv
              simp only [fa_lt, Int32.reduceToInt] at c71
              rw [upI_upI]
              exact hR (-13) 3 (by unfold copyR; rw [if_neg (fun q => q ⟨b6, b13⟩), hkc, hoc, if_neg (fun q => q.elim c29 c40), if_neg (fun q => q heq), if_pos (by omega)])
            · refine z_iload (n := 76) C 4 dX10_copy_74 rfl rfl ?_
              refine z_if_lt (tgt := 109) (n := 79) C dX10_copy_76 rfl rfl (fun c76 => ?_) (fun c76 => ?_)
              · refine z_iconst (n := 110) (v := 0) C dX10_copy_109 rfl rfl ?_
                refine z_istore (n := 112) (L' := [(6, _), (0, _), (1, _), (2, _), (3, _), (4, _), (5, _)]) C dX10_copy_110 rfl (by rw [hnL]; decide) rfl ?_
                refine z_iload (n := 114) C 0 dX10_copy_112 rfl rfl ?_
                refine z_ifT_eq (tgt := 144) C (by decide) dX10_copy_114 rfl ?_
                refine z_aload_n (n := 145) C 1 dX10_copy_144 rfl rfl ?_
                refine z_iconst (n := 146) (v := 3) C dX10_copy_145 rfl rfl ?_
                refine z_vi_1 (n := 149) (d' := 1) C K dX10_copy_146 rfl yk_X10_fails yv_X10_fails kM_RX10_110 (by decide) hR0 rfl rfl sh_85 (by decide) (by decide) ?_
                refine c_X10_fails ?_
                refine z_iret C E dX10_copy_149 ?_
                rw [so_n9 hok.1] at c29
                rw [so_n9 hok2.1] at c40
                have hk1 : th k = true := by cases h : th k with | true => rfl | false => exact absurd h c29
                have ho1 : th o = true := by cases h : th o with | true => rfl | false => exact absurd h c40
                rw [hk1, ho1] at c61
                have heq : so k = so o := nI_inj c61 (by omega) (by omega)
                have r1 := fb_rng iv
                have r2 := fb_rng jv
                have r3 := fb_rng nv
                simp only [fa_lt, Int32.reduceToInt] at c71
                simp only [fa_lt, Int32.reduceToInt] at c76
                rw [upI_upI]
                exact hR (-13) 3 (by unfold copyR; rw [if_neg (fun q => q ⟨b6, b13⟩), hkc, hoc, if_neg (fun q => q.elim c29 c40), if_neg (fun q => q heq), if_pos (by omega)])
              · refine z_iload (n := 81) C 5 dX10_copy_79 rfl rfl ?_
                refine z_if_lt (tgt := 109) (n := 84) C dX10_copy_81 rfl rfl (fun c81 => ?_) (fun c81 => ?_)
                · refine z_iconst (n := 110) (v := 0) C dX10_copy_109 rfl rfl ?_
                  refine z_istore (n := 112) (L' := [(6, _), (0, _), (1, _), (2, _), (3, _), (4, _), (5, _)]) C dX10_copy_110 rfl (by rw [hnL]; decide) rfl ?_
                  refine z_iload (n := 114) C 0 dX10_copy_112 rfl rfl ?_
                  refine z_ifT_eq (tgt := 144) C (by decide) dX10_copy_114 rfl ?_
                  refine z_aload_n (n := 145) C 1 dX10_copy_144 rfl rfl ?_
                  refine z_iconst (n := 146) (v := 3) C dX10_copy_145 rfl rfl ?_
                  refine z_vi_1 (n := 149) (d' := 1) C K dX10_copy_146 rfl yk_X10_fails yv_X10_fails kM_RX10_110 (by decide) hR0 rfl rfl sh_85 (by decide) (by decide) ?_
                  refine c_X10_fails ?_
                  refine z_iret C E dX10_copy_149 ?_
                  rw [so_n9 hok.1] at c29
                  rw [so_n9 hok2.1] at c40
                  have hk1 : th k = true := by cases h : th k with | true => rfl | false => exact absurd h c29
                  have ho1 : th o = true := by cases h : th o with | true => rfl | false => exact absurd h c40
                  rw [hk1, ho1] at c61
                  have heq : so k = so o := nI_inj c61 (by omega) (by omega)
                  have r1 := fb_rng iv
                  have r2 := fb_rng jv
                  have r3 := fb_rng nv
                  simp only [fa_lt, Int32.reduceToInt] at c71
                  simp only [fa_lt, Int32.reduceToInt] at c76
                  simp only [fa_lt, Int32.reduceToInt] at c81
                  rw [upI_upI]
                  exact hR (-13) 3 (by unfold copyR; rw [if_neg (fun q => q ⟨b6, b13⟩), hkc, hoc, if_neg (fun q => q.elim c29 c40), if_neg (fun q => q heq), if_pos (by omega)])
                · refine z_iload_n (n := 85) C 2 dX10_copy_84 rfl rfl ?_
                  refine z_aload_n (n := 86) C 0 dX10_copy_85 rfl rfl ?_
                  refine z_getR (n := 89) (q := 87) C K fF_RX10_13 dX10_copy_86 rfl rfl sh_85 (by decide) rfl ?_
                  refine z_iload_n (n := 90) C 1 dX10_copy_89 rfl rfl ?_
                  refine z_ialdN (n := 91) C K k dX10_copy_90 rfl sh_87 (by decide) rfl hk (by decide) ?_
                  refine z_icmp_gt (tgt := 109) (n := 94) C dX10_copy_91 rfl rfl (fun c91 => ?_) (fun c91 => ?_)
                  · refine z_iconst (n := 110) (v := 0) C dX10_copy_109 rfl rfl ?_
                    refine z_istore (n := 112) (L' := [(6, _), (0, _), (1, _), (2, _), (3, _), (4, _), (5, _)]) C dX10_copy_110 rfl (by rw [hnL]; decide) rfl ?_
                    refine z_iload (n := 114) C 0 dX10_copy_112 rfl rfl ?_
                    refine z_ifT_eq (tgt := 144) C (by decide) dX10_copy_114 rfl ?_
                    refine z_aload_n (n := 145) C 1 dX10_copy_144 rfl rfl ?_
                    refine z_iconst (n := 146) (v := 3) C dX10_copy_145 rfl rfl ?_
                    refine z_vi_1 (n := 149) (d' := 1) C K dX10_copy_146 rfl yk_X10_fails yv_X10_fails kM_RX10_110 (by decide) hR0 rfl rfl sh_85 (by decide) (by decide) ?_
                    refine c_X10_fails ?_
                    refine z_iret C E dX10_copy_149 ?_
                    rw [so_n9 hok.1] at c29
                    rw [so_n9 hok2.1] at c40
                    have hk1 : th k = true := by cases h : th k with | true => rfl | false => exact absurd h c29
                    have ho1 : th o = true := by cases h : th o with | true => rfl | false => exact absurd h c40
                    rw [hk1, ho1] at c61
                    have heq : so k = so o := nI_inj c61 (by omega) (by omega)
                    have r1 := fb_rng iv
                    have r2 := fb_rng jv
                    have r3 := fb_rng nv
                    simp only [fa_lt, Int32.reduceToInt] at c71
                    simp only [fa_lt, Int32.reduceToInt] at c76
                    simp only [fa_lt, Int32.reduceToInt] at c81
                    rw [hz.2.1, fa_lt, nI_toInt (by omega)] at c91
                    rw [upI_upI]
                    exact hR (-13) 3 (by unfold copyR; rw [if_neg (fun q => q ⟨b6, b13⟩), hkc, hoc, if_neg (fun q => q.elim c29 c40), if_neg (fun q => q heq), if_pos (by omega)])
                  · refine z_iload (n := 96) C 4 dX10_copy_94 rfl rfl ?_
                    refine z_aload_n (n := 97) C 0 dX10_copy_96 rfl rfl ?_
                    refine z_getR (n := 100) (q := 87) C K fF_RX10_13 dX10_copy_97 rfl rfl sh_85 (by decide) rfl ?_
                    refine z_iload_n (n := 101) C 3 dX10_copy_100 rfl rfl ?_
                    refine z_ialdN (n := 102) C K o dX10_copy_101 rfl sh_87 (by decide) rfl ho (by decide) ?_
                    refine z_icmp_gt (tgt := 109) (n := 105) C dX10_copy_102 rfl rfl (fun c102 => ?_) (fun c102 => ?_)
                    · refine z_iconst (n := 110) (v := 0) C dX10_copy_109 rfl rfl ?_
                      refine z_istore (n := 112) (L' := [(6, _), (0, _), (1, _), (2, _), (3, _), (4, _), (5, _)]) C dX10_copy_110 rfl (by rw [hnL]; decide) rfl ?_
                      refine z_iload (n := 114) C 0 dX10_copy_112 rfl rfl ?_
                      refine z_ifT_eq (tgt := 144) C (by decide) dX10_copy_114 rfl ?_
                      refine z_aload_n (n := 145) C 1 dX10_copy_144 rfl rfl ?_
                      refine z_iconst (n := 146) (v := 3) C dX10_copy_145 rfl rfl ?_
                      refine z_vi_1 (n := 149) (d' := 1) C K dX10_copy_146 rfl yk_X10_fails yv_X10_fails kM_RX10_110 (by decide) hR0 rfl rfl sh_85 (by decide) (by decide) ?_
                      refine c_X10_fails ?_
                      refine z_iret C E dX10_copy_149 ?_
                      rw [so_n9 hok.1] at c29
                      rw [so_n9 hok2.1] at c40
                      have hk1 : th k = true := by cases h : th k with | true => rfl | false => exact absurd h c29
                      have ho1 : th o = true := by cases h : th o with | true => rfl | false => exact absurd h c40
                      rw [hk1, ho1] at c61
                      have heq : so k = so o := nI_inj c61 (by omega) (by omega)
                      have r1 := fb_rng iv
                      have r2 := fb_rng jv
                      have r3 := fb_rng nv
                      simp only [fa_lt, Int32.reduceToInt] at c71
                      simp only [fa_lt, Int32.reduceToInt] at c76
                      simp only [fa_lt, Int32.reduceToInt] at c81
                      rw [hz.2.1, fa_lt, nI_toInt (by omega)] at c91
                      rw [hy.2.1, fa_lt, nI_toInt (by omega)] at c102
                      rw [upI_upI]
                      exact hR (-13) 3 (by unfold copyR; rw [if_neg (fun q => q ⟨b6, b13⟩), hkc, hoc, if_neg (fun q => q.elim c29 c40), if_neg (fun q => q heq), if_pos (by omega)])
                    · refine z_iconst (n := 106) (v := 1) C dX10_copy_105 rfl rfl ?_
                      refine z_goto (n := 110) C dX10_copy_106 rfl ?_
                      refine z_istore (n := 112) (L' := [(6, _), (0, _), (1, _), (2, _), (3, _), (4, _), (5, _)]) C dX10_copy_110 rfl (by rw [hnL]; decide) rfl ?_
                      refine z_iload (n := 114) C 0 dX10_copy_112 rfl rfl ?_
                      refine z_ifF_eq (n := 117) (tgt := 144) C (by decide) dX10_copy_114 rfl rfl ?_
                      refine z_iload (n := 119) C 6 dX10_copy_117 rfl rfl ?_
                      refine z_aload_n (n := 120) C 1 dX10_copy_119 rfl rfl ?_
                      refine z_getR (n := 123) (q := 87) C K fF_RX10_13 dX10_copy_120 rfl rfl sh_85 (by decide) rfl ?_
                      refine z_iload_n (n := 124) C 2 dX10_copy_123 rfl rfl ?_
                      refine z_ialdN (n := 125) C K k dX10_copy_124 rfl sh_87 (by decide) rfl hk (by decide) ?_
                      refine z_iload_n (n := 126) C 3 dX10_copy_125 rfl rfl ?_
                      refine z_isub (n := 127) C dX10_copy_126 rfl ?_
                      refine z_icmp_gt (tgt := 144) (n := 130) C dX10_copy_127 rfl rfl (fun c127 => ?_) (fun c127 => ?_)
                      · refine z_aload_n (n := 145) C 1 dX10_copy_144 rfl rfl ?_
                        refine z_iconst (n := 146) (v := 3) C dX10_copy_145 rfl rfl ?_
                        refine z_vi_1 (n := 149) (d' := 1) C K dX10_copy_146 rfl yk_X10_fails yv_X10_fails kM_RX10_110 (by decide) hR0 rfl rfl sh_85 (by decide) (by decide) ?_
                        refine c_X10_fails ?_
                        refine z_iret C E dX10_copy_149 ?_
                        rw [so_n9 hok.1] at c29
                        rw [so_n9 hok2.1] at c40
                        have hk1 : th k = true := by cases h : th k with | true => rfl | false => exact absurd h c29
                        have ho1 : th o = true := by cases h : th o with | true => rfl | false => exact absurd h c40
                        rw [hk1, ho1] at c61
                        have heq : so k = so o := nI_inj c61 (by omega) (by omega)
                        have r1 := fb_rng iv
                        have r2 := fb_rng jv
                        have r3 := fb_rng nv
                        simp only [fa_lt, Int32.reduceToInt] at c71
                        simp only [fa_lt, Int32.reduceToInt] at c76
                        simp only [fa_lt, Int32.reduceToInt] at c81
                        rw [hz.2.1, fa_lt, nI_toInt (by omega)] at c91
                        rw [hy.2.1, fa_lt, nI_toInt (by omega)] at c102
                        rw [hz.2.1, fa_lt, fb_subI (by rw [nI_toInt (by omega)]; omega) (by rw [nI_toInt (by omega)]; omega), nI_toInt (by omega)] at c127
                        rw [upI_upI]
                        exact hR (-13) 3 (by unfold copyR; rw [if_neg (fun q => q ⟨b6, b13⟩), hkc, hoc, if_neg (fun q => q.elim c29 c40), if_neg (fun q => q heq), if_pos (by omega)])
                      · refine z_iload (n := 132) C 6 dX10_copy_130 rfl rfl ?_
                        refine z_aload_n (n := 133) C 1 dX10_copy_132 rfl rfl ?_
                        refine z_getR (n := 136) (q := 87) C K fF_RX10_13 dX10_copy_133 rfl rfl sh_85 (by decide) rfl ?_
                        refine z_iload_n (n := 137) C 4 dX10_copy_136 rfl rfl ?_
                        refine z_ialdN (n := 138) C K o dX10_copy_137 rfl sh_87 (by decide) rfl ho (by decide) ?_
                        refine z_iload (n := 140) C 5 dX10_copy_138 rfl rfl ?_
                        refine z_isub (n := 141) C dX10_copy_140 rfl ?_
                        refine z_icmp_le (tgt := 150) (n := 144) C dX10_copy_141 rfl rfl (fun c141 => ?_) (fun c141 => ?_)
                        · rw [so_n9 hok.1] at c29
                          rw [so_n9 hok2.1] at c40
                          have hk1 : th k = true := by cases h : th k with | true => rfl | false => exact absurd h c29
                          have ho1 : th o = true := by cases h : th o with | true => rfl | false => exact absurd h c40
                          rw [hk1, ho1] at c61
                          have heq : so k = so o := nI_inj c61 (by omega) (by omega)
                          have r1 := fb_rng iv
                          have r2 := fb_rng jv
                          have r3 := fb_rng nv
                          simp only [fa_lt, Int32.reduceToInt] at c71 c76 c81
                          rw [hz.2.1, fa_lt, nI_toInt (by omega)] at c91
                          rw [hy.2.1, fa_lt, nI_toInt (by omega)] at c102
                          rw [hz.2.1, fa_lt, fb_subI (by rw [nI_toInt (by omega)]; omega) (by rw [nI_toInt (by omega)]; omega), nI_toInt (by omega)] at c127
                          rw [hy.2.1, fa_le, fb_subI (by rw [nI_toInt (by omega)]; omega) (by rw [nI_toInt (by omega)]; omega), nI_toInt (by omega)] at c141
                          obtain ⟨i, hi, rfl⟩ := i_nat (x := iv) (by omega)
                          obtain ⟨j, hj, rfl⟩ := i_nat (x := jv) (by omega)
                          obtain ⟨n, hn, rfl⟩ := i_nat (x := nv) (by omega)
                          rw [nI_toInt hi] at c71 c91 c127
                          rw [nI_toInt hj] at c76 c102 c141
                          rw [nI_toInt hn] at c81 c127 c141
                          have c71 : (0 : Int) ≤ (nI i).toInt := by rw [nI_toInt hi]; omega
                          have c76 : (0 : Int) ≤ (nI j).toInt := by rw [nI_toInt hj]; omega
                          have c81 : (0 : Int) ≤ (nI n).toInt := by rw [nI_toInt hn]; omega
                          have g1 := nI_toInt hi
                          have g2 := nI_toInt hj
                          have g3 := nI_toInt hn
                          refine z_iload_n (n := 151) C 3 dX10_copy_150 rfl rfl ?_
                          refine z_iload (n := 153) C 5 dX10_copy_151 rfl rfl ?_
                          refine z_icmp_ge (tgt := 160) (n := 156) C dX10_copy_153 rfl rfl (fun c153 => ?_) (fun c153 => ?_)
                          · refine z_iconst (n := 161) (v := 0) C dX10_copy_160 rfl rfl ?_
                            refine z_istore (n := 163) (L' := [(7, _), (6, _), (0, _), (1, _), (2, _), (3, _), (4, _), (5, _)]) C dX10_copy_161 rfl (by rw [hnL]; decide) rfl ?_
                            refine z_iconst (n := 164) (v := 0) C dX10_copy_163 rfl rfl ?_
                            refine z_istore (n := 166) (L' := [(8, _), (7, _), (6, _), (0, _), (1, _), (2, _), (3, _), (4, _), (5, _)]) C dX10_copy_164 rfl (by rw [hnL]; decide) rfl ?_
                            refine z_sub (L' := [(8, _), (0, _), (1, _), (2, _), (3, _), (4, _), (5, _), (7, _)]) [0, 3, 4, 5, 6, 7, 8, 1] rfl ?_
                            rw [fa_le, nI_toInt hi, nI_toInt hj] at c153
                            have h1 := l_X10_copyA (J := J) (t := t) (I := upI I 85 0 0) (k := k) (o := o) (i := i) (j := j) (n := n) C K hnL E hk ho (by omega) (by omega) (by omega) ?_ (n + 1) 0 (by omega) (by omega)
                            · rw [mcp_0] at h1
                              exact h1
                            refine hS (by unfold copyR; rw [if_neg (fun q => q ⟨b6, b13⟩), hkc, hoc, if_neg (fun q => q.elim c29 c40), if_neg (fun q => q heq), if_neg (fun q => q ⟨c71, c76, c81, by omega, by omega⟩)]) k i o j n rfl hk rfl rfl ho rfl rfl (by omega) (by omega) _ (fun q h0 h1 => ?_) (fun a ha => ?_) ?_ (fun z hz2 => ?_)
                            · rw [mcp_p _ (by omega), upI_row _ _ h0]
                            · rw [mcp_p _ (by omega), upI_k _ _ ha]
                            · rw [mcp_p _ (by omega), upI_same]; rfl
                            · have hz3 := hs.fa (j := 0) (v := 0) z hz2
                              rw [mcp_p _ (show 86 ≠ 88 by omega), mcp_p _ (show 87 ≠ 88 by omega)]
                              refine ⟨hz3.1, hz3.2.1, fun a ha => ?_⟩
                              unfold ceCp
                              by_cases hzo : z = o
                              · subst hzo
                                rw [fu_same]
                                by_cases h3 : j ≤ a ∧ a < j + n
                                · rw [if_pos h3]
                                  unfold mcp
                                  rw [if_pos ⟨rfl, by omega, by omega⟩, ← hz.2.2 (i + (a - j)) (by omega)]
                                  congr 1; omega
                                · rw [if_neg h3, mcp_out _ (by omega)]; exact hz3.2.2 a ha
                              · rw [fu_ne _ _ hzo, mcp_out _ (by omega)]; exact hz3.2.2 a ha
                          · refine z_iconst (n := 157) (v := 1) C dX10_copy_156 rfl rfl ?_
                            refine z_goto (n := 161) C dX10_copy_157 rfl ?_
                            refine z_istore (n := 163) (L' := [(7, _), (6, _), (0, _), (1, _), (2, _), (3, _), (4, _), (5, _)]) C dX10_copy_161 rfl (by rw [hnL]; decide) rfl ?_
                            refine z_iconst (n := 164) (v := 0) C dX10_copy_163 rfl rfl ?_
                            refine z_istore (n := 166) (L' := [(8, _), (7, _), (6, _), (0, _), (1, _), (2, _), (3, _), (4, _), (5, _)]) C dX10_copy_164 rfl (by rw [hnL]; decide) rfl ?_
                            refine z_sub (L' := [(8, _), (0, _), (1, _), (2, _), (3, _), (4, _), (5, _), (7, _)]) [0, 3, 4, 5, 6, 7, 8, 1] rfl ?_
                            rw [fa_le, nI_toInt hi, nI_toInt hj] at c153
                            have h1 := l_X10_copyD (J := J) (t := t) (I := upI I 85 0 0) (k := k) (o := o) (i := i) (j := j) (n := n) C K hnL E hk ho (by omega) (by omega) (by omega) ?_ (n + 1) 0 (by omega) (by omega)
                            · rw [Nat.sub_zero, mcp_0] at h1
                              exact h1
                            refine hS (by unfold copyR; rw [if_neg (fun q => q ⟨b6, b13⟩), hkc, hoc, if_neg (fun q => q.elim c29 c40), if_neg (fun q => q heq), if_neg (fun q => q ⟨c71, c76, c81, by omega, by omega⟩)]) k i o j n rfl hk rfl rfl ho rfl rfl (by omega) (by omega) _ (fun q h0 h1 => ?_) (fun a ha => ?_) ?_ (fun z hz2 => ?_)
                            · rw [mcp_p _ (by omega), upI_row _ _ h0]
                            · rw [mcp_p _ (by omega), upI_k _ _ ha]
                            · rw [mcp_p _ (by omega), upI_same]; rfl
                            · have hz3 := hs.fa (j := 0) (v := 0) z hz2
                              rw [mcp_p _ (show 86 ≠ 88 by omega), mcp_p _ (show 87 ≠ 88 by omega)]
                              refine ⟨hz3.1, hz3.2.1, fun a ha => ?_⟩
                              unfold ceCp
                              by_cases hzo : z = o
                              · subst hzo
                                rw [fu_same]
                                by_cases h3 : j ≤ a ∧ a < j + n
                                · rw [if_pos h3]
                                  unfold mcp
                                  rw [if_pos ⟨rfl, by omega, by omega⟩, ← hz.2.2 (i + (a - j)) (by omega)]
                                  congr 1; omega
                                · rw [if_neg h3, mcp_out _ (by omega)]; exact hz3.2.2 a ha
                              · rw [fu_ne _ _ hzo, mcp_out _ (by omega)]; exact hz3.2.2 a ha
                        · refine z_aload_n (n := 145) C 1 dX10_copy_144 rfl rfl ?_
                          refine z_iconst (n := 146) (v := 3) C dX10_copy_145 rfl rfl ?_
                          refine z_vi_1 (n := 149) (d' := 1) C K dX10_copy_146 rfl yk_X10_fails yv_X10_fails kM_RX10_110 (by decide) hR0 rfl rfl sh_85 (by decide) (by decide) ?_
                          refine c_X10_fails ?_
                          refine z_iret C E dX10_copy_149 ?_
                          rw [so_n9 hok.1] at c29
                          rw [so_n9 hok2.1] at c40
                          have hk1 : th k = true := by cases h : th k with | true => rfl | false => exact absurd h c29
                          have ho1 : th o = true := by cases h : th o with | true => rfl | false => exact absurd h c40
                          rw [hk1, ho1] at c61
                          have heq : so k = so o := nI_inj c61 (by omega) (by omega)
                          have r1 := fb_rng iv
                          have r2 := fb_rng jv
                          have r3 := fb_rng nv
                          simp only [fa_lt, Int32.reduceToInt] at c71
                          simp only [fa_lt, Int32.reduceToInt] at c76
                          simp only [fa_lt, Int32.reduceToInt] at c81
                          rw [hz.2.1, fa_lt, nI_toInt (by omega)] at c91
                          rw [hy.2.1, fa_lt, nI_toInt (by omega)] at c102
                          rw [hz.2.1, fa_lt, fb_subI (by rw [nI_toInt (by omega)]; omega) (by rw [nI_toInt (by omega)]; omega), nI_toInt (by omega)] at c127
                          rw [hy.2.1, fa_le, fb_subI (by rw [nI_toInt (by omega)]; omega) (by rw [nI_toInt (by omega)]; omega), nI_toInt (by omega)] at c141
                          rw [upI_upI]
                          exact hR (-13) 3 (by unfold copyR; rw [if_neg (fun q => q ⟨b6, b13⟩), hkc, hoc, if_neg (fun q => q.elim c29 c40), if_neg (fun q => q heq), if_pos (by omega)])
          · refine z_aload_n (n := 65) C 0 dX10_copy_64 rfl rfl ?_
            refine z_iconst (n := 66) (v := 2) C dX10_copy_65 rfl rfl ?_
            refine z_vi_1 (n := 69) (d' := 1) C K dX10_copy_66 rfl yk_X10_fails yv_X10_fails kM_RX10_110 (by decide) hR0 rfl rfl sh_85 (by decide) (by decide) ?_
            refine c_X10_fails ?_
            refine z_iret C E dX10_copy_69 ?_
            rw [so_n9 hok.1] at c29
            rw [so_n9 hok2.1] at c40
            have hk1 : th k = true := by cases h : th k with | true => rfl | false => exact absurd h c29
            have ho1 : th o = true := by cases h : th o with | true => rfl | false => exact absurd h c40
            rw [hk1, ho1] at c61
            have hne : ¬ so k = so o := fun e => c61 (by rw [e])
            rw [upI_upI]
            exact hR (-12) 2 (by unfold copyR; rw [if_neg (fun q => q ⟨b6, b13⟩), hkc, hoc, if_neg (fun q => q.elim c29 c40), if_pos hne])
        · refine z_aload_n (n := 44) C 0 dX10_copy_43 rfl rfl ?_
          refine z_iconst (n := 45) (v := 1) C dX10_copy_44 rfl rfl ?_
          refine z_vi_1 (n := 48) (d' := 1) C K dX10_copy_45 rfl yk_X10_fails yv_X10_fails kM_RX10_110 (by decide) hR0 rfl rfl sh_85 (by decide) (by decide) ?_
          refine c_X10_fails ?_
          refine z_iret C E dX10_copy_48 ?_
          rw [so_n9 hok2.1] at c40
          rw [upI_upI]
          exact hR (-11) 1 (by unfold copyR; rw [if_neg (fun q => q ⟨b6, b13⟩), hkc, hoc, if_pos (Or.inr c40)])
    · refine z_ifF_ne (n := 19) (tgt := 21) C (by decide) dX10_copy_16 rfl rfl ?_
      refine z_iconst (n := 20) (v := (-1)) C dX10_copy_19 rfl rfl ?_
      refine z_iret C E dX10_copy_20 ?_
      exact hR (-1) 0 (by unfold copyR; rw [if_pos (fun q => b13 q.2)])
  · refine z_ifT_eq (tgt := 19) C (by decide) dX10_copy_9 rfl ?_
    refine z_iconst (n := 20) (v := (-1)) C dX10_copy_19 rfl rfl ?_
    refine z_iret C E dX10_copy_20 ?_
    exact hR (-1) 0 (by unfold copyR; rw [if_pos (fun q => b6 q.1)])
def bcE (x : Int32) : Int32 :=
  let a := x - (((x.toUInt32 >>> ((1 : Int32).toUInt32 &&& Int32.toUInt32 31)).toInt32) &&& 1431655765)
  let b := (a &&& 858993459) + (((a.toUInt32 >>> ((2 : Int32).toUInt32 &&& Int32.toUInt32 31)).toInt32) &&& 858993459)
  let c := (b + (b.toUInt32 >>> ((4 : Int32).toUInt32 &&& Int32.toUInt32 31)).toInt32) &&& 252645135
  let d := c + (c.toUInt32 >>> ((8 : Int32).toUInt32 &&& Int32.toUInt32 31)).toInt32
  let e := d + (d.toUInt32 >>> ((16 : Int32).toUInt32 &&& Int32.toUInt32 31)).toInt32
  e &&& 63
set_option maxRecDepth 100000 in
theorem bc_ok : ∀ m, m < 1024 → bcE (nI m) = nI (popS m) := by decide +kernel
set_option maxHeartbeats 4000000 in
set_option maxRecDepth 100000 in
theorem c_J6_bitCount_0f7a4 {ad : Nat → Nat} {I : KI} {J : KJ} {t : Nat} {m : Nat} (hm : m < 1024) {Q : Int32 → KI → KJ → KR → Prop} (hQ : Q (nI (popS m)) I J (rf t)) : Mi 1 yJ6_bitCount_0f7a4 (wm yJ6_bitCount_0f7a4 cJ6_bitCount_0f7a4 1 (some .int)) [.int (nI m)] ad I J (rf t) Q := by
  refine mi_of (own := RJ6) yk_J6_bitCount_0f7a4 rfl (Nat.le_of_ble_eq_true rfl) rfl (fun X hA hnL C K E => ?_)
  subst hA
  refine z_iload_n (n := 1) C 0 dJ6_bitCount_0f7a4_0 rfl rfl ?_
  refine z_iload_n (n := 2) C 0 dJ6_bitCount_0f7a4_1 rfl rfl ?_
  refine z_iconst (n := 3) (v := 1) C dJ6_bitCount_0f7a4_2 rfl rfl ?_
  refine z_iushr (n := 4) C dJ6_bitCount_0f7a4_3 rfl ?_
  refine z_ldcw (n := 7) C dJ6_bitCount_0f7a4_4 kK_RJ6_265 rfl ?_
  refine z_iand (n := 8) C dJ6_bitCount_0f7a4_7 rfl ?_
  refine z_isub (n := 9) C dJ6_bitCount_0f7a4_8 rfl ?_
  refine z_istore_n (n := 10) (L' := [(0, _)]) C dJ6_bitCount_0f7a4_9 rfl (by rw [hnL]; decide) rfl ?_
  refine z_iload_n (n := 11) C 0 dJ6_bitCount_0f7a4_10 rfl rfl ?_
  refine z_ldcw (n := 14) C dJ6_bitCount_0f7a4_11 kK_RJ6_266 rfl ?_
  refine z_iand (n := 15) C dJ6_bitCount_0f7a4_14 rfl ?_
  refine z_iload_n (n := 16) C 0 dJ6_bitCount_0f7a4_15 rfl rfl ?_
  refine z_iconst (n := 17) (v := 2) C dJ6_bitCount_0f7a4_16 rfl rfl ?_
  refine z_iushr (n := 18) C dJ6_bitCount_0f7a4_17 rfl ?_
  refine z_ldcw (n := 21) C dJ6_bitCount_0f7a4_18 kK_RJ6_266 rfl ?_
  refine z_iand (n := 22) C dJ6_bitCount_0f7a4_21 rfl ?_
  refine z_iadd (n := 23) C dJ6_bitCount_0f7a4_22 rfl ?_
  refine z_istore_n (n := 24) (L' := [(0, _)]) C dJ6_bitCount_0f7a4_23 rfl (by rw [hnL]; decide) rfl ?_
  refine z_iload_n (n := 25) C 0 dJ6_bitCount_0f7a4_24 rfl rfl ?_
  refine z_iload_n (n := 26) C 0 dJ6_bitCount_0f7a4_25 rfl rfl ?_
  refine z_iconst (n := 27) (v := 4) C dJ6_bitCount_0f7a4_26 rfl rfl ?_
  refine z_iushr (n := 28) C dJ6_bitCount_0f7a4_27 rfl ?_
  refine z_iadd (n := 29) C dJ6_bitCount_0f7a4_28 rfl ?_
  refine z_ldcw (n := 32) C dJ6_bitCount_0f7a4_29 kK_RJ6_267 rfl ?_
  refine z_iand (n := 33) C dJ6_bitCount_0f7a4_32 rfl ?_
  refine z_istore_n (n := 34) (L' := [(0, _)]) C dJ6_bitCount_0f7a4_33 rfl (by rw [hnL]; decide) rfl ?_
  refine z_iload_n (n := 35) C 0 dJ6_bitCount_0f7a4_34 rfl rfl ?_
  refine z_iload_n (n := 36) C 0 dJ6_bitCount_0f7a4_35 rfl rfl ?_
  refine z_bipush (n := 38) (v := 8) C dJ6_bitCount_0f7a4_36 rfl rfl ?_
  refine z_iushr (n := 39) C dJ6_bitCount_0f7a4_38 rfl ?_
  refine z_iadd (n := 40) C dJ6_bitCount_0f7a4_39 rfl ?_
  refine z_istore_n (n := 41) (L' := [(0, _)]) C dJ6_bitCount_0f7a4_40 rfl (by rw [hnL]; decide) rfl ?_
  refine z_iload_n (n := 42) C 0 dJ6_bitCount_0f7a4_41 rfl rfl ?_
  refine z_iload_n (n := 43) C 0 dJ6_bitCount_0f7a4_42 rfl rfl ?_
  refine z_bipush (n := 45) (v := 16) C dJ6_bitCount_0f7a4_43 rfl rfl ?_
  refine z_iushr (n := 46) C dJ6_bitCount_0f7a4_45 rfl ?_
  refine z_iadd (n := 47) C dJ6_bitCount_0f7a4_46 rfl ?_
  refine z_istore_n (n := 48) (L' := [(0, _)]) C dJ6_bitCount_0f7a4_47 rfl (by rw [hnL]; decide) rfl ?_
  refine z_iload_n (n := 49) C 0 dJ6_bitCount_0f7a4_48 rfl rfl ?_
  refine z_bipush (n := 51) (v := 63) C dJ6_bitCount_0f7a4_49 rfl rfl ?_
  refine z_iand (n := 52) C dJ6_bitCount_0f7a4_51 rfl ?_
  refine z_iret C E dJ6_bitCount_0f7a4_52 ?_
  exact eqQ (bc_ok m hm) hQ
