def ceCp (ce : Nat → Nat → Int32) (k o i j n : Nat) : Nat → Nat → Int32 := fu ce o (fun a => if j ≤ a ∧ a < j + n then ce k (i + (a - j)) else ce o a)
set_option maxHeartbeats 4000000 in
set_option maxRecDepth 100000 in
theorem c_X9_copy {ad : Nat → Nat} {I : KI} {J : KJ} {t : Nat} {th : Nat → Bool} {so ct : Nat → Nat} {ce : Nat → Nat → Int32} (hs : cSh I th so ct ce) (ok : okSh so ct){kv iv ov jv nv : Int32} {Q : Int32 → KI → KJ → KR → Prop} (hR : ∀ a f, copyR th so ct kv iv ov jv nv = some (a, f) → Q a (upI I 0 13 (nI f)) J (rf t)) (hS : copyR th so ct kv iv ov jv nv = none → ∀ k i o j n : Nat, kv = nI k → k < 4 → iv = nI i → ov = nI o → o < 4 → jv = nI j → nv = nI n → i + n ≤ ct k → j + n ≤ ct o → ∀ I', (∀ q, q ≠ 0 → ¬ (67 ≤ q ∧ q ≤ 74) → I' q = I q) → (∀ j, j ≠ 13 → I' 0 j = I 0 j) → I' 0 13 = nI 0 → cSh I' th so ct (ceCp ce k o i j n) → Q (nI n) I' J (rf t)) : Mi 3 yX9_copy (wm yX9_copy cX9_copy 8 (some .int)) [.ref (ad 0), .int (kv), .int (iv), .int (ov), .int (jv), .int (nv)] ad I J (rf t) Q := by
  refine mi_of (own := RX9) yk_X9_copy rfl (Nat.le_of_ble_eq_true rfl) rfl (fun X hA hnL C K E => ?_)
  subst hA
  refine z_aload_n (n := 1) C 0 dX9_copy_0 rfl rfl ?_
  refine z_iconst (n := 2) (v := 0) C dX9_copy_1 rfl rfl ?_
  refine z_putI (n := 5) C K fF_RX9_78 dX9_copy_2 rfl sh_0 (by decide) ?_
  refine z_iload_n (n := 6) C 1 dX9_copy_5 rfl rfl ?_
  refine z_si_1 (n := 9) (d' := 2) C K dX9_copy_6 rfl yk_X9_isSheet kT_yX9_isSheet kM_RX9_92 (by decide) hR0 rfl ?_
  refine c_X9_isSheet (fun b6 => ?_) (fun b6 => ?_)
  · refine z_ifF_eq (n := 12) (tgt := 19) C (by decide) dX9_copy_9 rfl rfl ?_
    refine z_iload_n (n := 13) C 3 dX9_copy_12 rfl rfl ?_
    refine z_si_1 (n := 16) (d' := 2) C K dX9_copy_13 rfl yk_X9_isSheet kT_yX9_isSheet kM_RX9_92 (by decide) hR0 rfl ?_
    refine c_X9_isSheet (fun b13 => ?_) (fun b13 => ?_)
    · refine z_ifT_ne (tgt := 21) C (by decide) dX9_copy_16 rfl ?_
      obtain ⟨k, hk3, rfl⟩ := isB_of (h := 3) b6
      obtain ⟨o, ho3, rfl⟩ := isB_of (h := 3) b13
      have hk : k < 4 := by omega
      have ho : o < 4 := by omega
      have hz := hs.fa (j := 13) (v := 0) k hk
      have hy := hs.fa (j := 13) (v := 0) o ho
      have hkc : (nI k).toNatClampNeg = k := nI_clamp (by omega)
      have hoc : (nI o).toNatClampNeg = o := nI_clamp (by omega)
      have hok := ok k hk
      have hok2 := ok o ho
      refine z_aload_n (n := 22) C 0 dX9_copy_21 rfl rfl ?_
      refine z_getR (n := 25) (q := 1) C K fF_RX9_13 dX9_copy_22 rfl rfl sh_0 (by decide) rfl ?_
      refine z_iload_n (n := 26) C 1 dX9_copy_25 rfl rfl ?_
      refine z_aaldN (n := 27) (q := (67 + 2 * k)) (ci := 1) C K k dX9_copy_26 rfl (by decide) sh_1 (by decide) rfl hk (by decide) (rf_sheets hk) ?_
      refine z_astore (n := 29) (L' := [(6, _), (0, _), (1, _), (2, _), (3, _), (4, _), (5, _)]) C dX9_copy_27 rfl (by rw [hnL]; decide) rfl ?_
      refine z_aload_n (n := 30) C 1 dX9_copy_29 rfl rfl ?_
      refine z_getR (n := 33) (q := 1) C K fF_RX9_13 dX9_copy_30 rfl rfl sh_0 (by decide) rfl ?_
      refine z_iload_n (n := 34) C 4 dX9_copy_33 rfl rfl ?_
      refine z_aaldN (n := 35) (q := (67 + 2 * o)) (ci := 1) C K o dX9_copy_34 rfl (by decide) sh_1 (by decide) rfl ho (by decide) (rf_sheets ho) ?_
      refine z_astore (n := 37) (L' := [(7, _), (6, _), (0, _), (1, _), (2, _), (3, _), (4, _), (5, _)]) C dX9_copy_35 rfl (by rw [hnL]; decide) rfl ?_
      refine z_aload (n := 39) C 1 dX9_copy_37 rfl rfl ?_
      refine z_getB (n := 42) C K fF_RX9_309 dX9_copy_39 rfl (sh_sheet hk) (lt_sheet hk) ?_
      rw [hz.1]
      refine z_if_eq (tgt := 53) (n := 45) C dX9_copy_42 rfl rfl (fun c42 => ?_) (fun c42 => ?_)
      · refine z_aload_n (n := 54) C 2 dX9_copy_53 rfl rfl ?_
        refine z_iconst (n := 55) (v := 1) C dX9_copy_54 rfl rfl ?_
        refine z_vi_1 (n := 58) (d' := 1) C K dX9_copy_55 rfl yk_X9_fail yv_X9_fail kM_RX9_303 (by decide) hR0 rfl rfl sh_0 (by decide) (by decide) ?_
        refine c_X9_fail ?_
        refine z_iret C E dX9_copy_58 ?_
        rw [b2i_0] at c42
        rw [upI_upI]
        exact hR (-11) 1 (by unfold copyR; rw [if_neg (fun q => q ⟨b6, b13⟩), hkc, hoc, if_pos (Or.inl c42)])
      · refine z_aload (n := 47) C 0 dX9_copy_45 rfl rfl ?_
        refine z_getB (n := 50) C K fF_RX9_309 dX9_copy_47 rfl (sh_sheet ho) (lt_sheet ho) ?_
        rw [hy.1]
        refine z_if_ne (tgt := 59) (n := 53) C dX9_copy_50 rfl rfl (fun c50 => ?_) (fun c50 => ?_)
        · refine z_aload (n := 61) C 1 dX9_copy_59 rfl rfl ?_
          refine z_getI (n := 64) C K fF_RX9_322 dX9_copy_61 rfl (sh_sheet hk) (lt_sheet hk) ?_
          refine z_aload (n := 66) C 0 dX9_copy_64 rfl rfl ?_
          refine z_getI (n := 69) C K fF_RX9_322 dX9_copy_66 rfl (sh_sheet ho) (lt_sheet ho) ?_
          rw [hz.2.1, hy.2.1]
          refine z_icmp_eq (tgt := 78) (n := 72) C dX9_copy_69 rfl rfl (fun c69 => ?_) (fun c69 => ?_)
          · refine z_aload (n := 80) C 1 dX9_copy_78 rfl rfl ?_
            refine z_iload_n (n := 81) C 4 dX9_copy_80 rfl rfl ?_
            refine z_iload (n := 83) C 7 dX9_copy_81 rfl rfl ?_
            refine z_vi_2 (n := 86) (d' := 1) C K dX9_copy_83 rfl yk_X6_reaches yv_X6_reaches kM_RX9_313 (by decide) hR0 rfl rfl (sh_sheet hk) (by decide) (lt_sheet hk) ?_
            refine c_X6_reaches hk hok.2 hz.2.2.1 (fun b83 => ?_) (fun b83 => ?_)
            · refine z_ifF_eq (n := 89) (tgt := 101) C (by decide) dX9_copy_86 rfl rfl ?_
              refine z_aload (n := 91) C 0 dX9_copy_89 rfl rfl ?_
              refine z_iload (n := 93) C 6 dX9_copy_91 rfl rfl ?_
              refine z_iload (n := 95) C 7 dX9_copy_93 rfl rfl ?_
              refine z_vi_2 (n := 98) (d' := 1) C K dX9_copy_95 rfl yk_X6_reaches yv_X6_reaches kM_RX9_313 (by decide) hR0 rfl rfl (sh_sheet ho) (by decide) (lt_sheet ho) ?_
              refine c_X6_reaches ho hok2.2 hy.2.2.1 (fun b95 => ?_) (fun b95 => ?_)
              · refine z_ifT_ne (tgt := 107) C (by decide) dX9_copy_98 rfl ?_
                obtain ⟨i, hi, rfl⟩ := i_nat b83.1
                obtain ⟨n, hn, rfl⟩ := i_nat b83.2.1
                obtain ⟨j, hj, rfl⟩ := i_nat b95.1
                have g1 := b83.2.2
                have g2 := b95.2.2
                rw [nI_toInt hi, nI_toInt hn] at g1
                rw [nI_toInt hj, nI_toInt hn] at g2
                refine z_aload (n := 109) C 1 dX9_copy_107 rfl rfl ?_
                refine z_getR (n := 112) (q := (68 + 2 * k)) C K fF_RX9_325 dX9_copy_109 rfl rfl (sh_sheet hk) (lt_sheet hk) (rf_cells hk) ?_
                refine z_iload_n (n := 113) C 4 dX9_copy_112 rfl rfl ?_
                refine z_aload (n := 115) C 0 dX9_copy_113 rfl rfl ?_
                refine z_getR (n := 118) (q := (68 + 2 * o)) C K fF_RX9_325 dX9_copy_115 rfl rfl (sh_sheet ho) (lt_sheet ho) (rf_cells ho) ?_
                refine z_iload (n := 120) C 6 dX9_copy_118 rfl rfl ?_
                refine z_iload (n := 122) C 7 dX9_copy_120 rfl rfl ?_
                refine z_acopy (n := 125) (p := 68 + 2 * k) (q := 68 + 2 * o) (sp := i) (dp := j) (m := n) C K dX9_copy_122 rfl kM_RX9_328 (sh_cells hk) (lt_cells hk) (sh_cells ho) (lt_cells ho) (by omega) (by omega) (by decide) (by decide) (by decide) rfl ?_
                refine z_iload (n := 127) C 7 dX9_copy_125 rfl rfl ?_
                refine z_iret C E dX9_copy_127 ?_
                rw [b2i_n0] at c42 c50
                have heq : so k = so o := nI_inj c69 (by omega) (by omega)
                refine hS (by unfold copyR; rw [if_neg (fun q => q ⟨b6, b13⟩), hkc, hoc, if_neg (by rw [c42, c50]; decide), if_neg (fun q => q heq), if_neg (fun q => q ⟨b83.1, b95.1, b83.2.1, b83.2.2, b95.2.2⟩)]) k i o j n rfl hk rfl rfl ho rfl rfl (by omega) (by omega) _ (fun q h0 h1 => ?_) (fun a ha => ?_) ?_ (fun z hz2 => ?_)
                · have e : cpI (upI I 0 13 0) (68 + 2 * k) (68 + 2 * o) i j n q = upI I 0 13 0 q := by funext a; unfold cpI; rw [if_neg (by omega)]
                  rw [e, upI_row _ _ h0]
                · unfold cpI; rw [if_neg (by omega), upI_k _ _ ha]
                · unfold cpI; rw [if_neg (by omega), upI_same]; rfl
                · have hz3 := hs.fa (j := 13) (v := 0) z hz2
                  have e : cpI (upI I 0 13 0) (68 + 2 * k) (68 + 2 * o) i j n (67 + 2 * z) = upI I 0 13 0 (67 + 2 * z) := by funext a; unfold cpI; rw [if_neg (by omega)]
                  rw [e]
                  refine ⟨hz3.1, hz3.2.1, hz3.2.2.1, fun a ha => ?_⟩
                  unfold cpI ceCp
                  by_cases hzo : z = o
                  · subst hzo
                    rw [fu_same]
                    by_cases h3 : j ≤ a ∧ a < j + n
                    · rw [if_pos ⟨rfl, h3⟩, if_pos h3]; exact hz.2.2.2 _ (by omega)
                    · rw [if_neg (fun q => h3 q.2), if_neg h3]; exact hz3.2.2.2 a ha
                  · rw [if_neg (by omega), fu_ne _ _ hzo]; exact hz3.2.2.2 a ha
              · refine z_ifF_ne (n := 101) (tgt := 107) C (by decide) dX9_copy_98 rfl rfl ?_
                refine z_aload_n (n := 102) C 2 dX9_copy_101 rfl rfl ?_
                refine z_iconst (n := 103) (v := 3) C dX9_copy_102 rfl rfl ?_
                refine z_vi_1 (n := 106) (d' := 1) C K dX9_copy_103 rfl yk_X9_fail yv_X9_fail kM_RX9_303 (by decide) hR0 rfl rfl sh_0 (by decide) (by decide) ?_
                refine c_X9_fail ?_
                refine z_iret C E dX9_copy_106 ?_
                rw [b2i_n0] at c42 c50
                have heq : so k = so o := nI_inj c69 (by omega) (by omega)
                rw [upI_upI]
                exact hR (-13) 3 (by unfold copyR; rw [if_neg (fun q => q ⟨b6, b13⟩), hkc, hoc, if_neg (by rw [c42, c50]; decide), if_neg (fun q => q heq), if_pos (fun q => b95 ⟨q.2.1, q.2.2.1, q.2.2.2.2⟩)])
            · refine z_ifT_eq (tgt := 101) C (by decide) dX9_copy_86 rfl ?_
              refine z_aload_n (n := 102) C 2 dX9_copy_101 rfl rfl ?_
              refine z_iconst (n := 103) (v := 3) C dX9_copy_102 rfl rfl ?_
              refine z_vi_1 (n := 106) (d' := 1) C K dX9_copy_103 rfl yk_X9_fail yv_X9_fail kM_RX9_303 (by decide) hR0 rfl rfl sh_0 (by decide) (by decide) ?_
              refine c_X9_fail ?_
              refine z_iret C E dX9_copy_106 ?_
              rw [b2i_n0] at c42 c50
              have heq : so k = so o := nI_inj c69 (by omega) (by omega)
              rw [upI_upI]
              exact hR (-13) 3 (by unfold copyR; rw [if_neg (fun q => q ⟨b6, b13⟩), hkc, hoc, if_neg (by rw [c42, c50]; decide), if_neg (fun q => q heq), if_pos (fun q => b83 ⟨q.1, q.2.2.1, q.2.2.2.1⟩)])
          · refine z_aload_n (n := 73) C 2 dX9_copy_72 rfl rfl ?_
            refine z_iconst (n := 74) (v := 2) C dX9_copy_73 rfl rfl ?_
            refine z_vi_1 (n := 77) (d' := 1) C K dX9_copy_74 rfl yk_X9_fail yv_X9_fail kM_RX9_303 (by decide) hR0 rfl rfl sh_0 (by decide) (by decide) ?_
            refine c_X9_fail ?_
            refine z_iret C E dX9_copy_77 ?_
            rw [b2i_n0] at c42 c50
            have hne : ¬ so k = so o := fun e => c69 (by rw [e])
            rw [upI_upI]
            exact hR (-12) 2 (by unfold copyR; rw [if_neg (fun q => q ⟨b6, b13⟩), hkc, hoc, if_neg (by rw [c42, c50]; decide), if_pos hne])
        · refine z_aload_n (n := 54) C 2 dX9_copy_53 rfl rfl ?_
          refine z_iconst (n := 55) (v := 1) C dX9_copy_54 rfl rfl ?_
          refine z_vi_1 (n := 58) (d' := 1) C K dX9_copy_55 rfl yk_X9_fail yv_X9_fail kM_RX9_303 (by decide) hR0 rfl rfl sh_0 (by decide) (by decide) ?_
          refine c_X9_fail ?_
          refine z_iret C E dX9_copy_58 ?_
          rw [b2i_0] at c50
          rw [upI_upI]
          exact hR (-11) 1 (by unfold copyR; rw [if_neg (fun q => q ⟨b6, b13⟩), hkc, hoc, if_pos (Or.inr c50)])
    · refine z_ifF_ne (n := 19) (tgt := 21) C (by decide) dX9_copy_16 rfl rfl ?_
      refine z_iconst (n := 20) (v := (-1)) C dX9_copy_19 rfl rfl ?_
      refine z_iret C E dX9_copy_20 ?_
      exact hR (-1) 0 (by unfold copyR; rw [if_pos (fun q => b13 q.2)])
  · refine z_ifT_eq (tgt := 19) C (by decide) dX9_copy_9 rfl ?_
    refine z_iconst (n := 20) (v := (-1)) C dX9_copy_19 rfl rfl ?_
    refine z_iret C E dX9_copy_20 ?_
    exact hR (-1) 0 (by unfold copyR; rw [if_pos (fun q => b6 q.1)])
