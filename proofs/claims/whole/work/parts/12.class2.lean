set_option maxHeartbeats 4000000 in
set_option maxRecDepth 100000 in
theorem c_X9_child {ad : Nat → Nat} {I : KI} {J : KJ} {t : Nat} {c : Nat} {ki co ag re : Nat → Nat} {T : Nat → Nat → Nat}(hk : cKd I c ki co ag re T){n : Nat} (ok : okKd n c ki co ag re T){s r : Nat} {rd : Nat → Nat → Nat} (ht : Tw t) (hw : cTw t I n r s rd) (hn7 : n ≤ 7) {kd cr av rv : Int32} {Q : Int32 → KI → KJ → KR → Prop} (hR : ∀ a, childR n c kd cr av rv = some a → Q a I J (rf t)) (hS : childR n c kd cr av rv = none → ∀ k o a r2 : Nat, kd = nI k → cr = nI o → av = nI a → rv = nI r2 → k < 3 → o < n → 4 ≤ a → a ≤ 11 → r2 ≤ 60 → c < 10 → ∀ I', (∀ p, p ≠ 0 → ¬ (75 ≤ p ∧ p ≤ 84) → I' p = I p) → (∀ j, j ≠ 5 → I' 0 j = I 0 j) → cKd I' (c + 1) (fu ki c k) (fu co c o) (fu ag c a) (fu re c r2) (Tnew T c) → Q (nI c) I' J (rf t)) : Mi 3 yX9_child (wm yX9_child cX9_child 5 (some .int)) [.ref (ad 0), .int (kd), .int (cr), .int (av), .int (rv)] ad I J (rf t) Q := by
  refine mi_of (own := RX9) yk_X9_child rfl (Nat.le_of_ble_eq_true rfl) rfl (fun X hA hnL C K E => ?_)
  subst hA
  refine z_aload_n (n := 1) C 0 dX9_child_0 rfl rfl ?_
  refine z_iload_n (n := 2) C 2 dX9_child_1 rfl rfl ?_
  refine z_vi_1 (n := 5) (d' := 1) C K dX9_child_2 rfl yk_X9_isCorner yv_X9_isCorner kM_RX9_128 (by decide) hR0 rfl rfl sh_0 (by decide) (by decide) ?_
  refine c_X9_isCorner ht hw.1 hn7 (fun b2 => ?_) (fun b2 => ?_)
  · refine z_ifT_ne (tgt := 10) C (by decide) dX9_child_5 rfl ?_
    refine z_iload_n (n := 11) C 1 dX9_child_10 rfl rfl ?_
    refine z_si_1 (n := 14) (d' := 2) C K dX9_child_11 rfl yk_X9_isKind kT_yX9_isKind kM_RX9_152 (by decide) hR0 rfl ?_
    refine c_X9_isKind (fun b11 => ?_) (fun b11 => ?_)
    · refine z_ifF_eq (n := 17) (tgt := 35) C (by decide) dX9_child_14 rfl rfl ?_
      refine z_iload_n (n := 18) C 3 dX9_child_17 rfl rfl ?_
      refine z_si_1 (n := 21) (d' := 2) C K dX9_child_18 rfl yk_X9_isAge kT_yX9_isAge kM_RX9_155 (by decide) hR0 rfl ?_
      refine c_X9_isAge (fun b18 => ?_) (fun b18 => ?_)
      · refine z_ifF_eq (n := 24) (tgt := 35) C (by decide) dX9_child_21 rfl rfl ?_
        refine z_iload (n := 26) C 4 dX9_child_24 rfl rfl ?_
        refine z_iconst (n := 27) (v := 0) C dX9_child_26 rfl rfl ?_
        refine z_bipush (n := 29) (v := 60) C dX9_child_27 rfl rfl ?_
        refine z_si_3 (n := 32) (d' := 1) C K dX9_child_29 rfl yk_X9_isWithin kT_yX9_isWithin kM_RX9_131 (by decide) hR0 rfl ?_
        refine c_inB (lo := 0) (hi := 60) (by decide) (by decide) (fun b29 => ?_) (fun b29 => ?_)
        · refine z_ifT_ne (tgt := 38) C (by decide) dX9_child_32 rfl ?_
          refine z_aload_n (n := 39) C 0 dX9_child_38 rfl rfl ?_
          refine z_getI (n := 42) C K fF_RX9_40 dX9_child_39 rfl sh_0 (by decide) ?_
          refine z_bipush (n := 44) (v := 10) C dX9_child_42 rfl rfl ?_
          refine z_icmp_lt (tgt := 50) (n := 47) C dX9_child_44 rfl rfl (fun c44 => ?_) (fun c44 => ?_)
          · rw [hk.1, fa_lt, nI_toInt (by have := ok.1; omega)] at c44
            simp only [Int32.reduceToInt] at c44
            have hc10 : c < 10 := by omega
            have hnone : childR n c kd cr av rv = none := by
              unfold childR
              rw [if_neg (fun q => q b2), if_neg (fun q => q ⟨b11, b18, b29⟩), if_neg (by omega)]
            obtain ⟨k, hk3, rfl⟩ := isB_of (h := 2) b11
            obtain ⟨o, ho, rfl⟩ := isN_of b2
            obtain ⟨a, ha, rfl⟩ := i_natlt (n := 12) (x := av) (by have := b18.1; omega) (by have := b18.2; omega)
            obtain ⟨r2, hr2, rfl⟩ := isB_of (h := 60) b29
            have ha4 : 4 ≤ a := by have := b18.1; rw [nI_toInt (by omega)] at this; omega
            refine z_aload_n (n := 51) C 0 dX9_child_50 rfl rfl ?_
            refine z_getR (n := 54) (q := 48) C K fF_RX9_36 dX9_child_51 rfl rfl sh_0 (by decide) rfl ?_
            refine z_aload_n (n := 55) C 0 dX9_child_54 rfl rfl ?_
            refine z_getI (n := 58) C K fF_RX9_40 dX9_child_55 rfl sh_0 (by decide) ?_
            refine z_aaldN (n := 59) (q := (75 + c)) (ci := 0) C K c dX9_child_58 rfl (by decide) sh_48 (by decide) hk.1 hc10 (by decide) (rf_children hc10) ?_
            refine z_iload_n (n := 60) C 1 dX9_child_59 rfl rfl ?_
            refine z_iload_n (n := 61) C 2 dX9_child_60 rfl rfl ?_
            refine z_iload_n (n := 62) C 3 dX9_child_61 rfl rfl ?_
            refine z_iload (n := 64) C 4 dX9_child_62 rfl rfl ?_
            refine z_vv_4 (n := 67) (d' := 1) C K dX9_child_64 rfl yk_X0_become yv_X0_become kM_RX9_158 (by decide) hR0 rfl rfl (sh_child hc10) (by decide) (lt_child hc10) ?_
            refine c_X0_become hc10 ?_
            refine z_aload_n (n := 68) C 0 dX9_child_67 rfl rfl ?_
            refine z_dup (n := 69) C dX9_child_68 rfl rfl ?_
            refine z_getI (n := 72) C K fF_RX9_40 dX9_child_69 rfl sh_0 (by decide) ?_
            refine z_iconst (n := 73) (v := 1) C dX9_child_72 rfl rfl ?_
            refine z_iadd (n := 74) C dX9_child_73 rfl ?_
            refine z_putI (n := 77) C K fF_RX9_40 dX9_child_74 rfl sh_0 (by decide) ?_
            refine z_aload_n (n := 78) C 0 dX9_child_77 rfl rfl ?_
            refine z_getI (n := 81) C K fF_RX9_40 dX9_child_78 rfl sh_0 (by decide) ?_
            refine z_iconst (n := 82) (v := 1) C dX9_child_81 rfl rfl ?_
            refine z_isub (n := 83) C dX9_child_82 rfl ?_
            refine z_iret C E dX9_child_83 ?_
            refine eqQ (y := nI c) ?_ (hS hnone k o a r2 rfl rfl rfl rfl (by omega) ho ha4 (by omega) hr2 hc10 _ (fun q h0 h1 => ?_) (fun j hj => ?_) ⟨?_, fun x hx => ?_⟩)
            · rw [upI_same, upI_p _ _ (by omega), upI_p _ _ (by omega), upI_p _ _ (by omega), upI_p _ _ (by omega), upI_p _ _ (by omega), upI_p _ _ (by omega), hk.1, nI_1, nI_pred]
            · funext j
              rw [upI_p _ _ h0, upI_p _ _ (by omega), upI_p _ _ (by omega), upI_p _ _ (by omega), upI_p _ _ (by omega), upI_p _ _ (by omega), upI_p _ _ (by omega)]
            · rw [upI_k _ _ hj, upI_p _ _ (by omega), upI_p _ _ (by omega), upI_p _ _ (by omega), upI_p _ _ (by omega), upI_p _ _ (by omega), upI_p _ _ (by omega)]
            · rw [upI_same, upI_p _ _ (by omega), upI_p _ _ (by omega), upI_p _ _ (by omega), upI_p _ _ (by omega), upI_p _ _ (by omega), upI_p _ _ (by omega), hk.1, nI_1]
            · rw [upI_row _ _ (show 75 + x ≠ 0 by omega)]
              by_cases hxc : x = c
              · subst hxc
                simp only [fu_same, tm_new0 (T := T) (c := x) (v := 1) (by decide), tm_new0 (T := T) (c := x) (v := 2) (by decide)]
                refine ⟨?_, ?_, ?_, ?_, ?_, ?_⟩ <;> simp [upI] <;> rfl
              · have hx2 : x < c := by omega
                rw [upI_row _ _ (by omega), upI_row _ _ (by omega), upI_row _ _ (by omega), upI_row _ _ (by omega), upI_row _ _ (by omega), upI_row _ _ (by omega), fu_ne _ _ hxc, fu_ne _ _ hxc, fu_ne _ _ hxc, fu_ne _ _ hxc, tm_new hx2 (by decide), tm_new hx2 (by decide)]
                exact hk.2 x hx2
          · refine z_bipush (n := 49) (v := (-4)) C dX9_child_47 rfl rfl ?_
            refine z_iret C E dX9_child_49 ?_
            rw [hk.1, fa_lt, nI_toInt (by have := ok.1; omega)] at c44
            simp only [Int32.reduceToInt] at c44
            exact hR _ (by
              unfold childR
              rw [if_neg (fun q => q b2), if_neg (fun q => q ⟨b11, b18, b29⟩), if_pos (by have := ok.1; omega)])
        · refine z_ifF_ne (n := 35) (tgt := 38) C (by decide) dX9_child_32 rfl rfl ?_
          refine z_bipush (n := 37) (v := (-2)) C dX9_child_35 rfl rfl ?_
          refine z_iret C E dX9_child_37 ?_
          exact hR _ (by
            unfold childR
            rw [if_neg (fun q => q b2), if_pos (fun q => by first | exact b11 q.1 | exact b18 q.2.1 | exact b29 q.2.2)])
      · refine z_ifT_eq (tgt := 35) C (by decide) dX9_child_21 rfl ?_
        refine z_bipush (n := 37) (v := (-2)) C dX9_child_35 rfl rfl ?_
        refine z_iret C E dX9_child_37 ?_
        exact hR _ (by
          unfold childR
          rw [if_neg (fun q => q b2), if_pos (fun q => by first | exact b11 q.1 | exact b18 q.2.1 | exact b29 q.2.2)])
    · refine z_ifT_eq (tgt := 35) C (by decide) dX9_child_14 rfl ?_
      refine z_bipush (n := 37) (v := (-2)) C dX9_child_35 rfl rfl ?_
      refine z_iret C E dX9_child_37 ?_
      exact hR _ (by
        unfold childR
        rw [if_neg (fun q => q b2), if_pos (fun q => by first | exact b11 q.1 | exact b18 q.2.1 | exact b29 q.2.2)])
  · refine z_ifF_ne (n := 8) (tgt := 10) C (by decide) dX9_child_5 rfl rfl ?_
    refine z_iconst (n := 9) (v := (-1)) C dX9_child_8 rfl rfl ?_
    refine z_iret C E dX9_child_9 ?_
    exact hR _ (by unfold childR; rw [if_pos b2])
