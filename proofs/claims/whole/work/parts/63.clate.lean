set_option maxHeartbeats 4000000 in
set_option maxRecDepth 100000 in
theorem c_X9_hasWalked {ad : Nat → Nat} {I : KI} {J : KJ} {t : Nat} (ht : Tw t) {n r s : Nat} {rd : Nat → Nat → Nat} (hw : cTw t I n r s rd) (ok : okTw n r s rd) {C0 : Nat → Nat → Nat} (hc : okW n r rd C0) (hW : cWy t I n r rd C0) {c : Nat} {ki co ag re : Nat → Nat} {T : Nat → Nat → Nat} (hk : cKd I c ki co ag re T) (okk : okKd n c ki co ag re T) (hz : cZs I J) {cc k i m set a mm : Nat} (hk4 : k < 4) (hct : I (67 + 2 * k) 2 = nI cc) (hcc : cc ≤ 100) (him : i + m ≤ cc) (hset : set < 2 ^ c) (ha : a < n) (hm2 : mm ≤ 200) {Q : Int32 → KI → KJ → KR → Prop} (h1 : ∀ I' J', (∀ q, ¬ (50 ≤ q ∧ q ≤ 54) → I' q = I q) → (∀ q, q ≠ 54 → q ≠ 55 → J' q = J q) → (lnWk c s C0 co ki ag (fun j => I (68 + 2 * k) (i + j)) set a m = true) → cMn I' J' (stpL r rd C0 (rdG set c co re) (pcG set c co ki ag) s (ogS (fun j => I (68 + 2 * k) (i + j)) m) a 1) mm → Q 1 I' J' (rf t)) (h0 : ∀ I', (∀ q, ¬ (50 ≤ q ∧ q ≤ 54) → I' q = I q) → I' 54 = I 54 → ¬ (lnWk c s C0 co ki ag (fun j => I (68 + 2 * k) (i + j)) set a m = true) → Q 0 I' J (rf t)) : Mi 4 yX9_hasWalked (wm yX9_hasWalked cX9_hasWalked 7 (some .boolean)) [.ref (ad 0), .int (nI set), .int (nI a), .int (nI mm), .ref (ad (67 + 2 * k)), .int (nI i), .int (nI m)] ad I J (rf t) Q := by
  refine mi_of (own := RX9) yk_X9_hasWalked rfl (Nat.le_of_ble_eq_true rfl) rfl (fun X hA hnL C K E => ?_)
  subst hA
  have hn7 := ok.1
  have htq := ht
  unfold Tw at htq
  refine z_aload_n (n := 1) C 0 dX9_hasWalked_0 rfl rfl ?_
  refine z_getR (n := 4) (q := 49) C K fF_RX9_47 dX9_hasWalked_1 rfl rfl sh_0 (by decide) rfl ?_
  refine z_getR (n := 7) (q := 50) C K fF_RX9_240 dX9_hasWalked_4 rfl rfl sh_49 (by decide) rfl ?_
  refine z_aload_n (n := 8) C 0 dX9_hasWalked_7 rfl rfl ?_
  refine z_getR (n := 11) (q := 48) C K fF_RX9_36 dX9_hasWalked_8 rfl rfl sh_0 (by decide) rfl ?_
  refine z_iload_n (n := 12) C 1 dX9_hasWalked_11 rfl rfl ?_
  refine z_vv_2 (n := 15) (d' := 3) C K dX9_hasWalked_12 rfl yk_X1_gather yv_X1_gather kM_RX9_361 (by decide) hR0 rfl rfl sh_50 (by decide) (by decide) ?_
  refine c_X1_gather hk okk hn7 hset (fun I1 hf1 hG1 => ?_)
  have ecd : (fun j => I1 (68 + 2 * k) (i + j)) = (fun j => I (68 + 2 * k) (i + j)) := by rw [hf1 (68 + 2 * k) (by omega)]
  have hpb := pcG_le set c co ki ag
  refine z_aload_n (n := 16) C 0 dX9_hasWalked_15 rfl rfl ?_
  refine z_getR (n := 19) (q := 49) C K fF_RX9_47 dX9_hasWalked_16 rfl rfl sh_0 (by decide) rfl ?_
  refine z_getR (n := 22) (q := 50) C K fF_RX9_240 dX9_hasWalked_19 rfl rfl sh_49 (by decide) rfl ?_
  refine z_aload (n := 24) C 4 dX9_hasWalked_22 rfl rfl ?_
  refine z_iload (n := 26) C 5 dX9_hasWalked_24 rfl rfl ?_
  refine z_iload (n := 28) C 6 dX9_hasWalked_26 rfl rfl ?_
  refine z_vi_3 (n := 31) (d' := 3) C K dX9_hasWalked_28 rfl yk_X1_orderBy yv_X1_orderBy kM_RX9_365 (by decide) hR0 rfl rfl sh_50 (by decide) (by decide) ?_
  refine c_X1_orderBy hk4 hcc (by rw [hf1 (67 + 2 * k) (by omega)]; exact hct) him hpb hG1 (gL_len _ 7) (fun I2 hf2 em hod hG2 => ?_) (fun I2 hf2 hno => ?_)
  all_goals rw [ecd] at *
  · refine z_ifF_eq (n := 34) (tgt := 49) C (by decide) dX9_hasWalked_31 rfl rfl ?_
    have hfa : ∀ q, ¬ (50 ≤ q ∧ q ≤ 54) → I2 q = I q := fun q hq => by rw [hf2 q (by omega)]; exact hf1 q (by omega)
    have hw2 : cTw t I2 n r s rd := hw.fr (fun q q1 q2 => hfa q (by omega))
    have hW2 : cWy t I2 n r rd C0 := hW.fr hn7 (fun q q1 q2 => hfa q (by omega))
    have hlen := ogS_len (fun j => I (68 + 2 * k) (i + j)) m
    have hl7 := gL_len (pcG set c co ki ag) 7
    have hmem : ∀ x, x ∈ ogS (fun j => I (68 + 2 * k) (i + j)) m → x < n := fun x hx => ogS_lt okk hod hx
    refine z_aload_n (n := 35) C 0 dX9_hasWalked_34 rfl rfl ?_
    refine z_getR (n := 38) (q := 49) C K fF_RX9_47 dX9_hasWalked_35 rfl rfl sh_0 (by decide) rfl ?_
    refine z_aload_n (n := 39) C 0 dX9_hasWalked_38 rfl rfl ?_
    refine z_getR (n := 42) (q := t) C K fF_RX9_27 dX9_hasWalked_39 rfl rfl sh_0 (by decide) rfl ?_
    refine z_iload_n (n := 43) C 2 dX9_hasWalked_42 rfl rfl ?_
    refine z_vi_2 (n := 46) (d' := 2) C K dX9_hasWalked_43 rfl yk_X2_isWalkable yv_X2_isWalkable kM_RX9_369 (by decide) hR0 rfl rfl sh_49 (by decide) (by decide) ?_
    refine c_X2_isWalkable ht hw2 ok hc hW2 hG2 (by omega) hmem ha (fun b43 => ?_) (fun b43 => ?_)
    · refine z_ifT_ne (tgt := 51) C (by decide) dX9_hasWalked_46 rfl ?_
      refine z_aload_n (n := 52) C 0 dX9_hasWalked_51 rfl rfl ?_
      refine z_getR (n := 55) (q := 49) C K fF_RX9_47 dX9_hasWalked_52 rfl rfl sh_0 (by decide) rfl ?_
      refine z_aload_n (n := 56) C 0 dX9_hasWalked_55 rfl rfl ?_
      refine z_getR (n := 59) (q := t) C K fF_RX9_27 dX9_hasWalked_56 rfl rfl sh_0 (by decide) rfl ?_
      refine z_iload_n (n := 60) C 2 dX9_hasWalked_59 rfl rfl ?_
      refine z_iload_n (n := 61) C 3 dX9_hasWalked_60 rfl rfl ?_
      refine z_vv_3 (n := 64) (d' := 3) C K dX9_hasWalked_61 rfl yk_X2_walk yv_X2_walk kM_RX9_373 (by decide) hR0 rfl rfl sh_49 (by decide) (by decide) ?_
      refine c_X2_walk (hz.fr (by rw [hf2 54 (by decide)]; exact hf1 54 (by omega)) rfl) ht hw2 ok hc hW2 hG2 (by omega) hmem hpb (fun g => rdG_le (fun x hx => (okk.2.1 x hx).2.2.2.2) g) ha b43 hm2 (fun I3 J3 hf3 hg3 hM3 => ?_)
      refine z_iconst (n := 65) (v := 1) C dX9_hasWalked_64 rfl rfl ?_
      refine z_zret C E dX9_hasWalked_65 (by decide) ?_
      exact h1 I3 J3 (fun q hq => by rw [hf3 q (by omega)]; exact hfa q hq) hg3 (lnWk_t.mpr ⟨em, hod, b43⟩) hM3
    · refine z_ifF_ne (n := 49) (tgt := 51) C (by decide) dX9_hasWalked_46 rfl rfl ?_
      refine z_iconst (n := 50) (v := 0) C dX9_hasWalked_49 rfl rfl ?_
      refine z_zret C E dX9_hasWalked_50 (by decide) ?_
      exact h0 I2 hfa (by rw [hf2 54 (by decide)]; exact hf1 54 (by omega)) (fun q => b43 (lnWk_t.mp q).2.2)
  · refine z_ifT_eq (tgt := 49) C (by decide) dX9_hasWalked_31 rfl ?_
    refine z_iconst (n := 50) (v := 0) C dX9_hasWalked_49 rfl rfl ?_
    refine z_zret C E dX9_hasWalked_50 (by decide) ?_
    exact h0 I2 (fun q hq => by rw [hf2 q (by omega)]; exact hf1 q (by omega)) (by rw [hf2 54 (by decide)]; exact hf1 54 (by omega)) (fun q => hno ⟨(lnWk_t.mp q).1, (lnWk_t.mp q).2.1⟩)
theorem eqL {Q : Int64 → KI → KJ → KR → Prop} {x y : Int64} {I : KI} {J : KJ} {Rf : KR} (h : x = y) (q : Q y I J Rf) : Q x I J Rf := h ▸ q
set_option maxHeartbeats 4000000 in
set_option maxRecDepth 100000 in
theorem c_X9_late {ad : Nat → Nat} {I : KI} {J : KJ} {t : Nat} (ht : Tw t) {n r s : Nat} {rd : Nat → Nat → Nat} (hw : cTw t I n r s rd) (ok : okTw n r s rd) {C0 : Nat → Nat → Nat} (hc : okW n r rd C0) (hW : cWy t I n r rd C0) {c : Nat} {ki co ag re : Nat → Nat} {T : Nat → Nat → Nat} (hk : cKd I c ki co ag re T) (okk : okKd n c ki co ag re T) {th : Nat → Bool} {so ct : Nat → Nat} {ce : Nat → Nat → Int32} (hs : cSh I th so ct ce) (oks : okSh so ct) (hz : cZs I J) {setv cov mv bv kv sov iv nv qv : Int32} {Q : Int64 → KI → KJ → KR → Prop} (hR : ∀ f I', lnA n c s C0 co ki ag th so ct (cdC I kv iv) setv cov kv sov iv nv (lateB mv bv qv) = .inl f → (∀ q, q ≠ 0 → ¬ (50 ≤ q ∧ q ≤ 54) → I' q = I q) → (∀ j, j ≠ 13 → I' 0 j = I 0 j) → I' 0 13 = nI f → cZs I' J → Q (-9223372036854775808) I' J (rf t)) (hS : ∀ og I' J', lnA n c s C0 co ki ag th so ct (cdC I kv iv) setv cov kv sov iv nv (lateB mv bv qv) = .inr og → (∀ q, q ≠ 0 → ¬ (50 ≤ q ∧ q ≤ 54) → I' q = I q) → (∀ j, j ≠ 13 → I' 0 j = I 0 j) → I' 0 13 = 0 → (∀ q, q ≠ 54 → q ≠ 55 → J' q = J q) → cZs I' J' → Q (lateV (lnP r s rd C0 c co ki ag re setv cov og) mv bv qv) I' J' (rf t)) : Ml 5 yX9_late (wm yX9_late cX9_late 10 (some .long)) [.ref (ad 0), .int (setv), .int (cov), .int (mv), .int (bv), .int (kv), .int (sov), .int (iv), .int (nv), .int (qv)] ad I J (rf t) Q := by
  refine ml_of (own := RX9) yk_X9_late rfl (Nat.le_of_ble_eq_true rfl) rfl (fun X hA hnL C K E => ?_)
  subst hA
  refine z_aload_n (n := 1) C 0 dX9_late_0 rfl rfl ?_
  refine z_iconst (n := 2) (v := 0) C dX9_late_1 rfl rfl ?_
  refine z_putI (n := 5) C K fF_RX9_78 dX9_late_2 rfl sh_0 (by decide) ?_
  have hn7 := ok.1
  have htq := ht
  unfold Tw at htq
  have hw1 : cTw t (upI I 0 13 0) n r s rd := hw.fr (fun q q1 q2 => upI_row _ _ (by omega))
  have hW1 : cWy t (upI I 0 13 0) n r rd C0 := hW.fr hn7 (fun q q1 q2 => upI_row _ _ (by omega))
  have hk1 : cKd (upI I 0 13 0) c ki co ag re T := hk.fr okk.1 (upI_k _ _ (by decide)) (fun q q1 q2 => upI_row _ _ (by omega))
  have hz1 : cZs (upI I 0 13 0) J := hz.fr (upI_row _ _ (by decide)) rfl
  refine z_iload (n := 7) C 5 dX9_late_5 rfl rfl ?_
  refine z_si_1 (n := 10) (d' := 2) C K dX9_late_7 rfl yk_X9_isSheet kT_yX9_isSheet kM_RX9_92 (by decide) hR0 rfl ?_
  refine c_X9_isSheet (fun b7 => ?_) (fun b7 => ?_)
  · refine z_ifF_eq (n := 13) (tgt := 29) C (by decide) dX9_late_10 rfl rfl ?_
    refine z_aload_n (n := 14) C 0 dX9_late_13 rfl rfl ?_
    refine z_iload_n (n := 15) C 2 dX9_late_14 rfl rfl ?_
    refine z_vi_1 (n := 18) (d' := 1) C K dX9_late_15 rfl yk_X9_isCorner yv_X9_isCorner kM_RX9_128 (by decide) hR0 rfl rfl sh_0 (by decide) (by decide) ?_
    refine c_X9_isCorner ht hw1.1 ok.1 (fun b15 => ?_) (fun b15 => ?_)
    · refine z_ifF_eq (n := 21) (tgt := 29) C (by decide) dX9_late_18 rfl rfl ?_
      refine z_iload (n := 23) C 6 dX9_late_21 rfl rfl ?_
      refine z_si_1 (n := 26) (d' := 2) C K dX9_late_23 rfl yk_X9_isSort kT_yX9_isSort kM_RX9_96 (by decide) hR0 rfl ?_
      refine c_X9_isSort (fun b23 => ?_) (fun b23 => ?_)
      · refine z_ifT_ne (tgt := 33) C (by decide) dX9_late_26 rfl ?_
        refine z_aload_n (n := 34) C 0 dX9_late_33 rfl rfl ?_
        refine z_iload_n (n := 35) C 1 dX9_late_34 rfl rfl ?_
        refine z_vi_1 (n := 38) (d' := 1) C K dX9_late_35 rfl yk_X9_isSet yv_X9_isSet kM_RX9_200 (by decide) hR0 rfl rfl sh_0 (by decide) (by decide) ?_
        refine c_X9_isSet hk1.1 okk.1 (fun b35 => ?_) (fun b35 => ?_)
        · refine z_ifF_eq (n := 41) (tgt := 66) C (by decide) dX9_late_38 rfl rfl ?_
          refine z_iload_n (n := 42) C 3 dX9_late_41 rfl rfl ?_
          refine z_si_1 (n := 45) (d' := 2) C K dX9_late_42 rfl yk_X9_isMinute kT_yX9_isMinute kM_RX9_203 (by decide) hR0 rfl ?_
          refine c_X9_isMinute (fun b42 => ?_) (fun b42 => ?_)
          · refine z_ifF_eq (n := 48) (tgt := 66) C (by decide) dX9_late_45 rfl rfl ?_
            refine z_iload (n := 50) C 4 dX9_late_48 rfl rfl ?_
            refine z_si_1 (n := 53) (d' := 2) C K dX9_late_50 rfl yk_X9_isMinute kT_yX9_isMinute kM_RX9_203 (by decide) hR0 rfl ?_
            refine c_X9_isMinute (fun b50 => ?_) (fun b50 => ?_)
            · refine z_ifF_eq (n := 56) (tgt := 66) C (by decide) dX9_late_53 rfl rfl ?_
              refine z_iload (n := 58) C 9 dX9_late_56 rfl rfl ?_
              refine z_iconst (n := 59) (v := 0) C dX9_late_58 rfl rfl ?_
              refine z_iconst (n := 60) (v := 1) C dX9_late_59 rfl rfl ?_
              refine z_si_3 (n := 63) (d' := 1) C K dX9_late_60 rfl yk_X9_isWithin kT_yX9_isWithin kM_RX9_131 (by decide) hR0 rfl ?_
              refine c_inB (lo := 0) (hi := 1) (by decide) (by decide) (fun b60 => ?_) (fun b60 => ?_)
              · refine z_ifT_ne (tgt := 70) C (by decide) dX9_late_63 rfl ?_
                have hOk : lnOk n c setv cov kv sov (lateB mv bv qv) := ⟨b7, b15, b23, (isSB_t okk.1).mpr b35, decide_eq_true (⟨b42, b50, b60⟩ : isB 0 200 mv ∧ isB 0 200 bv ∧ isB 0 1 qv)⟩
                obtain ⟨k, hk3, rfl⟩ := isB_of (h := 3) b7
                have hk4 : k < 4 := by omega
                have hzk := (hs.fa (j := 13) (v := 0)) k hk4
                have hok := oks k hk4
                refine z_aload_n (n := 71) C 0 dX9_late_70 rfl rfl ?_
                refine z_aload_n (n := 72) C 0 dX9_late_71 rfl rfl ?_
                refine z_getR (n := 75) (q := 1) C K fF_RX9_13 dX9_late_72 rfl rfl sh_0 (by decide) rfl ?_
                refine z_iload (n := 77) C 5 dX9_late_75 rfl rfl ?_
                refine z_aaldN (n := 78) (q := (67 + 2 * k)) (ci := 1) C K k dX9_late_77 rfl (by decide) sh_1 (by decide) rfl hk4 (by decide) (rf_sheets hk4) ?_
                refine z_iload (n := 80) C 6 dX9_late_78 rfl rfl ?_
                refine z_iload (n := 82) C 7 dX9_late_80 rfl rfl ?_
                refine z_iload (n := 84) C 8 dX9_late_82 rfl rfl ?_
                refine z_vi_3 (n := 87) (d' := 2) C K dX9_late_84 rfl yk_X6_rowFault yv_X6_rowFault kM_RX9_99 (by decide) hR0 rfl rfl (sh_sheet hk4) (by decide) (lt_sheet hk4) ?_
                refine c_X6_rowFault hk4 hzk.1 hzk.2.1 hok.2 hzk.2.2.1 ?_
                refine z_putI (n := 90) C K fF_RX9_78 dX9_late_87 rfl sh_0 (by decide) ?_
                refine z_aload_n (n := 91) C 0 dX9_late_90 rfl rfl ?_
                refine z_getI (n := 94) C K fF_RX9_78 dX9_late_91 rfl sh_0 (by decide) ?_
                rw [upI_same]
                refine z_if_ne (tgt := 118) (n := 97) C dX9_late_94 rfl rfl (fun c94 => ?_) (fun c94 => ?_)
                · refine z_ldc2 (n := 121) C dX9_late_118 kK_RX9_198 rfl ?_
                  refine z_lret C E dX9_late_121 ?_
                  rw [upI_upI]
                  exact hR _ _ (lnA_2 hk4 hOk (fun e => c94 (by rw [e]; rfl))) (fun q h0 _ => upI_row _ _ h0) (fun j hj => upI_k _ _ hj) (upI_same _ _ _ _) (hz.fr (upI_row _ _ (by decide)) rfl)
                · rw [upI_upI]
                  have hr0 : rfS (th k) (so k) (ct k) sov iv nv = 0 := nI_inj (b := 0) c94 (by have := rfS_le (th k) (so k) (ct k) sov iv nv; omega) (by decide)
                  rw [hr0]
                  obtain ⟨hi0, hn0, hin⟩ := rfS_0 hr0
                  obtain ⟨i, hi31, rfl⟩ := i_nat hi0
                  obtain ⟨m, hm31, rfl⟩ := i_nat hn0
                  rw [nI_toInt hi31, nI_toInt hm31] at hin
                  obtain ⟨set, hset0, hset, rfl⟩ := b35
                  obtain ⟨a, ha, rfl⟩ := isN_of b15
                  obtain ⟨mm, hmm, rfl⟩ := isB_of (h := 200) b42
                  obtain ⟨bl, hbl, rfl⟩ := isB_of (h := 200) b50
                  have h1024 : 2 ^ c ≤ 2 ^ 10 := Nat.pow_le_pow_right (by decide) okk.1
                  refine z_aload_n (n := 98) C 0 dX9_late_97 rfl rfl ?_
                  refine z_iload_n (n := 99) C 1 dX9_late_98 rfl rfl ?_
                  refine z_iload_n (n := 100) C 2 dX9_late_99 rfl rfl ?_
                  refine z_iload_n (n := 101) C 3 dX9_late_100 rfl rfl ?_
                  refine z_aload_n (n := 102) C 0 dX9_late_101 rfl rfl ?_
                  refine z_getR (n := 105) (q := 1) C K fF_RX9_13 dX9_late_102 rfl rfl sh_0 (by decide) rfl ?_
                  refine z_iload (n := 107) C 5 dX9_late_105 rfl rfl ?_
                  refine z_aaldN (n := 108) (q := (67 + 2 * k)) (ci := 1) C K k dX9_late_107 rfl (by decide) sh_1 (by decide) rfl hk4 (by decide) (rf_sheets hk4) ?_
                  refine z_iload (n := 110) C 7 dX9_late_108 rfl rfl ?_
                  refine z_iload (n := 112) C 8 dX9_late_110 rfl rfl ?_
                  refine z_vi_6 (n := 115) (d' := 4) C K dX9_late_112 rfl yk_X9_hasWalked yv_X9_hasWalked kM_RX9_206 (by decide) hR0 rfl rfl sh_0 (by decide) (by decide) ?_
                  refine c_X9_hasWalked (I := upI I 0 13 (nI 0)) ht hw1 ok hc hW1 hk1 okk hz1 hk4 hzk.2.2.1 hok.2 (by omega) hset ha hmm (fun I3 J3 hf1 hg1 hyes hM => ?_) (fun I3 hf1 h54 hno => ?_)
                  all_goals rw [upI_row I _ (show 68 + 2 * k ≠ 0 by omega)] at *
                  · refine z_ifT_ne (tgt := 122) C (by decide) dX9_late_115 rfl ?_
                    obtain ⟨em, hod, hwb⟩ := lnWk_t.mp hyes
                    have hsn : s < n := ok.2.2.1 (by omega)
                    have hmem : ∀ x, x ∈ ogS (fun j => I (68 + 2 * k) (i + j)) m → x < n := fun x hx => ogS_lt okk hod hx
                    have hl7 := gatesOf_len c co ki ag set
                    obtain ⟨fc, fo, ft⟩ := stpL_fact (rdy := rdG set c co re) hn7 ok.2.2.2 hc hsn (pcG_le set c co ki ag) (fun g => rdG_le (fun x hx => (okk.2.1 x hx).2.2.2.2) g) _ a 1 hmem ha (by decide) (wkB_t.mp hwb).1
                    have hcr := (wkB_t.mp hwb).2
                    rw [← fc] at hcr
                    have htm := ft mm
                    rw [ogS_len] at htm
                    have hz3 := hM.z hcr
                    have hp15 := p10_le hcr
                    refine z_aload_n (n := 123) C 0 dX9_late_122 rfl rfl ?_
                    refine z_getR (n := 126) (q := 49) C K fF_RX9_47 dX9_late_123 rfl rfl sh_0 (by decide) rfl ?_
                    refine z_getR (n := 129) (q := 54) C K fF_RX9_210 dX9_late_126 rfl rfl sh_49 (by decide) rfl ?_
                    refine z_iload (n := 131) C 4 dX9_late_129 rfl rfl ?_
                    refine z_vl_1 (n := 134) (d' := 1) C K dX9_late_131 rfl yk_X3_casesBehind yv_X3_casesBehind kM_RX9_214 (by decide) hR0 rfl rfl sh_54 (by decide) (by decide) ?_
                    refine c_X3_casesBehind hcr (by omega) hM hbl ?_
                    refine z_aload_n (n := 135) C 0 dX9_late_134 rfl rfl ?_
                    refine z_getR (n := 138) (q := 49) C K fF_RX9_47 dX9_late_135 rfl rfl sh_0 (by decide) rfl ?_
                    refine z_getR (n := 141) (q := 54) C K fF_RX9_210 dX9_late_138 rfl rfl sh_49 (by decide) rfl ?_
                    refine z_getJ (n := 144) C K fF_RX9_220 dX9_late_141 rfl sh_54 (by decide) ?_
                    rw [(show J3 54 3 = lN (10 ^ crs (stpL r rd C0 (rdG set c co re) (pcG set c co ki ag) s (ogS (fun j => I (68 + 2 * k) (i + j)) m) a 1)) by obtain ⟨f, e, s, h1, h2, h3, h4⟩ := hM; exact h3)]
                    refine z_iload (n := 146) C 9 dX9_late_144 rfl rfl ?_
                    refine z_sl_3 (n := 149) (d' := 2) C K dX9_late_146 rfl yk_X9_partOfShare kT_yX9_partOfShare kM_RX9_224 (by decide) hR0 rfl ?_
                    have hle := ev_le (h := ltS bl) (c := 1) _ fo mm (fun t _ => by unfold ltS; split <;> omega)
                    refine c_X9_partOfShare (by omega) (Nat.pow_pos (by decide)) (by omega) ?_
                    refine z_lret C E dX9_late_149 ?_
                    refine eqL ?_ (hS _ I3 J3 (lnA_3 hk4 hm31 (by omega) (by omega) hOk hr0 (cdC_nI I hk4 hi31 ▸ hyes)) (fun q h0 h5 => by rw [hf1 q h5, upI_row _ _ h0]) (fun j hj => by rw [hf1 0 (by omega), upI_k _ _ hj]) (by rw [hf1 0 (by omega), upI_same]; rfl) hg1 hz3)
                    unfold lateV lnP
                    rw [cdC_nI I hk4 hi31, nI_clamp (show set < 2 ^ 31 by omega), nI_clamp (show a < 2 ^ 31 by omega), nI_clamp (show mm < 2 ^ 31 by omega), nI_clamp (show bl < 2 ^ 31 by omega)]
                  · refine z_ifF_ne (n := 118) (tgt := 122) C (by decide) dX9_late_115 rfl rfl ?_
                    refine z_ldc2 (n := 121) C dX9_late_118 kK_RX9_198 rfl ?_
                    refine z_lret C E dX9_late_121 ?_
                    exact hR 0 _ (lnA_4 hk4 hm31 (by omega) (by omega) hOk hr0 (cdC_nI I hk4 hi31 ▸ hno)) (fun q h0 h5 => by rw [hf1 q h5, upI_row _ _ h0]) (fun j hj => by rw [hf1 0 (by omega), upI_k _ _ hj]) (by rw [hf1 0 (by omega), upI_same]) (hz1.fr h54 rfl)
              · refine z_ifF_ne (n := 66) (tgt := 70) C (by decide) dX9_late_63 rfl rfl ?_
                refine z_ldc2 (n := 69) C dX9_late_66 kK_RX9_198 rfl ?_
                refine z_lret C E dX9_late_69 ?_
                exact hR 0 _ (lnA_1 (fun q => b60 (of_decide_eq_true q.2.2.2.2).2.2)) (fun q h0 _ => upI_row _ _ h0) (fun j hj => upI_k _ _ hj) (upI_same _ _ _ _) hz1
            · refine z_ifT_eq (tgt := 66) C (by decide) dX9_late_53 rfl ?_
              refine z_ldc2 (n := 69) C dX9_late_66 kK_RX9_198 rfl ?_
              refine z_lret C E dX9_late_69 ?_
              exact hR 0 _ (lnA_1 (fun q => b50 (of_decide_eq_true q.2.2.2.2).2.1)) (fun q h0 _ => upI_row _ _ h0) (fun j hj => upI_k _ _ hj) (upI_same _ _ _ _) hz1
          · refine z_ifT_eq (tgt := 66) C (by decide) dX9_late_45 rfl ?_
            refine z_ldc2 (n := 69) C dX9_late_66 kK_RX9_198 rfl ?_
            refine z_lret C E dX9_late_69 ?_
            exact hR 0 _ (lnA_1 (fun q => b42 (of_decide_eq_true q.2.2.2.2).1)) (fun q h0 _ => upI_row _ _ h0) (fun j hj => upI_k _ _ hj) (upI_same _ _ _ _) hz1
        · refine z_ifT_eq (tgt := 66) C (by decide) dX9_late_38 rfl ?_
          refine z_ldc2 (n := 69) C dX9_late_66 kK_RX9_198 rfl ?_
          refine z_lret C E dX9_late_69 ?_
          exact hR 0 _ (lnA_1 (fun q => b35 ((isSB_t okk.1).mp q.2.2.2.1))) (fun q h0 _ => upI_row _ _ h0) (fun j hj => upI_k _ _ hj) (upI_same _ _ _ _) hz1
      · refine z_ifF_ne (n := 29) (tgt := 33) C (by decide) dX9_late_26 rfl rfl ?_
        refine z_ldc2 (n := 32) C dX9_late_29 kK_RX9_198 rfl ?_
        refine z_lret C E dX9_late_32 ?_
        exact hR 0 _ (lnA_1 (fun q => b23 q.2.2.1)) (fun q h0 _ => upI_row _ _ h0) (fun j hj => upI_k _ _ hj) (upI_same _ _ _ _) hz1
    · refine z_ifT_eq (tgt := 29) C (by decide) dX9_late_18 rfl ?_
      refine z_ldc2 (n := 32) C dX9_late_29 kK_RX9_198 rfl ?_
      refine z_lret C E dX9_late_32 ?_
      exact hR 0 _ (lnA_1 (fun q => b15 q.2.1)) (fun q h0 _ => upI_row _ _ h0) (fun j hj => upI_k _ _ hj) (upI_same _ _ _ _) hz1
  · refine z_ifT_eq (tgt := 29) C (by decide) dX9_late_10 rfl ?_
    refine z_ldc2 (n := 32) C dX9_late_29 kK_RX9_198 rfl ?_
    refine z_lret C E dX9_late_32 ?_
    exact hR 0 _ (lnA_1 (fun q => b7 q.1)) (fun q h0 _ => upI_row _ _ h0) (fun j hj => upI_k _ _ hj) (upI_same _ _ _ _) hz1
set_option maxHeartbeats 4000000 in
set_option maxRecDepth 100000 in
theorem c_X9_mean {ad : Nat → Nat} {I : KI} {J : KJ} {t : Nat} (ht : Tw t) {n r s : Nat} {rd : Nat → Nat → Nat} (hw : cTw t I n r s rd) (ok : okTw n r s rd) {C0 : Nat → Nat → Nat} (hc : okW n r rd C0) (hW : cWy t I n r rd C0) {c : Nat} {ki co ag re : Nat → Nat} {T : Nat → Nat → Nat} (hk : cKd I c ki co ag re T) (okk : okKd n c ki co ag re T) {th : Nat → Bool} {so ct : Nat → Nat} {ce : Nat → Nat → Int32} (hs : cSh I th so ct ce) (oks : okSh so ct) (hz : cZs I J) {setv cov mv kv sov iv nv qv : Int32} {Q : Int64 → KI → KJ → KR → Prop} (hR : ∀ f I', lnA n c s C0 co ki ag th so ct (cdC I kv iv) setv cov kv sov iv nv (meanB mv qv) = .inl f → (∀ q, q ≠ 0 → ¬ (50 ≤ q ∧ q ≤ 54) → I' q = I q) → (∀ j, j ≠ 13 → I' 0 j = I 0 j) → I' 0 13 = nI f → cZs I' J → Q (-9223372036854775808) I' J (rf t)) (hS : ∀ og I' J', lnA n c s C0 co ki ag th so ct (cdC I kv iv) setv cov kv sov iv nv (meanB mv qv) = .inr og → (∀ q, q ≠ 0 → ¬ (50 ≤ q ∧ q ≤ 54) → I' q = I q) → (∀ j, j ≠ 13 → I' 0 j = I 0 j) → I' 0 13 = 0 → (∀ q, q ≠ 54 → q ≠ 55 → J' q = J q) → cZs I' J' → Q (meanV (lnP r s rd C0 c co ki ag re setv cov og) mv qv) I' J' (rf t)) : Ml 5 yX9_mean (wm yX9_mean cX9_mean 9 (some .long)) [.ref (ad 0), .int (setv), .int (cov), .int (mv), .int (kv), .int (sov), .int (iv), .int (nv), .int (qv)] ad I J (rf t) Q := by
  refine ml_of (own := RX9) yk_X9_mean rfl (Nat.le_of_ble_eq_true rfl) rfl (fun X hA hnL C K E => ?_)
  subst hA
  refine z_aload_n (n := 1) C 0 dX9_mean_0 rfl rfl ?_
  refine z_iconst (n := 2) (v := 0) C dX9_mean_1 rfl rfl ?_
  refine z_putI (n := 5) C K fF_RX9_78 dX9_mean_2 rfl sh_0 (by decide) ?_
  have hn7 := ok.1
  have htq := ht
  unfold Tw at htq
  have hw1 : cTw t (upI I 0 13 0) n r s rd := hw.fr (fun q q1 q2 => upI_row _ _ (by omega))
  have hW1 : cWy t (upI I 0 13 0) n r rd C0 := hW.fr hn7 (fun q q1 q2 => upI_row _ _ (by omega))
  have hk1 : cKd (upI I 0 13 0) c ki co ag re T := hk.fr okk.1 (upI_k _ _ (by decide)) (fun q q1 q2 => upI_row _ _ (by omega))
  have hz1 : cZs (upI I 0 13 0) J := hz.fr (upI_row _ _ (by decide)) rfl
  refine z_iload (n := 7) C 4 dX9_mean_5 rfl rfl ?_
  refine z_si_1 (n := 10) (d' := 2) C K dX9_mean_7 rfl yk_X9_isSheet kT_yX9_isSheet kM_RX9_92 (by decide) hR0 rfl ?_
  refine c_X9_isSheet (fun b7 => ?_) (fun b7 => ?_)
  · refine z_ifF_eq (n := 13) (tgt := 29) C (by decide) dX9_mean_10 rfl rfl ?_
    refine z_aload_n (n := 14) C 0 dX9_mean_13 rfl rfl ?_
    refine z_iload_n (n := 15) C 2 dX9_mean_14 rfl rfl ?_
    refine z_vi_1 (n := 18) (d' := 1) C K dX9_mean_15 rfl yk_X9_isCorner yv_X9_isCorner kM_RX9_128 (by decide) hR0 rfl rfl sh_0 (by decide) (by decide) ?_
    refine c_X9_isCorner ht hw1.1 ok.1 (fun b15 => ?_) (fun b15 => ?_)
    · refine z_ifF_eq (n := 21) (tgt := 29) C (by decide) dX9_mean_18 rfl rfl ?_
      refine z_iload (n := 23) C 5 dX9_mean_21 rfl rfl ?_
      refine z_si_1 (n := 26) (d' := 2) C K dX9_mean_23 rfl yk_X9_isSort kT_yX9_isSort kM_RX9_96 (by decide) hR0 rfl ?_
      refine c_X9_isSort (fun b23 => ?_) (fun b23 => ?_)
      · refine z_ifT_ne (tgt := 33) C (by decide) dX9_mean_26 rfl ?_
        refine z_aload_n (n := 34) C 0 dX9_mean_33 rfl rfl ?_
        refine z_iload_n (n := 35) C 1 dX9_mean_34 rfl rfl ?_
        refine z_vi_1 (n := 38) (d' := 1) C K dX9_mean_35 rfl yk_X9_isSet yv_X9_isSet kM_RX9_200 (by decide) hR0 rfl rfl sh_0 (by decide) (by decide) ?_
        refine c_X9_isSet hk1.1 okk.1 (fun b35 => ?_) (fun b35 => ?_)
        · refine z_ifF_eq (n := 41) (tgt := 58) C (by decide) dX9_mean_38 rfl rfl ?_
          refine z_iload_n (n := 42) C 3 dX9_mean_41 rfl rfl ?_
          refine z_si_1 (n := 45) (d' := 2) C K dX9_mean_42 rfl yk_X9_isMinute kT_yX9_isMinute kM_RX9_203 (by decide) hR0 rfl ?_
          refine c_X9_isMinute (fun b42 => ?_) (fun b42 => ?_)
          · refine z_ifF_eq (n := 48) (tgt := 58) C (by decide) dX9_mean_45 rfl rfl ?_
            refine z_iload (n := 50) C 8 dX9_mean_48 rfl rfl ?_
            refine z_iconst (n := 51) (v := 0) C dX9_mean_50 rfl rfl ?_
            refine z_iconst (n := 52) (v := 1) C dX9_mean_51 rfl rfl ?_
            refine z_si_3 (n := 55) (d' := 1) C K dX9_mean_52 rfl yk_X9_isWithin kT_yX9_isWithin kM_RX9_131 (by decide) hR0 rfl ?_
            refine c_inB (lo := 0) (hi := 1) (by decide) (by decide) (fun b52 => ?_) (fun b52 => ?_)
            · refine z_ifT_ne (tgt := 62) C (by decide) dX9_mean_55 rfl ?_
              have hOk : lnOk n c setv cov kv sov (meanB mv qv) := ⟨b7, b15, b23, (isSB_t okk.1).mpr b35, decide_eq_true (⟨b42, b52⟩ : isB 0 200 mv ∧ isB 0 1 qv)⟩
              obtain ⟨k, hk3, rfl⟩ := isB_of (h := 3) b7
              have hk4 : k < 4 := by omega
              have hzk := (hs.fa (j := 13) (v := 0)) k hk4
              have hok := oks k hk4
              refine z_aload_n (n := 63) C 0 dX9_mean_62 rfl rfl ?_
              refine z_aload_n (n := 64) C 0 dX9_mean_63 rfl rfl ?_
              refine z_getR (n := 67) (q := 1) C K fF_RX9_13 dX9_mean_64 rfl rfl sh_0 (by decide) rfl ?_
              refine z_iload (n := 69) C 4 dX9_mean_67 rfl rfl ?_
              refine z_aaldN (n := 70) (q := (67 + 2 * k)) (ci := 1) C K k dX9_mean_69 rfl (by decide) sh_1 (by decide) rfl hk4 (by decide) (rf_sheets hk4) ?_
              refine z_iload (n := 72) C 5 dX9_mean_70 rfl rfl ?_
              refine z_iload (n := 74) C 6 dX9_mean_72 rfl rfl ?_
              refine z_iload (n := 76) C 7 dX9_mean_74 rfl rfl ?_
              refine z_vi_3 (n := 79) (d' := 2) C K dX9_mean_76 rfl yk_X6_rowFault yv_X6_rowFault kM_RX9_99 (by decide) hR0 rfl rfl (sh_sheet hk4) (by decide) (lt_sheet hk4) ?_
              refine c_X6_rowFault hk4 hzk.1 hzk.2.1 hok.2 hzk.2.2.1 ?_
              refine z_putI (n := 82) C K fF_RX9_78 dX9_mean_79 rfl sh_0 (by decide) ?_
              refine z_aload_n (n := 83) C 0 dX9_mean_82 rfl rfl ?_
              refine z_getI (n := 86) C K fF_RX9_78 dX9_mean_83 rfl sh_0 (by decide) ?_
              rw [upI_same]
              refine z_if_ne (tgt := 110) (n := 89) C dX9_mean_86 rfl rfl (fun c86 => ?_) (fun c86 => ?_)
              · refine z_ldc2 (n := 113) C dX9_mean_110 kK_RX9_198 rfl ?_
                refine z_lret C E dX9_mean_113 ?_
                rw [upI_upI]
                exact hR _ _ (lnA_2 hk4 hOk (fun e => c86 (by rw [e]; rfl))) (fun q h0 _ => upI_row _ _ h0) (fun j hj => upI_k _ _ hj) (upI_same _ _ _ _) (hz.fr (upI_row _ _ (by decide)) rfl)
              · rw [upI_upI]
                have hr0 : rfS (th k) (so k) (ct k) sov iv nv = 0 := nI_inj (b := 0) c86 (by have := rfS_le (th k) (so k) (ct k) sov iv nv; omega) (by decide)
                rw [hr0]
                obtain ⟨hi0, hn0, hin⟩ := rfS_0 hr0
                obtain ⟨i, hi31, rfl⟩ := i_nat hi0
                obtain ⟨m, hm31, rfl⟩ := i_nat hn0
                rw [nI_toInt hi31, nI_toInt hm31] at hin
                obtain ⟨set, hset0, hset, rfl⟩ := b35
                obtain ⟨a, ha, rfl⟩ := isN_of b15
                obtain ⟨mm, hmm, rfl⟩ := isB_of (h := 200) b42
                have h1024 : 2 ^ c ≤ 2 ^ 10 := Nat.pow_le_pow_right (by decide) okk.1
                refine z_aload_n (n := 90) C 0 dX9_mean_89 rfl rfl ?_
                refine z_iload_n (n := 91) C 1 dX9_mean_90 rfl rfl ?_
                refine z_iload_n (n := 92) C 2 dX9_mean_91 rfl rfl ?_
                refine z_iload_n (n := 93) C 3 dX9_mean_92 rfl rfl ?_
                refine z_aload_n (n := 94) C 0 dX9_mean_93 rfl rfl ?_
                refine z_getR (n := 97) (q := 1) C K fF_RX9_13 dX9_mean_94 rfl rfl sh_0 (by decide) rfl ?_
                refine z_iload (n := 99) C 4 dX9_mean_97 rfl rfl ?_
                refine z_aaldN (n := 100) (q := (67 + 2 * k)) (ci := 1) C K k dX9_mean_99 rfl (by decide) sh_1 (by decide) rfl hk4 (by decide) (rf_sheets hk4) ?_
                refine z_iload (n := 102) C 6 dX9_mean_100 rfl rfl ?_
                refine z_iload (n := 104) C 7 dX9_mean_102 rfl rfl ?_
                refine z_vi_6 (n := 107) (d' := 4) C K dX9_mean_104 rfl yk_X9_hasWalked yv_X9_hasWalked kM_RX9_206 (by decide) hR0 rfl rfl sh_0 (by decide) (by decide) ?_
                refine c_X9_hasWalked (I := upI I 0 13 (nI 0)) ht hw1 ok hc hW1 hk1 okk hz1 hk4 hzk.2.2.1 hok.2 (by omega) hset ha hmm (fun I3 J3 hf1 hg1 hyes hM => ?_) (fun I3 hf1 h54 hno => ?_)
                all_goals rw [upI_row I _ (show 68 + 2 * k ≠ 0 by omega)] at *
                · refine z_ifT_ne (tgt := 114) C (by decide) dX9_mean_107 rfl ?_
                  obtain ⟨em, hod, hwb⟩ := lnWk_t.mp hyes
                  have hsn : s < n := ok.2.2.1 (by omega)
                  have hmem : ∀ x, x ∈ ogS (fun j => I (68 + 2 * k) (i + j)) m → x < n := fun x hx => ogS_lt okk hod hx
                  have hl7 := gatesOf_len c co ki ag set
                  obtain ⟨fc, fo, ft⟩ := stpL_fact (rdy := rdG set c co re) hn7 ok.2.2.2 hc hsn (pcG_le set c co ki ag) (fun g => rdG_le (fun x hx => (okk.2.1 x hx).2.2.2.2) g) _ a 1 hmem ha (by decide) (wkB_t.mp hwb).1
                  have hcr := (wkB_t.mp hwb).2
                  rw [← fc] at hcr
                  have htm := ft mm
                  rw [ogS_len] at htm
                  have hz3 := hM.z hcr
                  have hp15 := p10_le hcr
                  refine z_aload_n (n := 115) C 0 dX9_mean_114 rfl rfl ?_
                  refine z_getR (n := 118) (q := 49) C K fF_RX9_47 dX9_mean_115 rfl rfl sh_0 (by decide) rfl ?_
                  refine z_getR (n := 121) (q := 54) C K fF_RX9_210 dX9_mean_118 rfl rfl sh_49 (by decide) rfl ?_
                  refine z_vl_0 (n := 124) (d' := 1) C K dX9_mean_121 rfl yk_X3_sumOverCases yv_X3_sumOverCases kM_RX9_228 (by decide) hR0 rfl rfl sh_54 (by decide) (by decide) ?_
                  refine c_X3_sumOverCases hcr (by omega) hM ?_
                  refine z_aload_n (n := 125) C 0 dX9_mean_124 rfl rfl ?_
                  refine z_getR (n := 128) (q := 49) C K fF_RX9_47 dX9_mean_125 rfl rfl sh_0 (by decide) rfl ?_
                  refine z_getR (n := 131) (q := 54) C K fF_RX9_210 dX9_mean_128 rfl rfl sh_49 (by decide) rfl ?_
                  refine z_getJ (n := 134) C K fF_RX9_220 dX9_mean_131 rfl sh_54 (by decide) ?_
                  rw [(show J3 54 3 = lN (10 ^ crs (stpL r rd C0 (rdG set c co re) (pcG set c co ki ag) s (ogS (fun j => I (68 + 2 * k) (i + j)) m) a 1)) by obtain ⟨f, e, s, h1, h2, h3, h4⟩ := hM; exact h3)]
                  refine z_iload (n := 136) C 8 dX9_mean_134 rfl rfl ?_
                  refine z_sl_3 (n := 139) (d' := 2) C K dX9_mean_136 rfl yk_X9_partOfShare kT_yX9_partOfShare kM_RX9_224 (by decide) hR0 rfl ?_
                  have hle := ev_le (h := fun t => t) (c := 7000) _ fo mm (fun t ht7 => by show t ≤ 7000; omega)
                  refine c_X9_partOfShare (by omega) (Nat.pow_pos (by decide)) (by omega) ?_
                  refine z_lret C E dX9_mean_139 ?_
                  refine eqL ?_ (hS _ I3 J3 (lnA_3 hk4 hm31 (by omega) (by omega) hOk hr0 (cdC_nI I hk4 hi31 ▸ hyes)) (fun q h0 h5 => by rw [hf1 q h5, upI_row _ _ h0]) (fun j hj => by rw [hf1 0 (by omega), upI_k _ _ hj]) (by rw [hf1 0 (by omega), upI_same]; rfl) hg1 hz3)
                  unfold meanV lnP
                  rw [cdC_nI I hk4 hi31, nI_clamp (show set < 2 ^ 31 by omega), nI_clamp (show a < 2 ^ 31 by omega), nI_clamp (show mm < 2 ^ 31 by omega)]
                · refine z_ifF_ne (n := 110) (tgt := 114) C (by decide) dX9_mean_107 rfl rfl ?_
                  refine z_ldc2 (n := 113) C dX9_mean_110 kK_RX9_198 rfl ?_
                  refine z_lret C E dX9_mean_113 ?_
                  exact hR 0 _ (lnA_4 hk4 hm31 (by omega) (by omega) hOk hr0 (cdC_nI I hk4 hi31 ▸ hno)) (fun q h0 h5 => by rw [hf1 q h5, upI_row _ _ h0]) (fun j hj => by rw [hf1 0 (by omega), upI_k _ _ hj]) (by rw [hf1 0 (by omega), upI_same]) (hz1.fr h54 rfl)
            · refine z_ifF_ne (n := 58) (tgt := 62) C (by decide) dX9_mean_55 rfl rfl ?_
              refine z_ldc2 (n := 61) C dX9_mean_58 kK_RX9_198 rfl ?_
              refine z_lret C E dX9_mean_61 ?_
              exact hR 0 _ (lnA_1 (fun q => b52 (of_decide_eq_true q.2.2.2.2).2)) (fun q h0 _ => upI_row _ _ h0) (fun j hj => upI_k _ _ hj) (upI_same _ _ _ _) hz1
          · refine z_ifT_eq (tgt := 58) C (by decide) dX9_mean_45 rfl ?_
            refine z_ldc2 (n := 61) C dX9_mean_58 kK_RX9_198 rfl ?_
            refine z_lret C E dX9_mean_61 ?_
            exact hR 0 _ (lnA_1 (fun q => b42 (of_decide_eq_true q.2.2.2.2).1)) (fun q h0 _ => upI_row _ _ h0) (fun j hj => upI_k _ _ hj) (upI_same _ _ _ _) hz1
        · refine z_ifT_eq (tgt := 58) C (by decide) dX9_mean_38 rfl ?_
          refine z_ldc2 (n := 61) C dX9_mean_58 kK_RX9_198 rfl ?_
          refine z_lret C E dX9_mean_61 ?_
          exact hR 0 _ (lnA_1 (fun q => b35 ((isSB_t okk.1).mp q.2.2.2.1))) (fun q h0 _ => upI_row _ _ h0) (fun j hj => upI_k _ _ hj) (upI_same _ _ _ _) hz1
      · refine z_ifF_ne (n := 29) (tgt := 33) C (by decide) dX9_mean_26 rfl rfl ?_
        refine z_ldc2 (n := 32) C dX9_mean_29 kK_RX9_198 rfl ?_
        refine z_lret C E dX9_mean_32 ?_
        exact hR 0 _ (lnA_1 (fun q => b23 q.2.2.1)) (fun q h0 _ => upI_row _ _ h0) (fun j hj => upI_k _ _ hj) (upI_same _ _ _ _) hz1
    · refine z_ifT_eq (tgt := 29) C (by decide) dX9_mean_18 rfl ?_
      refine z_ldc2 (n := 32) C dX9_mean_29 kK_RX9_198 rfl ?_
      refine z_lret C E dX9_mean_32 ?_
      exact hR 0 _ (lnA_1 (fun q => b15 q.2.1)) (fun q h0 _ => upI_row _ _ h0) (fun j hj => upI_k _ _ hj) (upI_same _ _ _ _) hz1
  · refine z_ifT_eq (tgt := 29) C (by decide) dX9_mean_10 rfl ?_
    refine z_ldc2 (n := 32) C dX9_mean_29 kK_RX9_198 rfl ?_
    refine z_lret C E dX9_mean_32 ?_
    exact hR 0 _ (lnA_1 (fun q => b7 q.1)) (fun q h0 _ => upI_row _ _ h0) (fun j hj => upI_k _ _ hj) (upI_same _ _ _ _) hz1
