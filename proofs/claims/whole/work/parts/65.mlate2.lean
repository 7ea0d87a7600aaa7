theorem m10k (k : Nat) (h : k < 5) (h0 : 0 < k) : (-10 : Int32) - (-10 - nI k) = nI k := by
  have : ∀ k : Nat, k < 5 → 0 < k → (-10 : Int32) - (-10 - nI k) = nI k := by decide
  exact this k h h0
theorem m10n (k : Nat) (h : k < 5) (h0 : 0 < k) : ¬ (-10 : Int32) ≤ -10 - nI k := by
  have : ∀ k : Nat, k < 5 → 0 < k → ¬ (-10 : Int32) ≤ -10 - nI k := by decide
  exact this k h h0
theorem rfS_lt5 (th : Bool) (so c : Nat) (w i n : Int32) : rfS th so c w i n < 5 := by have := rfS_le th so c w i n; omega
set_option maxHeartbeats 4000000 in
set_option maxRecDepth 100000 in
theorem c_X10_late {ad : Nat → Nat} {I : KI} {J : KJ} {t : Nat} {n r s : Nat} {rd : Nat → Nat → Nat} (hw : mTw I n r s rd) (ok : okTw n r s rd) {C0 : Nat → Nat → Nat} (hc : okW n r rd C0) (hW : mWy I n C0) {c : Nat} {ki co ag re : Nat → Nat} {T : Nat → Nat → Nat} (hk : mKd I c ki co ag re T) (okk : okKd n c ki co ag re T) {th : Nat → Bool} {so ct : Nat → Nat} {ce : Nat → Nat → Int32} (hs : mSh I th so ct ce) (oks : okSh so ct) {setv cov mv bv kv sov iv nv qv : Int32} {cd : Nat → Int32} (hcd : ∀ k i m : Nat, kv = nI k → k < 4 → iv = nI i → nv = nI m → i + m ≤ 100 → ∀ j, j < m → ce k (i + j) = cd j)  {Q : Int64 → KI → KJ → KR → Prop} (hR : ∀ f I', lnA n c s C0 co ki ag th so ct cd setv cov kv sov iv nv (lateB mv bv qv) = .inl f → (∀ q, q ≠ 85 → q ≠ 102 → I' q = I q) → (∀ j, j ≠ 0 → j ≠ 27 → j ≠ 28 → I' 85 j = I 85 j) → I' 85 0 = nI f → Q (-9223372036854775808) I' J (rf t)) (hS : ∀ og I' J', lnA n c s C0 co ki ag th so ct cd setv cov kv sov iv nv (lateB mv bv qv) = .inr og → (∀ q, q ≠ 85 → q ≠ 102 → I' q = I q) → (∀ j, j ≠ 0 → j ≠ 27 → j ≠ 28 → I' 85 j = I 85 j) → I' 85 0 = 0 → (∀ q, q ≠ 101 → J' q = J q) → Q (lateV (lnP r s rd C0 c co ki ag re setv cov og) mv bv qv) I' J' (rf t)) : Ml 5 yX10_late (wm yX10_late cX10_late 11 (some .long)) [.ref (ad 85), .int (setv), .int (cov), .int (mv), .int (bv), .int (kv), .int (sov), .int (iv), .int (nv), .int (qv)] ad I J (rf t) Q := by
  refine ml_of (own := RX10) yk_X10_late rfl (Nat.le_of_ble_eq_true rfl) rfl (fun X hA hnL C K E => ?_)
  subst hA
  refine z_aload_n (n := 1) C 0 dX10_late_0 rfl rfl ?_
  refine z_iconst (n := 2) (v := 0) C dX10_late_1 rfl rfl ?_
  refine z_putI (n := 5) C K fF_RX10_87 dX10_late_2 rfl sh_85 (by decide) ?_
  have hn7 := ok.1
  have hw1 : mTw (upI I 85 0 0) n r s rd := hw.fr (upI_k _ _ (by decide)) (upI_k _ _ (by decide)) (upI_k _ _ (by decide)) (fun q q1 q2 => upI_row _ _ (by omega))
  have hW1 : mWy (upI I 85 0 0) n C0 := hW.fr (upI_row _ _ (by decide))
  have hk1 : mKd (upI I 85 0 0) c ki co ag re T := hk.fr (upI_k _ _ (by decide)) (fun q q1 q2 => upI_row _ _ (by omega))
  have hs1 : mSh (upI I 85 0 0) th so ct ce := hs.fa
  refine z_iload (n := 7) C 5 dX10_late_5 rfl rfl ?_
  refine z_si_1 (n := 10) (d' := 2) C K dX10_late_7 rfl yk_X10_isSheet kT_yX10_isSheet kM_RX10_99 (by decide) hR0 rfl ?_
  refine c_X10_isSheet (fun b7 => ?_) (fun b7 => ?_)
  · refine z_ifF_eq (n := 13) (tgt := 21) C (by decide) dX10_late_10 rfl rfl ?_
    refine z_aload_n (n := 14) C 0 dX10_late_13 rfl rfl ?_
    refine z_iload_n (n := 15) C 2 dX10_late_14 rfl rfl ?_
    refine z_vi_1 (n := 18) (d' := 1) C K dX10_late_15 rfl yk_X10_isCorner yv_X10_isCorner kM_RX10_159 (by decide) hR0 rfl rfl sh_85 (by decide) (by decide) ?_
    refine c_X10_isCorner hw1.1 ok.1 (fun b15 => ?_) (fun b15 => ?_)
    · refine z_ifT_ne (tgt := 25) C (by decide) dX10_late_18 rfl ?_
      refine z_iload (n := 27) C 6 dX10_late_25 rfl rfl ?_
      refine z_si_1 (n := 30) (d' := 2) C K dX10_late_27 rfl yk_X10_isSort kT_yX10_isSort kM_RX10_103 (by decide) hR0 rfl ?_
      refine c_X10_isSort (fun b27 => ?_) (fun b27 => ?_)
      · refine z_ifF_eq (n := 33) (tgt := 74) C (by decide) dX10_late_30 rfl rfl ?_
        refine z_aload_n (n := 34) C 0 dX10_late_33 rfl rfl ?_
        refine z_iload_n (n := 35) C 1 dX10_late_34 rfl rfl ?_
        refine z_vi_1 (n := 38) (d' := 1) C K dX10_late_35 rfl yk_X10_isSet yv_X10_isSet kM_RX10_217 (by decide) hR0 rfl rfl sh_85 (by decide) (by decide) ?_
        refine c_X10_isSet hk1.1 okk.1 (fun b35 => ?_) (fun b35 => ?_)
        · refine z_ifF_eq (n := 41) (tgt := 74) C (by decide) dX10_late_38 rfl rfl ?_
          refine z_iload_n (n := 42) C 3 dX10_late_41 rfl rfl ?_
          refine z_iconst (n := 43) (v := 0) C dX10_late_42 rfl rfl ?_
          refine z_sipush (n := 46) (v := 200) C dX10_late_43 rfl rfl ?_
          refine z_si_3 (n := 49) (d' := 1) C K dX10_late_46 rfl yk_X10_within kT_yX10_within kM_RX10_92 (by decide) hR0 rfl ?_
          refine m_inB (lo := 0) (hi := 200) (by decide) (by decide) (fun b46 => ?_) (fun b46 => ?_)
          · refine z_ifF_eq (n := 52) (tgt := 74) C (by decide) dX10_late_49 rfl rfl ?_
            refine z_iload (n := 54) C 4 dX10_late_52 rfl rfl ?_
            refine z_iconst (n := 55) (v := 0) C dX10_late_54 rfl rfl ?_
            refine z_sipush (n := 58) (v := 200) C dX10_late_55 rfl rfl ?_
            refine z_si_3 (n := 61) (d' := 1) C K dX10_late_58 rfl yk_X10_within kT_yX10_within kM_RX10_92 (by decide) hR0 rfl ?_
            refine m_inB (lo := 0) (hi := 200) (by decide) (by decide) (fun b58 => ?_) (fun b58 => ?_)
            · refine z_ifF_eq (n := 64) (tgt := 74) C (by decide) dX10_late_61 rfl rfl ?_
              refine z_iload (n := 66) C 9 dX10_late_64 rfl rfl ?_
              refine z_iconst (n := 67) (v := 0) C dX10_late_66 rfl rfl ?_
              refine z_iconst (n := 68) (v := 1) C dX10_late_67 rfl rfl ?_
              refine z_si_3 (n := 71) (d' := 1) C K dX10_late_68 rfl yk_X10_within kT_yX10_within kM_RX10_92 (by decide) hR0 rfl ?_
              refine m_inB (lo := 0) (hi := 1) (by decide) (by decide) (fun b68 => ?_) (fun b68 => ?_)
              · refine z_ifT_ne (tgt := 78) C (by decide) dX10_late_71 rfl ?_
                have hOk : lnOk n c setv cov kv sov (lateB mv bv qv) := ⟨b7, b15, b27, (isSB_t okk.1).mpr b35, decide_eq_true (⟨b46, b58, b68⟩ : isB 0 200 mv ∧ isB 0 200 bv ∧ isB 0 1 qv)⟩
                obtain ⟨k, hk3, rfl⟩ := isB_of (h := 3) b7
                have hk4 : k < 4 := by omega
                obtain ⟨set, hset0, hset, rfl⟩ := b35
                obtain ⟨a, ha, rfl⟩ := isN_of b15
                obtain ⟨mm, hmm, rfl⟩ := isB_of (h := 200) b46
                obtain ⟨bl, hbl, rfl⟩ := isB_of (h := 200) b58
                have h1024 : 2 ^ c ≤ 2 ^ 10 := Nat.pow_le_pow_right (by decide) okk.1
                refine z_aload_n (n := 79) C 0 dX10_late_78 rfl rfl ?_
                refine z_iload_n (n := 80) C 1 dX10_late_79 rfl rfl ?_
                refine z_iload_n (n := 81) C 2 dX10_late_80 rfl rfl ?_
                refine z_iload (n := 83) C 5 dX10_late_81 rfl rfl ?_
                refine z_iload (n := 85) C 6 dX10_late_83 rfl rfl ?_
                refine z_iload (n := 87) C 7 dX10_late_85 rfl rfl ?_
                refine z_iload (n := 89) C 8 dX10_late_87 rfl rfl ?_
                refine z_vi_6 (n := 92) (d' := 3) C K dX10_late_89 rfl yk_X10_whyNotLine yv_X10_whyNotLine kM_RX10_220 (by decide) hR0 rfl rfl sh_85 (by decide) (by decide) ?_
                refine c_X10_whyNotLine (I := upI I 85 0 0) hw1 ok hc hW1 hk1 okk hs1 oks hk4 hset ha (cd := cd) (fun i m e1 e2 e3 => hcd k i m rfl hk4 e1 e2 e3) (fun wf => ?_) (fun v I2 wr wv wf1 wf2 wn => ?_) (fun I2 wr wf1 wf2 wy wG => ?_)
                · refine z_istore (n := 94) (L' := [(10, _), (0, _), (1, _), (2, _), (3, _), (4, _), (5, _), (6, _), (7, _), (8, _), (9, _)]) C dX10_late_92 rfl (by rw [hnL]; decide) rfl ?_
                  refine z_iload (n := 96) C 0 dX10_late_94 rfl rfl ?_
                  refine z_bipush (n := 98) (v := (-10)) C dX10_late_96 rfl rfl ?_
                  refine z_icmpF_ge (n := 101) (tgt := 111) C (m10n _ (rfS_lt5 (th k) (so k) (ct k) sov iv nv) (Nat.pos_of_ne_zero wf)) dX10_late_98 rfl rfl ?_
                  refine z_aload_n (n := 102) C 1 dX10_late_101 rfl rfl ?_
                  refine z_bipush (n := 104) (v := (-10)) C dX10_late_102 rfl rfl ?_
                  refine z_iload (n := 106) C 0 dX10_late_104 rfl rfl ?_
                  refine z_isub (n := 107) C dX10_late_106 rfl ?_
                  refine z_vl_1 (n := 110) (d' := 1) C K dX10_late_107 rfl yk_X10_lost yv_X10_lost kM_RX10_224 (by decide) hR0 rfl rfl sh_85 (by decide) (by decide) ?_
                  refine c_X10_lost ?_
                  refine z_lret C E dX10_late_110 ?_
                  rw [upI_upI]
                  exact hR _ _ (lnA_2 hk4 hOk wf) (fun q h0 _ => upI_row _ _ h0) (fun j hj _ _ => upI_k _ _ hj) (by rw [upI_same]; exact m10k _ (rfS_lt5 _ _ _ _ _ _) (Nat.pos_of_ne_zero wf))
                · refine z_istore (n := 94) (L' := [(10, _), (0, _), (1, _), (2, _), (3, _), (4, _), (5, _), (6, _), (7, _), (8, _), (9, _)]) C dX10_late_92 rfl (by rw [hnL]; decide) rfl ?_
                  refine z_iload (n := 96) C 0 dX10_late_94 rfl rfl ?_
                  refine z_bipush (n := 98) (v := (-10)) C dX10_late_96 rfl rfl ?_
                  refine z_icmpT_ge (tgt := 111) C (by rcases wv with rfl | rfl <;> decide) dX10_late_98 rfl ?_
                  refine z_iload (n := 113) C 0 dX10_late_111 rfl rfl ?_
                  refine z_ifF_eq (n := 116) (tgt := 120) C (by rcases wv with rfl | rfl <;> decide) dX10_late_113 rfl rfl ?_
                  refine z_ldc2 (n := 119) C dX10_late_116 kK_RX10_90 rfl ?_
                  refine z_lret C E dX10_late_119 ?_
                  obtain ⟨hi0, hn0, hin⟩ := rfS_0 wr
                  obtain ⟨i, hi31, rfl⟩ := i_nat hi0
                  obtain ⟨mq, hm31, rfl⟩ := i_nat hn0
                  rw [nI_clamp hm31] at wn
                  exact hR 0 I2 (lnA_4 hk4 hm31 (by omega) (by omega) hOk wr wn) (fun q h0 h5 => by rw [wf1 q h0 h5, upI_row _ _ h0]) (fun j hj hj2 _ => by rw [wf2 j hj2, upI_k _ _ hj]) (by rw [wf2 0 (by decide), upI_same]; rfl)
                · refine z_istore (n := 94) (L' := [(10, _), (0, _), (1, _), (2, _), (3, _), (4, _), (5, _), (6, _), (7, _), (8, _), (9, _)]) C dX10_late_92 rfl (by rw [hnL]; decide) rfl ?_
                  refine z_iload (n := 96) C 0 dX10_late_94 rfl rfl ?_
                  refine z_bipush (n := 98) (v := (-10)) C dX10_late_96 rfl rfl ?_
                  refine z_icmpT_ge (tgt := 111) C (by decide) dX10_late_98 rfl ?_
                  refine z_iload (n := 113) C 0 dX10_late_111 rfl rfl ?_
                  refine z_ifT_eq (tgt := 120) C (by decide) dX10_late_113 rfl ?_
                  obtain ⟨hi0, hn0, hin⟩ := rfS_0 wr
                  obtain ⟨i, hi31, rfl⟩ := i_nat hi0
                  obtain ⟨mq, hm31, rfl⟩ := i_nat hn0
                  rw [nI_toInt hi31, nI_toInt hm31] at hin
                  have hokk := oks k hk4
                  rw [nI_clamp hm31] at wy wG
                  obtain ⟨em, hod, hwb⟩ := lnWk_t.mp wy
                  have hsn : s < n := ok.2.2.1 (by omega)
                  have hmem : ∀ x, x ∈ ogS cd mq → x < n := fun x hx => ogS_lt okk hod hx
                  have hl7 := gatesOf_len c co ki ag set
                  have hln := ogS_len cd mq
                  obtain ⟨fc, fo, ft⟩ := stpL_fact (rdy := rdG set c co re) hn7 ok.2.2.2 hc hsn (pcG_le set c co ki ag) (fun g => rdG_le (fun x hx => (okk.2.1 x hx).2.2.2.2) g) _ a 1 hmem ha (by decide) (wkB_t.mp hwb).1
                  have hcr := (wkB_t.mp hwb).2
                  rw [← fc] at hcr
                  have htm := ft mm
                  rw [ogS_len] at htm
                  have hp15 := p10_le hcr
                  have hw2 : mTw I2 n r s rd := hw1.fr (wf2 5 (by decide)) (wf2 6 (by decide)) (wf2 7 (by decide)) (fun q q1 q2 => wf1 q (by omega) (by omega))
                  have hW2 : mWy I2 n C0 := hW1.fr (wf1 94 (by decide) (by decide))
                  have hk2 : mKd I2 c ki co ag re T := hk1.fr (wf2 19 (by decide)) (fun q q1 q2 => wf1 q (by omega) (by omega))
                  refine z_aload_n (n := 121) C 1 dX10_late_120 rfl rfl ?_
                  refine z_iload_n (n := 122) C 2 dX10_late_121 rfl rfl ?_
                  refine z_iload_n (n := 123) C 3 dX10_late_122 rfl rfl ?_
                  refine z_iload_n (n := 124) C 4 dX10_late_123 rfl rfl ?_
                  refine z_iload (n := 126) C 5 dX10_late_124 rfl rfl ?_
                  refine z_iconst (n := 127) (v := 1) C dX10_late_126 rfl rfl ?_
                  refine z_iadd (n := 128) C dX10_late_127 rfl ?_
                  rw [nI_1]
                  refine z_vv_4 (n := 131) (d' := 4) C K dX10_late_128 rfl yk_X10_goLine yv_X10_goLine kM_RX10_228 (by decide) hR0 rfl rfl sh_85 (by decide) (by decide) ?_
                  refine c_X10_goLine (N := bl + 1) hw2 ok hc hW2 hk2 okk wG (by omega) hmem (by omega) ha (wkB_t.mp hwb).1 (by omega) hmm (fun I3 J3 hf3 hf4 hg3 hM => ?_)
                  have hw3 : mTw I3 n r s rd := hw2.fr (hf4 5 (by decide)) (hf4 6 (by decide)) (hf4 7 (by decide)) (fun q q1 q2 => hf3 q (by omega))
                  have hW3 : mWy I3 n C0 := hW2.fr (hf3 94 (by decide))
                  have hG3 : mGt I3 (ogS cd mq) := wG.fr (hf4 27 (by decide)) (hf3 102 (by decide))
                  refine z_aload_n (n := 132) C 1 dX10_late_131 rfl rfl ?_
                  refine z_getR (n := 135) (q := 101) C K fF_RX10_55 dX10_late_132 rfl rfl sh_85 (by decide) rfl ?_
                  refine z_iload (n := 137) C 5 dX10_late_135 rfl rfl ?_
                  refine z_iconst (n := 138) (v := 1) C dX10_late_137 rfl rfl ?_
                  refine z_iadd (n := 139) C dX10_late_138 rfl ?_
                  rw [nI_1]
                  refine z_laldN (n := 140) C K (bl + 1) dX10_late_139 rfl sh_101 (by decide) rfl (by omega) (by decide) ?_
                  rw [mCh_last hM]
                  refine z_aload_n (n := 141) C 1 dX10_late_140 rfl rfl ?_
                  refine z_iload_n (n := 142) C 3 dX10_late_141 rfl rfl ?_
                  refine z_vi_1 (n := 145) (d' := 2) C K dX10_late_142 rfl yk_X10_crossingsOf yv_X10_crossingsOf kM_RX10_214 (by decide) hR0 rfl rfl sh_85 (by decide) (by decide) ?_
                  refine c_X10_crossingsOf hw3 ok hc hW3 hG3 (by omega) hmem ha (fun _ => ?_) (fun q => absurd (wkB_t.mp hwb).1 q)
                  rw [← fc]
                  refine z_sl_1 (n := 148) (d' := 1) C K dX10_late_145 rfl yk_X10_tens kT_yX10_tens kM_RX10_232 (by decide) hR0 rfl ?_
                  refine c_X10_tens (by omega) ?_
                  refine z_iload (n := 150) C 10 dX10_late_148 rfl rfl ?_
                  refine z_sl_3 (n := 153) (d' := 2) C K dX10_late_150 rfl yk_X10_part kT_yX10_part kM_RX10_235 (by decide) hR0 rfl ?_
                  have hle := ev_le (h := ltS bl) (c := 1) _ fo mm (fun t _ => by unfold ltS; split <;> omega)
                  refine c_X10_part (by omega) (Nat.pow_pos (by decide)) (by omega) ?_
                  refine z_lret C E dX10_late_153 ?_
                  refine eqL ?_ (hS _ I3 J3 (lnA_3 hk4 hm31 (by omega) (by omega) hOk wr wy) (fun q h0 h5 => by rw [hf3 q h0, wf1 q h0 h5, upI_row _ _ h0]) (fun j hj hj2 hj3 => by rw [hf4 j hj3, wf2 j hj2, upI_k _ _ hj]) (by rw [hf4 0 (by decide), wf2 0 (by decide), upI_same]) hg3)
                  unfold lateV lnP
                  rw [nI_clamp (show set < 2 ^ 31 by omega), nI_clamp (show a < 2 ^ 31 by omega), nI_clamp (show mm < 2 ^ 31 by omega), nI_clamp (show bl < 2 ^ 31 by omega)]
              · refine z_ifF_ne (n := 74) (tgt := 78) C (by decide) dX10_late_71 rfl rfl ?_
                refine z_ldc2 (n := 77) C dX10_late_74 kK_RX10_90 rfl ?_
                refine z_lret C E dX10_late_77 ?_
                exact hR 0 _ (lnA_1 (fun q => b68 (of_decide_eq_true q.2.2.2.2).2.2)) (fun q h0 _ => upI_row _ _ h0) (fun j hj _ _ => upI_k _ _ hj) (upI_same _ _ _ _)
            · refine z_ifT_eq (tgt := 74) C (by decide) dX10_late_61 rfl ?_
              refine z_ldc2 (n := 77) C dX10_late_74 kK_RX10_90 rfl ?_
              refine z_lret C E dX10_late_77 ?_
              exact hR 0 _ (lnA_1 (fun q => b58 (of_decide_eq_true q.2.2.2.2).2.1)) (fun q h0 _ => upI_row _ _ h0) (fun j hj _ _ => upI_k _ _ hj) (upI_same _ _ _ _)
          · refine z_ifT_eq (tgt := 74) C (by decide) dX10_late_49 rfl ?_
            refine z_ldc2 (n := 77) C dX10_late_74 kK_RX10_90 rfl ?_
            refine z_lret C E dX10_late_77 ?_
            exact hR 0 _ (lnA_1 (fun q => b46 (of_decide_eq_true q.2.2.2.2).1)) (fun q h0 _ => upI_row _ _ h0) (fun j hj _ _ => upI_k _ _ hj) (upI_same _ _ _ _)
        · refine z_ifT_eq (tgt := 74) C (by decide) dX10_late_38 rfl ?_
          refine z_ldc2 (n := 77) C dX10_late_74 kK_RX10_90 rfl ?_
          refine z_lret C E dX10_late_77 ?_
          exact hR 0 _ (lnA_1 (fun q => b35 ((isSB_t okk.1).mp q.2.2.2.1))) (fun q h0 _ => upI_row _ _ h0) (fun j hj _ _ => upI_k _ _ hj) (upI_same _ _ _ _)
      · refine z_ifT_eq (tgt := 74) C (by decide) dX10_late_30 rfl ?_
        refine z_ldc2 (n := 77) C dX10_late_74 kK_RX10_90 rfl ?_
        refine z_lret C E dX10_late_77 ?_
        exact hR 0 _ (lnA_1 (fun q => b27 q.2.2.1)) (fun q h0 _ => upI_row _ _ h0) (fun j hj _ _ => upI_k _ _ hj) (upI_same _ _ _ _)
    · refine z_ifF_ne (n := 21) (tgt := 25) C (by decide) dX10_late_18 rfl rfl ?_
      refine z_ldc2 (n := 24) C dX10_late_21 kK_RX10_90 rfl ?_
      refine z_lret C E dX10_late_24 ?_
      exact hR 0 _ (lnA_1 (fun q => b15 q.2.1)) (fun q h0 _ => upI_row _ _ h0) (fun j hj _ _ => upI_k _ _ hj) (upI_same _ _ _ _)
  · refine z_ifT_eq (tgt := 21) C (by decide) dX10_late_10 rfl ?_
    refine z_ldc2 (n := 24) C dX10_late_21 kK_RX10_90 rfl ?_
    refine z_lret C E dX10_late_24 ?_
    exact hR 0 _ (lnA_1 (fun q => b7 q.1)) (fun q h0 _ => upI_row _ _ h0) (fun j hj _ _ => upI_k _ _ hj) (upI_same _ _ _ _)
theorem i2l_7 {i : Nat} (h : i ≤ 7000) : (nI i).toInt64 = lN i := lN_i2l (by omega)
set_option maxHeartbeats 4000000 in
set_option maxRecDepth 100000 in
theorem l_X10_mean {X : KX} {t : Nat} (C : Cx X RX10 cX10_mean 5) (K : Kx X) (hnL : xnL X = 13) {I : KI} {J : KJ} {set a mm : Nat} {kv sov iv nv qv wv : Int32} {g : Nat → Nat} (hg : cA J 101 7001 g) (hN : Z X 0 0 (V X I J (rf t)) 154 [(10, .long (lN (sN (fun i => g i * i) 7001))), (0, .ref (xad X 85)), (1, .int (nI set)), (2, .int (nI a)), (3, .int (nI mm)), (4, .int kv), (5, .int sov), (6, .int iv), (7, .int nv), (8, .int qv), (9, .int wv)] []) : ∀ (f i : Nat), 7001 - i < f → i ≤ 7001 → Z X 0 0 (V X I J (rf t)) 124 [(12, .int (nI i)), (10, .long (lN (sN (fun i => g i * i) i))), (0, .ref (xad X 85)), (1, .int (nI set)), (2, .int (nI a)), (3, .int (nI mm)), (4, .int kv), (5, .int sov), (6, .int iv), (7, .int nv), (8, .int qv), (9, .int wv)] [] := by
  intro f
  induction f with
  | zero => intro i h; omega
  | succ f ih =>
    intro i hf hi

    refine z_iload (n := 126) C 0 dX10_mean_124 rfl rfl ?_
    refine z_sipush (n := 129) (v := 7000) C dX10_mean_126 rfl rfl ?_
    refine z_icmp_gt (tgt := 154) (n := 132) C dX10_mean_129 rfl rfl (fun c129 => ?_) (fun c129 => ?_)
    · refine z_sub (L' := [(10, _), (0, _), (1, _), (2, _), (3, _), (4, _), (5, _), (6, _), (7, _), (8, _), (9, _)]) [1, 2, 3, 4, 5, 6, 7, 8, 9, 10, 11] rfl ?_
      rw [fa_lt, nI_toInt (by omega)] at c129
      simp only [Int32.reduceToInt] at c129
      have e : i = 7001 := by omega
      subst e
      exact hN
    · rw [fa_lt, nI_toInt (by omega)] at c129
      simp only [Int32.reduceToInt] at c129
      refine z_lload (n := 134) C 1 dX10_mean_132 rfl rfl ?_
      refine z_aload_n (n := 135) C 2 dX10_mean_134 rfl rfl ?_
      refine z_getR (n := 138) (q := 101) C K fF_RX10_55 dX10_mean_135 rfl rfl sh_85 (by decide) rfl ?_
      refine z_iload (n := 140) C 0 dX10_mean_138 rfl rfl ?_
      refine z_laldN (n := 141) C K i dX10_mean_140 rfl sh_101 (by decide) rfl (by omega) (by decide) ?_
      rw [hg i (by omega)]
      refine z_iload (n := 143) C 0 dX10_mean_141 rfl rfl ?_
      refine z_i2l (n := 144) C dX10_mean_143 rfl ?_
      rw [lN_i2l (by omega)]
      refine z_lmul (n := 145) C dX10_mean_144 rfl ?_
      rw [lN_mul]
      refine z_ladd (n := 146) C dX10_mean_145 rfl ?_
      rw [lN_add, show sN (fun i => g i * i) i + g i * i = sN (fun i => g i * i) (i + 1) from rfl]
      refine z_lstore (n := 148) (L' := [(10, _), (12, _), (0, _), (1, _), (2, _), (3, _), (4, _), (5, _), (6, _), (7, _), (8, _), (9, _)]) C dX10_mean_146 rfl (by rw [hnL]; decide) rfl ?_
      refine z_iincG (n := 151) (c := 1) (L' := [(12, _), (10, _), (0, _), (1, _), (2, _), (3, _), (4, _), (5, _), (6, _), (7, _), (8, _), (9, _)]) C 1 dX10_mean_148 rfl rfl rfl (by rw [hnL]; decide) rfl ?_
      refine z_goto (n := 124) C dX10_mean_151 rfl ?_
      rw [nI_1]
      exact ih (i + 1) (by omega) (by omega)
set_option maxHeartbeats 4000000 in
set_option maxRecDepth 100000 in
theorem c_X10_mean {ad : Nat → Nat} {I : KI} {J : KJ} {t : Nat} {n r s : Nat} {rd : Nat → Nat → Nat} (hw : mTw I n r s rd) (ok : okTw n r s rd) {C0 : Nat → Nat → Nat} (hc : okW n r rd C0) (hW : mWy I n C0) {c : Nat} {ki co ag re : Nat → Nat} {T : Nat → Nat → Nat} (hk : mKd I c ki co ag re T) (okk : okKd n c ki co ag re T) {th : Nat → Bool} {so ct : Nat → Nat} {ce : Nat → Nat → Int32} (hs : mSh I th so ct ce) (oks : okSh so ct) {setv cov mv kv sov iv nv qv : Int32} {cd : Nat → Int32} (hcd : ∀ k i m : Nat, kv = nI k → k < 4 → iv = nI i → nv = nI m → i + m ≤ 100 → ∀ j, j < m → ce k (i + j) = cd j)  {Q : Int64 → KI → KJ → KR → Prop} (hR : ∀ f I', lnA n c s C0 co ki ag th so ct cd setv cov kv sov iv nv (meanB mv qv) = .inl f → (∀ q, q ≠ 85 → q ≠ 102 → I' q = I q) → (∀ j, j ≠ 0 → j ≠ 27 → j ≠ 28 → I' 85 j = I 85 j) → I' 85 0 = nI f → Q (-9223372036854775808) I' J (rf t)) (hS : ∀ og I' J', lnA n c s C0 co ki ag th so ct cd setv cov kv sov iv nv (meanB mv qv) = .inr og → (∀ q, q ≠ 85 → q ≠ 102 → I' q = I q) → (∀ j, j ≠ 0 → j ≠ 27 → j ≠ 28 → I' 85 j = I 85 j) → I' 85 0 = 0 → (∀ q, q ≠ 101 → J' q = J q) → Q (meanV (lnP r s rd C0 c co ki ag re setv cov og) mv qv) I' J' (rf t)) : Ml 5 yX10_mean (wm yX10_mean cX10_mean 13 (some .long)) [.ref (ad 85), .int (setv), .int (cov), .int (mv), .int (kv), .int (sov), .int (iv), .int (nv), .int (qv)] ad I J (rf t) Q := by
  refine ml_of (own := RX10) yk_X10_mean rfl (Nat.le_of_ble_eq_true rfl) rfl (fun X hA hnL C K E => ?_)
  subst hA
  refine z_aload_n (n := 1) C 0 dX10_mean_0 rfl rfl ?_
  refine z_iconst (n := 2) (v := 0) C dX10_mean_1 rfl rfl ?_
  refine z_putI (n := 5) C K fF_RX10_87 dX10_mean_2 rfl sh_85 (by decide) ?_
  have hn7 := ok.1
  have hw1 : mTw (upI I 85 0 0) n r s rd := hw.fr (upI_k _ _ (by decide)) (upI_k _ _ (by decide)) (upI_k _ _ (by decide)) (fun q q1 q2 => upI_row _ _ (by omega))
  have hW1 : mWy (upI I 85 0 0) n C0 := hW.fr (upI_row _ _ (by decide))
  have hk1 : mKd (upI I 85 0 0) c ki co ag re T := hk.fr (upI_k _ _ (by decide)) (fun q q1 q2 => upI_row _ _ (by omega))
  have hs1 : mSh (upI I 85 0 0) th so ct ce := hs.fa
  refine z_iload (n := 7) C 4 dX10_mean_5 rfl rfl ?_
  refine z_si_1 (n := 10) (d' := 2) C K dX10_mean_7 rfl yk_X10_isSheet kT_yX10_isSheet kM_RX10_99 (by decide) hR0 rfl ?_
  refine c_X10_isSheet (fun b7 => ?_) (fun b7 => ?_)
  · refine z_ifF_eq (n := 13) (tgt := 21) C (by decide) dX10_mean_10 rfl rfl ?_
    refine z_aload_n (n := 14) C 0 dX10_mean_13 rfl rfl ?_
    refine z_iload_n (n := 15) C 2 dX10_mean_14 rfl rfl ?_
    refine z_vi_1 (n := 18) (d' := 1) C K dX10_mean_15 rfl yk_X10_isCorner yv_X10_isCorner kM_RX10_159 (by decide) hR0 rfl rfl sh_85 (by decide) (by decide) ?_
    refine c_X10_isCorner hw1.1 ok.1 (fun b15 => ?_) (fun b15 => ?_)
    · refine z_ifT_ne (tgt := 25) C (by decide) dX10_mean_18 rfl ?_
      refine z_iload (n := 27) C 5 dX10_mean_25 rfl rfl ?_
      refine z_si_1 (n := 30) (d' := 2) C K dX10_mean_27 rfl yk_X10_isSort kT_yX10_isSort kM_RX10_103 (by decide) hR0 rfl ?_
      refine c_X10_isSort (fun b27 => ?_) (fun b27 => ?_)
      · refine z_ifF_eq (n := 33) (tgt := 62) C (by decide) dX10_mean_30 rfl rfl ?_
        refine z_aload_n (n := 34) C 0 dX10_mean_33 rfl rfl ?_
        refine z_iload_n (n := 35) C 1 dX10_mean_34 rfl rfl ?_
        refine z_vi_1 (n := 38) (d' := 1) C K dX10_mean_35 rfl yk_X10_isSet yv_X10_isSet kM_RX10_217 (by decide) hR0 rfl rfl sh_85 (by decide) (by decide) ?_
        refine c_X10_isSet hk1.1 okk.1 (fun b35 => ?_) (fun b35 => ?_)
        · refine z_ifF_eq (n := 41) (tgt := 62) C (by decide) dX10_mean_38 rfl rfl ?_
          refine z_iload_n (n := 42) C 3 dX10_mean_41 rfl rfl ?_
          refine z_iconst (n := 43) (v := 0) C dX10_mean_42 rfl rfl ?_
          refine z_sipush (n := 46) (v := 200) C dX10_mean_43 rfl rfl ?_
          refine z_si_3 (n := 49) (d' := 1) C K dX10_mean_46 rfl yk_X10_within kT_yX10_within kM_RX10_92 (by decide) hR0 rfl ?_
          refine m_inB (lo := 0) (hi := 200) (by decide) (by decide) (fun b46 => ?_) (fun b46 => ?_)
          · refine z_ifF_eq (n := 52) (tgt := 62) C (by decide) dX10_mean_49 rfl rfl ?_
            refine z_iload (n := 54) C 8 dX10_mean_52 rfl rfl ?_
            refine z_iconst (n := 55) (v := 0) C dX10_mean_54 rfl rfl ?_
            refine z_iconst (n := 56) (v := 1) C dX10_mean_55 rfl rfl ?_
            refine z_si_3 (n := 59) (d' := 1) C K dX10_mean_56 rfl yk_X10_within kT_yX10_within kM_RX10_92 (by decide) hR0 rfl ?_
            refine m_inB (lo := 0) (hi := 1) (by decide) (by decide) (fun b56 => ?_) (fun b56 => ?_)
            · refine z_ifT_ne (tgt := 66) C (by decide) dX10_mean_59 rfl ?_
              have hOk : lnOk n c setv cov kv sov (meanB mv qv) := ⟨b7, b15, b27, (isSB_t okk.1).mpr b35, decide_eq_true (⟨b46, b56⟩ : isB 0 200 mv ∧ isB 0 1 qv)⟩
              obtain ⟨k, hk3, rfl⟩ := isB_of (h := 3) b7
              have hk4 : k < 4 := by omega
              obtain ⟨set, hset0, hset, rfl⟩ := b35
              obtain ⟨a, ha, rfl⟩ := isN_of b15
              obtain ⟨mm, hmm, rfl⟩ := isB_of (h := 200) b46
              have h1024 : 2 ^ c ≤ 2 ^ 10 := Nat.pow_le_pow_right (by decide) okk.1
              refine z_aload_n (n := 67) C 0 dX10_mean_66 rfl rfl ?_
              refine z_iload_n (n := 68) C 1 dX10_mean_67 rfl rfl ?_
              refine z_iload_n (n := 69) C 2 dX10_mean_68 rfl rfl ?_
              refine z_iload (n := 71) C 4 dX10_mean_69 rfl rfl ?_
              refine z_iload (n := 73) C 5 dX10_mean_71 rfl rfl ?_
              refine z_iload (n := 75) C 6 dX10_mean_73 rfl rfl ?_
              refine z_iload (n := 77) C 7 dX10_mean_75 rfl rfl ?_
              refine z_vi_6 (n := 80) (d' := 3) C K dX10_mean_77 rfl yk_X10_whyNotLine yv_X10_whyNotLine kM_RX10_220 (by decide) hR0 rfl rfl sh_85 (by decide) (by decide) ?_
              refine c_X10_whyNotLine (I := upI I 85 0 0) hw1 ok hc hW1 hk1 okk hs1 oks hk4 hset ha (cd := cd) (fun i m e1 e2 e3 => hcd k i m rfl hk4 e1 e2 e3) (fun wf => ?_) (fun v I2 wr wv wf1 wf2 wn => ?_) (fun I2 wr wf1 wf2 wy wG => ?_)
              · refine z_istore (n := 82) (L' := [(9, _), (0, _), (1, _), (2, _), (3, _), (4, _), (5, _), (6, _), (7, _), (8, _)]) C dX10_mean_80 rfl (by rw [hnL]; decide) rfl ?_
                refine z_iload (n := 84) C 0 dX10_mean_82 rfl rfl ?_
                refine z_bipush (n := 86) (v := (-10)) C dX10_mean_84 rfl rfl ?_
                refine z_icmpF_ge (n := 89) (tgt := 99) C (m10n _ (rfS_lt5 (th k) (so k) (ct k) sov iv nv) (Nat.pos_of_ne_zero wf)) dX10_mean_86 rfl rfl ?_
                refine z_aload_n (n := 90) C 1 dX10_mean_89 rfl rfl ?_
                refine z_bipush (n := 92) (v := (-10)) C dX10_mean_90 rfl rfl ?_
                refine z_iload (n := 94) C 0 dX10_mean_92 rfl rfl ?_
                refine z_isub (n := 95) C dX10_mean_94 rfl ?_
                refine z_vl_1 (n := 98) (d' := 1) C K dX10_mean_95 rfl yk_X10_lost yv_X10_lost kM_RX10_224 (by decide) hR0 rfl rfl sh_85 (by decide) (by decide) ?_
                refine c_X10_lost ?_
                refine z_lret C E dX10_mean_98 ?_
                rw [upI_upI]
                exact hR _ _ (lnA_2 hk4 hOk wf) (fun q h0 _ => upI_row _ _ h0) (fun j hj _ _ => upI_k _ _ hj) (by rw [upI_same]; exact m10k _ (rfS_lt5 _ _ _ _ _ _) (Nat.pos_of_ne_zero wf))
              · refine z_istore (n := 82) (L' := [(9, _), (0, _), (1, _), (2, _), (3, _), (4, _), (5, _), (6, _), (7, _), (8, _)]) C dX10_mean_80 rfl (by rw [hnL]; decide) rfl ?_
                refine z_iload (n := 84) C 0 dX10_mean_82 rfl rfl ?_
                refine z_bipush (n := 86) (v := (-10)) C dX10_mean_84 rfl rfl ?_
                refine z_icmpT_ge (tgt := 99) C (by rcases wv with rfl | rfl <;> decide) dX10_mean_86 rfl ?_
                refine z_iload (n := 101) C 0 dX10_mean_99 rfl rfl ?_
                refine z_ifF_eq (n := 104) (tgt := 108) C (by rcases wv with rfl | rfl <;> decide) dX10_mean_101 rfl rfl ?_
                refine z_ldc2 (n := 107) C dX10_mean_104 kK_RX10_90 rfl ?_
                refine z_lret C E dX10_mean_107 ?_
                obtain ⟨hi0, hn0, hin⟩ := rfS_0 wr
                obtain ⟨i, hi31, rfl⟩ := i_nat hi0
                obtain ⟨mq, hm31, rfl⟩ := i_nat hn0
                rw [nI_clamp hm31] at wn
                exact hR 0 I2 (lnA_4 hk4 hm31 (by omega) (by omega) hOk wr wn) (fun q h0 h5 => by rw [wf1 q h0 h5, upI_row _ _ h0]) (fun j hj hj2 _ => by rw [wf2 j hj2, upI_k _ _ hj]) (by rw [wf2 0 (by decide), upI_same]; rfl)
              · refine z_istore (n := 82) (L' := [(9, _), (0, _), (1, _), (2, _), (3, _), (4, _), (5, _), (6, _), (7, _), (8, _)]) C dX10_mean_80 rfl (by rw [hnL]; decide) rfl ?_
                refine z_iload (n := 84) C 0 dX10_mean_82 rfl rfl ?_
                refine z_bipush (n := 86) (v := (-10)) C dX10_mean_84 rfl rfl ?_
                refine z_icmpT_ge (tgt := 99) C (by decide) dX10_mean_86 rfl ?_
                refine z_iload (n := 101) C 0 dX10_mean_99 rfl rfl ?_
                refine z_ifT_eq (tgt := 108) C (by decide) dX10_mean_101 rfl ?_
                obtain ⟨hi0, hn0, hin⟩ := rfS_0 wr
                obtain ⟨i, hi31, rfl⟩ := i_nat hi0
                obtain ⟨mq, hm31, rfl⟩ := i_nat hn0
                rw [nI_toInt hi31, nI_toInt hm31] at hin
                have hokk := oks k hk4
                rw [nI_clamp hm31] at wy wG
                obtain ⟨em, hod, hwb⟩ := lnWk_t.mp wy
                have hsn : s < n := ok.2.2.1 (by omega)
                have hmem : ∀ x, x ∈ ogS cd mq → x < n := fun x hx => ogS_lt okk hod hx
                have hl7 := gatesOf_len c co ki ag set
                have hln := ogS_len cd mq
                obtain ⟨fc, fo, ft⟩ := stpL_fact (rdy := rdG set c co re) hn7 ok.2.2.2 hc hsn (pcG_le set c co ki ag) (fun g => rdG_le (fun x hx => (okk.2.1 x hx).2.2.2.2) g) _ a 1 hmem ha (by decide) (wkB_t.mp hwb).1
                have hcr := (wkB_t.mp hwb).2
                rw [← fc] at hcr
                have htm := ft mm
                rw [ogS_len] at htm
                have hp15 := p10_le hcr
                have hw2 : mTw I2 n r s rd := hw1.fr (wf2 5 (by decide)) (wf2 6 (by decide)) (wf2 7 (by decide)) (fun q q1 q2 => wf1 q (by omega) (by omega))
                have hW2 : mWy I2 n C0 := hW1.fr (wf1 94 (by decide) (by decide))
                have hk2 : mKd I2 c ki co ag re T := hk1.fr (wf2 19 (by decide)) (fun q q1 q2 => wf1 q (by omega) (by omega))
                refine z_aload_n (n := 109) C 1 dX10_mean_108 rfl rfl ?_
                refine z_iload_n (n := 110) C 2 dX10_mean_109 rfl rfl ?_
                refine z_iload_n (n := 111) C 3 dX10_mean_110 rfl rfl ?_
                refine z_iload_n (n := 112) C 4 dX10_mean_111 rfl rfl ?_
                refine z_sipush (n := 115) (v := 7000) C dX10_mean_112 rfl rfl ?_
                rw [show (7000 : Int32) = nI 7000 from rfl]
                refine z_vv_4 (n := 118) (d' := 4) C K dX10_mean_115 rfl yk_X10_goLine yv_X10_goLine kM_RX10_228 (by decide) hR0 rfl rfl sh_85 (by decide) (by decide) ?_
                refine c_X10_goLine (N := 7000) hw2 ok hc hW2 hk2 okk wG (by omega) hmem (by omega) ha (wkB_t.mp hwb).1 (by omega) hmm (fun I3 J3 hf3 hf4 hg3 hM => ?_)
                have hw3 : mTw I3 n r s rd := hw2.fr (hf4 5 (by decide)) (hf4 6 (by decide)) (hf4 7 (by decide)) (fun q q1 q2 => hf3 q (by omega))
                have hW3 : mWy I3 n C0 := hW2.fr (hf3 94 (by decide))
                have hG3 : mGt I3 (ogS cd mq) := wG.fr (hf4 27 (by decide)) (hf3 102 (by decide))
                refine z_lconst (n := 119) (v := 0) C dX10_mean_118 rfl rfl ?_
                refine z_lstore (n := 121) (L' := [(10, _), (9, _), (0, _), (1, _), (2, _), (3, _), (4, _), (5, _), (6, _), (7, _), (8, _)]) C dX10_mean_119 rfl (by rw [hnL]; decide) rfl ?_
                refine z_iconst (n := 122) (v := 0) C dX10_mean_121 rfl rfl ?_
                refine z_istore (n := 124) (L' := [(12, _), (10, _), (9, _), (0, _), (1, _), (2, _), (3, _), (4, _), (5, _), (6, _), (7, _), (8, _)]) C dX10_mean_122 rfl (by rw [hnL]; decide) rfl ?_
                refine z_sub (L' := [(12, _), (10, _), (0, _), (1, _), (2, _), (3, _), (4, _), (5, _), (6, _), (7, _), (8, _), (9, _)]) [0, 1, 3, 4, 5, 6, 7, 8, 9, 10, 11, 2] rfl ?_
                obtain ⟨g, hg, hgs⟩ := mCh_sum hM (by omega)
                refine l_X10_mean C K hnL hg ?_ 7002 0 (by omega) (by omega)
                refine z_lload (n := 156) C 0 dX10_mean_154 rfl rfl ?_
                refine z_aload_n (n := 157) C 1 dX10_mean_156 rfl rfl ?_
                refine z_iload_n (n := 158) C 3 dX10_mean_157 rfl rfl ?_
                refine z_vi_1 (n := 161) (d' := 2) C K dX10_mean_158 rfl yk_X10_crossingsOf yv_X10_crossingsOf kM_RX10_214 (by decide) hR0 rfl rfl sh_85 (by decide) (by decide) ?_
                refine c_X10_crossingsOf hw3 ok hc hW3 hG3 (by omega) hmem ha (fun _ => ?_) (fun q => absurd (wkB_t.mp hwb).1 q)
                rw [← fc]
                refine z_sl_1 (n := 164) (d' := 1) C K dX10_mean_161 rfl yk_X10_tens kT_yX10_tens kM_RX10_232 (by decide) hR0 rfl ?_
                refine c_X10_tens (by omega) ?_
                refine z_iload (n := 166) C 9 dX10_mean_164 rfl rfl ?_
                refine z_sl_3 (n := 169) (d' := 2) C K dX10_mean_166 rfl yk_X10_part kT_yX10_part kM_RX10_235 (by decide) hR0 rfl ?_
                have hle := ev_le (h := fun t => t) (c := 7000) _ fo mm (fun t ht7 => by show t ≤ 7000; omega)
                rw [hgs]
                refine c_X10_part (by omega) (Nat.pow_pos (by decide)) (by omega) ?_
                refine z_lret C E dX10_mean_169 ?_
                refine eqL ?_ (hS _ I3 J3 (lnA_3 hk4 hm31 (by omega) (by omega) hOk wr wy) (fun q h0 h5 => by rw [hf3 q h0, wf1 q h0 h5, upI_row _ _ h0]) (fun j hj hj2 hj3 => by rw [hf4 j hj3, wf2 j hj2, upI_k _ _ hj]) (by rw [hf4 0 (by decide), wf2 0 (by decide), upI_same]) hg3)
                unfold meanV lnP
                rw [nI_clamp (show set < 2 ^ 31 by omega), nI_clamp (show a < 2 ^ 31 by omega), nI_clamp (show mm < 2 ^ 31 by omega)]
            · refine z_ifF_ne (n := 62) (tgt := 66) C (by decide) dX10_mean_59 rfl rfl ?_
              refine z_ldc2 (n := 65) C dX10_mean_62 kK_RX10_90 rfl ?_
              refine z_lret C E dX10_mean_65 ?_
              exact hR 0 _ (lnA_1 (fun q => b56 (of_decide_eq_true q.2.2.2.2).2)) (fun q h0 _ => upI_row _ _ h0) (fun j hj _ _ => upI_k _ _ hj) (upI_same _ _ _ _)
          · refine z_ifT_eq (tgt := 62) C (by decide) dX10_mean_49 rfl ?_
            refine z_ldc2 (n := 65) C dX10_mean_62 kK_RX10_90 rfl ?_
            refine z_lret C E dX10_mean_65 ?_
            exact hR 0 _ (lnA_1 (fun q => b46 (of_decide_eq_true q.2.2.2.2).1)) (fun q h0 _ => upI_row _ _ h0) (fun j hj _ _ => upI_k _ _ hj) (upI_same _ _ _ _)
        · refine z_ifT_eq (tgt := 62) C (by decide) dX10_mean_38 rfl ?_
          refine z_ldc2 (n := 65) C dX10_mean_62 kK_RX10_90 rfl ?_
          refine z_lret C E dX10_mean_65 ?_
          exact hR 0 _ (lnA_1 (fun q => b35 ((isSB_t okk.1).mp q.2.2.2.1))) (fun q h0 _ => upI_row _ _ h0) (fun j hj _ _ => upI_k _ _ hj) (upI_same _ _ _ _)
      · refine z_ifT_eq (tgt := 62) C (by decide) dX10_mean_30 rfl ?_
        refine z_ldc2 (n := 65) C dX10_mean_62 kK_RX10_90 rfl ?_
        refine z_lret C E dX10_mean_65 ?_
        exact hR 0 _ (lnA_1 (fun q => b27 q.2.2.1)) (fun q h0 _ => upI_row _ _ h0) (fun j hj _ _ => upI_k _ _ hj) (upI_same _ _ _ _)
    · refine z_ifF_ne (n := 21) (tgt := 25) C (by decide) dX10_mean_18 rfl rfl ?_
      refine z_ldc2 (n := 24) C dX10_mean_21 kK_RX10_90 rfl ?_
      refine z_lret C E dX10_mean_24 ?_
      exact hR 0 _ (lnA_1 (fun q => b15 q.2.1)) (fun q h0 _ => upI_row _ _ h0) (fun j hj _ _ => upI_k _ _ hj) (upI_same _ _ _ _)
  · refine z_ifT_eq (tgt := 21) C (by decide) dX10_mean_10 rfl ?_
    refine z_ldc2 (n := 24) C dX10_mean_21 kK_RX10_90 rfl ?_
    refine z_lret C E dX10_mean_24 ?_
    exact hR 0 _ (lnA_1 (fun q => b7 q.1)) (fun q h0 _ => upI_row _ _ h0) (fun j hj _ _ => upI_k _ _ hj) (upI_same _ _ _ _)
