set_option maxHeartbeats 4000000 in
set_option maxRecDepth 100000 in
theorem l_X10_startBy {X : KX} {t : Nat} (C : Cx X RX10 cX10_startBy 5) (K : Kx X) (hnL : xnL X = 10) {Q : Int32 → KI → KJ → KR → Prop} (E : Ei X .int Q) {I : KI} {J : KJ} {n r s : Nat} {rd : Nat → Nat → Nat} (hw : mTw I n r s rd) (ok : okTw n r s rd) {C0 : Nat → Nat → Nat} (hc : okW n r rd C0) (hW : mWy I n C0) {c : Nat} {ki co ag re : Nat → Nat} {T : Nat → Nat → Nat} (hk : mKd I c ki co ag re T) (okk : okKd n c ki co ag re T) {og : List Nat} (hG : mGt I og) (hl7 : og.length ≤ 7) (hm : ∀ x, x ∈ og → x < n) {set a bell h : Nat} (hset : set < 2 ^ 31) (ha : a < n) (hwk : wkB C0 s a og = true) (hbell : bell ≤ 200) (hh : h ≤ 100) (hQ : ∀ I' J', (∀ q, q ≠ 85 → I' q = I q) → (∀ j, j ≠ 28 → I' 85 j = I 85 j) → (∀ q, q ≠ 101 → J' q = J q) → Q (stI (slF r rd C0 (rdG set c co re) (pcG set c co ki ag) s a bell h og)) I' J' (rf t)) : ∀ (f lo hi : Nat) (I1 : KI) (J1 : KJ), hi - lo < f → (lo ≤ hi ∧ hi ≤ bell + 1 ∧ (lo = 0 ∨ (0 < lo ∧ gdB (stpL r rd C0 (rdG set c co re) (pcG set c co ki ag) s og a 1) bell h (lo - 1) = true)) ∧ (∀ m, hi ≤ m → m < bell + 1 → gdB (stpL r rd C0 (rdG set c co re) (pcG set c co ki ag) s og a 1) bell h m = false) ∧ (∀ q, q ≠ 85 → I1 q = I q) ∧ (∀ j, j ≠ 28 → I1 85 j = I 85 j) ∧ (∀ q, q ≠ 101 → J1 q = J q)) → Z X 0 0 (V X I1 J1 (rf t)) 16 [(8, .int (nI hi + (-1))), (7, .int (nI lo + (-1))), (5, .long (lN (10 ^ crs (stpL r rd C0 (rdG set c co re) (pcG set c co ki ag) s og a 1)))), (0, .ref (xad X 85)), (1, .int (nI set)), (2, .int (nI a)), (3, .int (nI bell)), (4, .int (nI h))] [] := by
  intro f
  induction f with
  | zero => intro lo hi I1 J1 h; omega
  | succ f ih =>
    intro lo hi I1 J1 hf hii
    obtain ⟨hlh, hhb, hgo, hbad, hfI, hfj, hfJ⟩ := hii
    have hn7 := ok.1
    have hsn : s < n := ok.2.2.1 (by omega)
    have hG1 : mGt I1 og := hG.fr (hfj 27 (by decide)) (hfI 102 (by decide))
    have hw1 : mTw I1 n r s rd := hw.fr (hfj 5 (by decide)) (hfj 6 (by decide)) (hfj 7 (by decide)) (fun q q1 q2 => hfI q (by omega))
    have hW1 : mWy I1 n C0 := hW.fr (hfI 94 (by decide))
    have hk1 : mKd I1 c ki co ag re T := hk.fr (hfj 19 (by decide)) (fun q q1 q2 => hfI q (by omega))
    obtain ⟨fc, fo, ft⟩ := stpL_fact (rdy := rdG set c co re) hn7 ok.2.2.2 hc hsn (pcG_le set c co ki ag) (fun g => rdG_le (fun x hx => (okk.2.1 x hx).2.2.2.2) g) og a 1 hm ha (by decide) (wkB_t.mp hwk).1
    have hcr := (wkB_t.mp hwk).2
    rw [← fc] at hcr
    have hp15 := p10_le hcr
    refine z_iload (n := 18) C 1 dX10_startBy_16 rfl rfl ?_
    refine z_iload (n := 20) C 0 dX10_startBy_18 rfl rfl ?_
    refine z_icmp_ge (tgt := 83) (n := 23) C dX10_startBy_20 rfl rfl (fun c20 => ?_) (fun c20 => ?_)
    · refine z_iload (n := 85) C 1 dX10_startBy_83 rfl rfl ?_
      refine z_if_ge (tgt := 93) (n := 88) C dX10_startBy_85 rfl rfl (fun c85 => ?_) (fun c85 => ?_)
      · refine z_iload (n := 95) C 1 dX10_startBy_93 rfl rfl ?_
        refine z_iret C E dX10_startBy_95 ?_
        rw [fa_le, nI_m1 _ (by omega), nI_m1 _ (by omega)] at c20
        rw [fa_le, nI_m1 _ (by omega)] at c85
        simp only [Int32.reduceToInt] at c85
        have e : hi = lo := by omega
        subst e
        have hx := hQ I1 J1 hfI hfj hfJ
        have h1 : slF r rd C0 (rdG set c co re) (pcG set c co ki ag) s a bell h og ≤ hi := lgS_cut _ (fun m q1 q2 => hbad m q1 q2)
        have h2 : slF r rd C0 (rdG set c co re) (pcG set c co ki ag) s a bell h og = hi := by
          rcases hgo with hgo | ⟨g0, hgo⟩
          · omega
          · have h2 : hi - 1 + 1 ≤ slF r rd C0 (rdG set c co re) (pcG set c co ki ag) s a bell h og := lgS_ge hgo _ (by omega)
            omega
        rw [h2] at hx
        unfold stI at hx
        rw [if_neg (by omega)] at hx
        obtain ⟨b, rfl⟩ : ∃ b, hi = b + 1 := ⟨hi - 1, by omega⟩
        rw [nI_prd]
        exact hx
      · refine z_bipush (n := 90) (v := (-9)) C dX10_startBy_88 rfl rfl ?_
        refine z_goto (n := 95) C dX10_startBy_90 rfl ?_
        refine z_iret C E dX10_startBy_95 ?_
        rw [fa_le, nI_m1 _ (by omega), nI_m1 _ (by omega)] at c20
        rw [fa_le, nI_m1 _ (by omega)] at c85
        simp only [Int32.reduceToInt] at c85
        have e : hi = lo := by omega
        subst e
        have hx := hQ I1 J1 hfI hfj hfJ
        have h1 : slF r rd C0 (rdG set c co re) (pcG set c co ki ag) s a bell h og ≤ hi := lgS_cut _ (fun m q1 q2 => hbad m q1 q2)
        have h2 : slF r rd C0 (rdG set c co re) (pcG set c co ki ag) s a bell h og = hi := by
          rcases hgo with hgo | ⟨g0, hgo⟩
          · omega
          · have h2 : hi - 1 + 1 ≤ slF r rd C0 (rdG set c co re) (pcG set c co ki ag) s a bell h og := lgS_ge hgo _ (by omega)
            omega
        rw [h2] at hx
        unfold stI at hx
        rw [if_pos (by omega)] at hx
        exact hx
    · rw [fa_le, nI_m1 _ (by omega), nI_m1 _ (by omega)] at c20
      refine z_iload (n := 25) C 1 dX10_startBy_23 rfl rfl ?_
      refine z_iload (n := 27) C 0 dX10_startBy_25 rfl rfl ?_
      refine z_iadd (n := 28) C dX10_startBy_27 rfl ?_
      refine z_iconst (n := 29) (v := 1) C dX10_startBy_28 rfl rfl ?_
      refine z_iadd (n := 30) C dX10_startBy_29 rfl ?_
      rw [mid_h _ _ (by omega) (by omega)]
      refine z_iconst (n := 31) (v := 2) C dX10_startBy_30 rfl rfl ?_
      refine z_idiv (n := 32) C dX10_startBy_31 rfl (by decide) ?_
      rw [show (2 : Int32) = nI 2 from rfl, pk_div (by omega) (by decide) (by decide)]
      obtain ⟨m, em⟩ : ∃ m, (lo + hi - 1) / 2 = m := ⟨_, rfl⟩
      rw [em]
      refine z_istore (n := 34) (L' := [(9, _), (8, _), (7, _), (5, _), (0, _), (1, _), (2, _), (3, _), (4, _)]) C dX10_startBy_32 rfl (by rw [hnL]; decide) rfl ?_
      refine z_aload_n (n := 35) C 4 dX10_startBy_34 rfl rfl ?_
      refine z_iload_n (n := 36) C 5 dX10_startBy_35 rfl rfl ?_
      refine z_iload_n (n := 37) C 6 dX10_startBy_36 rfl rfl ?_
      refine z_iload (n := 39) C 0 dX10_startBy_37 rfl rfl ?_
      refine z_iload_n (n := 40) C 7 dX10_startBy_39 rfl rfl ?_
      refine z_iconst (n := 41) (v := 1) C dX10_startBy_40 rfl rfl ?_
      refine z_iadd (n := 42) C dX10_startBy_41 rfl ?_
      rw [nI_1]
      refine z_vv_4 (n := 45) (d' := 4) C K dX10_startBy_42 rfl yk_X10_goLine yv_X10_goLine kM_RX10_228 (by decide) hR0 rfl rfl sh_85 (by decide) (by decide) ?_
      refine c_X10_goLine (N := bell + 1) hw1 ok hc hW1 hk1 okk hG1 hl7 hm hset ha (wkB_t.mp hwk).1 (by omega) (show m ≤ 200 by omega) (fun I2 J2 hf2 hj2 hg2 hM => ?_)
      have hle := ev_le (h := ltS bell) (c := 1) _ fo m (fun t _ => by unfold ltS; split <;> omega)
      refine z_ldc2 (n := 48) C dX10_startBy_45 kK_RX10_239 rfl ?_
      refine z_aload_n (n := 49) C 4 dX10_startBy_48 rfl rfl ?_
      refine z_getR (n := 52) (q := 101) C K fF_RX10_55 dX10_startBy_49 rfl rfl sh_85 (by decide) rfl ?_
      refine z_iload_n (n := 53) C 7 dX10_startBy_52 rfl rfl ?_
      refine z_iconst (n := 54) (v := 1) C dX10_startBy_53 rfl rfl ?_
      refine z_iadd (n := 55) C dX10_startBy_54 rfl ?_
      rw [nI_1]
      refine z_laldN (n := 56) C K (bell + 1) dX10_startBy_55 rfl sh_101 (by decide) rfl (by omega) (by decide) ?_
      rw [mCh_last hM, show (100 : Int64) = lN 100 from rfl]
      refine z_lmul (n := 57) C dX10_startBy_56 rfl ?_
      rw [lN_mul]
      refine z_iload (n := 59) C 8 dX10_startBy_57 rfl rfl ?_
      refine z_i2l (n := 60) C dX10_startBy_59 rfl ?_
      rw [lN_i2l (by omega)]
      refine z_lload (n := 62) C 3 dX10_startBy_60 rfl rfl ?_
      refine z_lmul (n := 63) C dX10_startBy_62 rfl ?_
      rw [lN_mul]
      have hmul : h * 10 ^ crs (stpL r rd C0 (rdG set c co re) (pcG set c co ki ag) s og a 1) ≤ 100 * 1000000000000000 := Nat.mul_le_mul hh hp15
      have hcm := Nat.mul_comm h (10 ^ crs (stpL r rd C0 (rdG set c co re) (pcG set c co ki ag) s og a 1))
      refine z_lcmp (n := 64) C dX10_startBy_63 rfl ?_
      refine z_if_gt (tgt := 74) (n := 67) C dX10_startBy_64 rfl rfl (fun c64 => ?_) (fun c64 => ?_)
      · rw [lg_cmp_gt, pk_lLT (by omega) (by omega)] at c64
        refine z_iload (n := 76) C 0 dX10_startBy_74 rfl rfl ?_
        refine z_iconst (n := 77) (v := 1) C dX10_startBy_76 rfl rfl ?_
        refine z_isub (n := 78) C dX10_startBy_77 rfl ?_
        rw [sub_one]
        refine z_istore (n := 80) (L' := [(8, _), (9, _), (7, _), (5, _), (0, _), (1, _), (2, _), (3, _), (4, _)]) C dX10_startBy_78 rfl (by rw [hnL]; decide) rfl ?_
        refine z_goto (n := 16) C dX10_startBy_80 rfl ?_
        refine z_sub (L' := [(8, _), (7, _), (5, _), (0, _), (1, _), (2, _), (3, _), (4, _)]) [0, 2, 3, 4, 5, 6, 7, 8] rfl ?_
        have hqm : gdB (stpL r rd C0 (rdG set c co re) (pcG set c co ki ag) s og a 1) bell h m = false := by unfold gdB; rw [decide_eq_false_iff_not]; omega
        exact ih lo m I2 J2 (by omega) ⟨by omega, by omega, hgo, fun x h1 h2 => gdB_down h1 hqm, fun q hq => by rw [hf2 q hq]; exact hfI q hq, fun j hj => by rw [hj2 j hj]; exact hfj j hj, fun q hq => by rw [hg2 q hq]; exact hfJ q hq⟩
      · rw [lg_cmp_gt, pk_lLT (by omega) (by omega)] at c64
        refine z_iload (n := 69) C 0 dX10_startBy_67 rfl rfl ?_
        refine z_istore (n := 71) (L' := [(7, _), (9, _), (8, _), (5, _), (0, _), (1, _), (2, _), (3, _), (4, _)]) C dX10_startBy_69 rfl (by rw [hnL]; decide) rfl ?_
        refine z_goto (n := 80) C dX10_startBy_71 rfl ?_
        refine z_goto (n := 16) C dX10_startBy_80 rfl ?_
        refine z_sub (L' := [(8, _), (7, _), (5, _), (0, _), (1, _), (2, _), (3, _), (4, _)]) [2, 0, 3, 4, 5, 6, 7, 8] rfl ?_
        have hqm : gdB (stpL r rd C0 (rdG set c co re) (pcG set c co ki ag) s og a 1) bell h m = true := by unfold gdB; rw [decide_eq_true_eq]; omega
        rw [nI_back m]
        exact ih (m + 1) hi I2 J2 (by omega) ⟨by omega, by omega, Or.inr ⟨by omega, hqm⟩, hbad, fun q hq => by rw [hf2 q hq]; exact hfI q hq, fun j hj => by rw [hj2 j hj]; exact hfj j hj, fun q hq => by rw [hg2 q hq]; exact hfJ q hq⟩
set_option maxHeartbeats 4000000 in
set_option maxRecDepth 100000 in
theorem c_X10_startBy {ad : Nat → Nat} {I : KI} {J : KJ} {t : Nat} {n r s : Nat} {rd : Nat → Nat → Nat} (hw : mTw I n r s rd) (ok : okTw n r s rd) {C0 : Nat → Nat → Nat} (hc : okW n r rd C0) (hW : mWy I n C0) {c : Nat} {ki co ag re : Nat → Nat} {T : Nat → Nat → Nat} (hk : mKd I c ki co ag re T) (okk : okKd n c ki co ag re T) {og : List Nat} (hG : mGt I og) (hl7 : og.length ≤ 7) (hm : ∀ x, x ∈ og → x < n) {set a bell h : Nat} (hset : set < 2 ^ 31) (ha : a < n) (hwk : wkB C0 s a og = true) (hbell : bell ≤ 200) (hh : h ≤ 100)  {Q : Int32 → KI → KJ → KR → Prop} (hQ : ∀ I' J', (∀ q, q ≠ 85 → I' q = I q) → (∀ j, j ≠ 28 → I' 85 j = I 85 j) → (∀ q, q ≠ 101 → J' q = J q) → Q (stI (slF r rd C0 (rdG set c co re) (pcG set c co ki ag) s a bell h og)) I' J' (rf t))  : Mi 5 yX10_startBy (wm yX10_startBy cX10_startBy 10 (some .int)) [.ref (ad 85), .int (nI set), .int (nI a), .int (nI bell), .int (nI h)] ad I J (rf t) Q := by
  refine mi_of (own := RX10) yk_X10_startBy rfl (Nat.le_of_ble_eq_true rfl) rfl (fun X hA hnL C K E => ?_)
  subst hA
  have hn7 := ok.1
  have hsn : s < n := ok.2.2.1 (by omega)
  obtain ⟨fc, fo, ft⟩ := stpL_fact (rdy := rdG set c co re) hn7 ok.2.2.2 hc hsn (pcG_le set c co ki ag) (fun g => rdG_le (fun x hx => (okk.2.1 x hx).2.2.2.2) g) og a 1 hm ha (by decide) (wkB_t.mp hwk).1
  have hcr := (wkB_t.mp hwk).2
  refine z_aload_n (n := 1) C 0 dX10_startBy_0 rfl rfl ?_
  refine z_iload_n (n := 2) C 2 dX10_startBy_1 rfl rfl ?_
  refine z_vi_1 (n := 5) (d' := 2) C K dX10_startBy_2 rfl yk_X10_crossingsOf yv_X10_crossingsOf kM_RX10_214 (by decide) hR0 rfl rfl sh_85 (by decide) (by decide) ?_
  refine c_X10_crossingsOf hw ok hc hW hG hl7 hm ha (fun _ => ?_) (fun q => absurd (wkB_t.mp hwk).1 q)
  rw [← fc] at hcr ⊢
  refine z_sl_1 (n := 8) (d' := 1) C K dX10_startBy_5 rfl yk_X10_tens kT_yX10_tens kM_RX10_232 (by decide) hR0 rfl ?_
  refine c_X10_tens (by omega) ?_
  refine z_lstore (n := 10) (L' := [(5, _), (0, _), (1, _), (2, _), (3, _), (4, _)]) C dX10_startBy_8 rfl (by rw [hnL]; decide) rfl ?_
  refine z_iconst (n := 11) (v := (-1)) C dX10_startBy_10 rfl rfl ?_
  refine z_istore (n := 13) (L' := [(7, _), (5, _), (0, _), (1, _), (2, _), (3, _), (4, _)]) C dX10_startBy_11 rfl (by rw [hnL]; decide) rfl ?_
  refine z_iload_n (n := 14) C 5 dX10_startBy_13 rfl rfl ?_
  refine z_istore (n := 16) (L' := [(8, _), (7, _), (5, _), (0, _), (1, _), (2, _), (3, _), (4, _)]) C dX10_startBy_14 rfl (by rw [hnL]; decide) rfl ?_
  have hx := l_X10_startBy C K hnL E hw ok hc hW hk okk hG hl7 hm hset ha hwk hbell hh hQ (bell + 2) 0 (bell + 1) I J (by omega) ⟨by omega, Nat.le_refl _, Or.inl rfl, fun m q1 q2 => by omega, fun _ _ => rfl, fun _ _ => rfl, fun _ _ => rfl⟩
  rw [nI_prd bell] at hx
  exact hx
set_option maxHeartbeats 4000000 in
set_option maxRecDepth 100000 in
theorem c_X10_isAsked {ad : Nat → Nat} {I : KI} {J : KJ} {t : Nat} {n c : Nat} {ki co ag re : Nat → Nat} {T : Nat → Nat → Nat} (hk : mKd I c ki co ag re T) (okk : okKd n c ki co ag re T) {setv bv hv : Int32} {Q : Int32 → KI → KJ → KR → Prop} (h1 : isS c setv → isB 0 200 bv → isB 0 100 hv → Q 1 I J (rf t)) (h0 : ¬ (isSB c setv = true ∧ isB 0 200 bv ∧ isB 0 100 hv) → Q 0 I J (rf t)) : Mi 2 yX10_isAsked (wm yX10_isAsked cX10_isAsked 4 (some .boolean)) [.ref (ad 85), .int (setv), .int (bv), .int (hv)] ad I J (rf t) Q := by
  refine mi_of (own := RX10) yk_X10_isAsked rfl (Nat.le_of_ble_eq_true rfl) rfl (fun X hA hnL C K E => ?_)
  subst hA
  refine z_aload_n (n := 1) C 0 dX10_isAsked_0 rfl rfl ?_
  refine z_iload_n (n := 2) C 1 dX10_isAsked_1 rfl rfl ?_
  refine z_vi_1 (n := 5) (d' := 1) C K dX10_isAsked_2 rfl yk_X10_isSet yv_X10_isSet kM_RX10_217 (by decide) hR0 rfl rfl sh_85 (by decide) (by decide) ?_
  refine c_X10_isSet hk.1 okk.1 (fun b2 => ?_) (fun b2 => ?_)
  · refine z_ifF_eq (n := 8) (tgt := 33) C (by decide) dX10_isAsked_5 rfl rfl ?_
    refine z_iload_n (n := 9) C 2 dX10_isAsked_8 rfl rfl ?_
    refine z_iconst (n := 10) (v := 0) C dX10_isAsked_9 rfl rfl ?_
    refine z_sipush (n := 13) (v := 200) C dX10_isAsked_10 rfl rfl ?_
    refine z_si_3 (n := 16) (d' := 1) C K dX10_isAsked_13 rfl yk_X10_within kT_yX10_within kM_RX10_92 (by decide) hR0 rfl ?_
    refine m_inB (lo := 0) (hi := 200) (by decide) (by decide) (fun b13 => ?_) (fun b13 => ?_)
    · refine z_ifF_eq (n := 19) (tgt := 33) C (by decide) dX10_isAsked_16 rfl rfl ?_
      refine z_iload_n (n := 20) C 3 dX10_isAsked_19 rfl rfl ?_
      refine z_iconst (n := 21) (v := 0) C dX10_isAsked_20 rfl rfl ?_
      refine z_bipush (n := 23) (v := 100) C dX10_isAsked_21 rfl rfl ?_
      refine z_si_3 (n := 26) (d' := 1) C K dX10_isAsked_23 rfl yk_X10_within kT_yX10_within kM_RX10_92 (by decide) hR0 rfl ?_
      refine m_inB (lo := 0) (hi := 100) (by decide) (by decide) (fun b23 => ?_) (fun b23 => ?_)
      · refine z_ifF_eq (n := 29) (tgt := 33) C (by decide) dX10_isAsked_26 rfl rfl ?_
        refine z_iconst (n := 30) (v := 1) C dX10_isAsked_29 rfl rfl ?_
        refine z_goto (n := 34) C dX10_isAsked_30 rfl ?_
        refine z_zret C E dX10_isAsked_34 (by decide) ?_
        exact h1 b2 b13 b23
      · refine z_ifT_eq (tgt := 33) C (by decide) dX10_isAsked_26 rfl ?_
        refine z_iconst (n := 34) (v := 0) C dX10_isAsked_33 rfl rfl ?_
        refine z_zret C E dX10_isAsked_34 (by decide) ?_
        exact h0 (fun q => b23 q.2.2)
    · refine z_ifT_eq (tgt := 33) C (by decide) dX10_isAsked_16 rfl ?_
      refine z_iconst (n := 34) (v := 0) C dX10_isAsked_33 rfl rfl ?_
      refine z_zret C E dX10_isAsked_34 (by decide) ?_
      exact h0 (fun q => b13 q.2.1)
  · refine z_ifT_eq (tgt := 33) C (by decide) dX10_isAsked_5 rfl ?_
    refine z_iconst (n := 34) (v := 0) C dX10_isAsked_33 rfl rfl ?_
    refine z_zret C E dX10_isAsked_34 (by decide) ?_
    exact h0 (fun q => b2 ((isSB_t okk.1).mp q.1))
set_option maxHeartbeats 4000000 in
set_option maxRecDepth 100000 in
theorem lb_X10_findStart {X : KX} {t : Nat} (C : Cx X RX10 cX10_findStart 6) (K : Kx X) (hnL : xnL X = 9) {J : KJ} {I : KI} {og : List Nat} {L code : Nat} {av bv setv cov bev hv : Int32} (hL : L ≤ 4) (hlen : og.length = L) (hN0 : I 85 27 = nI L) (ho : ordA I 102 og) (hN : ∀ I1, (∀ q, q ≠ 103 → I1 q = I q) → (∀ i, i < L → I1 103 i = nI (og.getD i 0)) → Z X 0 0 (V X I1 J (rf t)) 93 [(6, .int (nI code)), (5, .int av), (0, .ref (xad X 85)), (1, .int setv), (2, .int cov), (3, .int bev), (4, .int hv)] []) : ∀ (f i : Nat) (I1 : KI), L - i < f → (i ≤ L ∧ (∀ q, q ≠ 103 → I1 q = I q) ∧ ∀ j, j < i → I1 103 j = nI (og.getD j 0)) → Z X 0 0 (V X I1 J (rf t)) 64 [(8, .int (nI i)), (6, .int (nI code)), (5, .int av), (0, .ref (xad X 85)), (1, .int setv), (2, .int cov), (3, .int bev), (4, .int hv), (7, .int bv)] [] := by
  intro f
  induction f with
  | zero => intro i I1 h; omega
  | succ f ih =>
    intro i I1 hf hi
    obtain ⟨hiL, hfr, hv2⟩ := hi
    refine z_iload (n := 66) C 0 dX10_findStart_64 rfl rfl ?_
    refine z_aload_n (n := 67) C 3 dX10_findStart_66 rfl rfl ?_
    refine z_getI (n := 70) C K fF_RX10_181 dX10_findStart_67 rfl sh_85 (by decide) ?_
    rw [hfr 85 (by decide), hN0]
    refine z_icmp_ge (tgt := 93) (n := 73) C dX10_findStart_70 rfl rfl (fun c70 => ?_) (fun c70 => ?_)
    · refine z_sub (L' := [(6, _), (5, _), (0, _), (1, _), (2, _), (3, _), (4, _)]) [1, 2, 3, 4, 5, 6, 7] rfl ?_
      rw [fa_le, nI_toInt (by omega), nI_toInt (by omega)] at c70
      exact hN I1 hfr (fun j hj => hv2 j (by omega))
    · rw [fa_le, nI_toInt (by omega), nI_toInt (by omega)] at c70
      refine z_aload_n (n := 74) C 3 dX10_findStart_73 rfl rfl ?_
      refine z_getR (n := 77) (q := 103) C K fF_RX10_62 dX10_findStart_74 rfl rfl sh_85 (by decide) rfl ?_
      refine z_iload (n := 79) C 0 dX10_findStart_77 rfl rfl ?_
      refine z_aload_n (n := 80) C 3 dX10_findStart_79 rfl rfl ?_
      refine z_getR (n := 83) (q := 102) C K fF_RX10_59 dX10_findStart_80 rfl rfl sh_85 (by decide) rfl ?_
      refine z_iload (n := 85) C 0 dX10_findStart_83 rfl rfl ?_
      refine z_ialdN (n := 86) C K i dX10_findStart_85 rfl sh_102 (by decide) rfl (by omega) (by decide) ?_
      rw [hfr 102 (by decide), ho i (by omega)]
      refine z_iastN (n := 87) C K i dX10_findStart_86 rfl sh_103 (by decide) rfl (by omega) (by decide) ?_
      refine z_iincG (n := 90) (c := 1) (L' := [(8, _), (6, _), (5, _), (0, _), (1, _), (2, _), (3, _), (4, _), (7, _)]) C 0 dX10_findStart_87 rfl rfl rfl (by rw [hnL]; decide) rfl ?_
      refine z_goto (n := 64) C dX10_findStart_90 rfl ?_
      rw [nI_1]
      exact ih (i + 1) _ (by omega) ⟨by omega, fun q hq => by rw [upI_row _ _ hq]; exact hfr q hq, fun j hj => by
        by_cases e : j = i
        · subst e; rw [upI_same]
        · rw [upI_k _ _ e]; exact hv2 j (by omega)⟩
set_option maxHeartbeats 4000000 in
set_option maxRecDepth 100000 in
theorem l_X10_findStart {X : KX} {t : Nat} (C : Cx X RX10 cX10_findStart 6) (K : Kx X) (hnL : xnL X = 9) {Q : KI → KJ → KR → Prop} (E : Ev X Q) {I : KI} {J : KJ} {n r s : Nat} {rd : Nat → Nat → Nat} (hw : mTw I n r s rd) (ok : okTw n r s rd) {C0 : Nat → Nat → Nat} (hc : okW n r rd C0) (hW : mWy I n C0) {c : Nat} {ki co ag re : Nat → Nat} {T : Nat → Nat → Nat} (hk : mKd I c ki co ag re T) (okk : okKd n c ki co ag re T) {set a bell h : Nat} (hset : set < 2 ^ c) (ha : a < n) (hbell : bell ≤ 200) (hh : h ≤ 100) (hst : stB C0 s a (gL (pcG set c co ki ag) 7) = true) (hQ : ∀ I' J', (∀ q, q ≠ 85 → q ≠ 102 → q ≠ 103 → q ≠ 104 → I' q = I q) → (∀ j, j ≠ 27 → j ≠ 28 → j ≠ 29 → I' 85 j = I 85 j) → (∀ q, q ≠ 101 → J' q = J q) → I' 85 27 = nI (gL (pcG set c co ki ag) 7).length → I' 85 29 = stI (soS r rd C0 (rdG set c co re) (pcG set c co ki ag) s a bell h).1 → ((soS r rd C0 (rdG set c co re) (pcG set c co ki ag) s a bell h).1 ≠ 0 → (∀ i, i < (gL (pcG set c co ki ag) 7).length → I' 103 i = nI ((soS r rd C0 (rdG set c co re) (pcG set c co ki ag) s a bell h).2.getD i 0))) → Q I' J' (rf t)) : ∀ (f code : Nat) (I1 : KI) (J1 : KJ) (b : Nat × List Nat), (gL (pcG set c co ki ag) 7).length ^ (gL (pcG set c co ki ag) 7).length - code < f → ((∀ q, q ≠ 85 → q ≠ 102 → q ≠ 103 → q ≠ 104 → I1 q = I q) ∧ (∀ j, j ≠ 27 → j ≠ 28 → j ≠ 29 → I1 85 j = I 85 j) ∧ (∀ q, q ≠ 101 → J1 q = J q) ∧ mSg I1 (gL (pcG set c co ki ag) 7) ∧ code ≤ (gL (pcG set c co ki ag) 7).length ^ (gL (pcG set c co ki ag) 7).length ∧ b.1 ≤ 201 ∧ I1 85 29 = stI b.1 ∧ (b.1 ≠ 0 → (∀ i, i < (gL (pcG set c co ki ag) 7).length → I1 103 i = nI (b.2.getD i 0))) ∧ bsF (slF r rd C0 (rdG set c co re) (pcG set c co ki ag) s a bell h) (ords (gL (pcG set c co ki ag) 7)) (0, []) = bsF (slF r rd C0 (rdG set c co re) (pcG set c co ki ag) s a bell h) ((pmF (gL (pcG set c co ki ag) 7).length code).map (od (gL (pcG set c co ki ag) 7))) b) → Z X 0 0 (V X I1 J1 (rf t)) 16 [(6, .int (nI code)), (5, .int (nI ((gL (pcG set c co ki ag) 7).length ^ (gL (pcG set c co ki ag) 7).length))), (0, .ref (xad X 85)), (1, .int (nI set)), (2, .int (nI a)), (3, .int (nI bell)), (4, .int (nI h))] [] := by
  intro f
  induction f with
  | zero => intro code I1 J1 b h; omega
  | succ f ih =>
    intro code I1 J1 b hf hi
    obtain ⟨hfr, hfj, hfJ, hG1, hcl, hb1, hbs, hbv, hal⟩ := hi
    have hL4 := (stB_t.mp hst).1
    have hn7 := ok.1
    have hp4 := pow4 hL4
    have h1024 : 2 ^ c ≤ 2 ^ 10 := Nat.pow_le_pow_right (by decide) okk.1
    have hw1 : mTw I1 n r s rd := hw.fr (hfj 5 (by decide) (by decide) (by decide)) (hfj 6 (by decide) (by decide) (by decide)) (hfj 7 (by decide) (by decide) (by decide)) (fun q q1 q2 => hfr q (by omega) (by omega) (by omega) (by omega))
    have hW1 : mWy I1 n C0 := hW.fr (hfr 94 (by decide) (by decide) (by decide) (by decide))
    have hk1 : mKd I1 c ki co ag re T := hk.fr (hfj 19 (by decide) (by decide) (by decide)) (fun q q1 q2 => hfr q (by omega) (by omega) (by omega) (by omega))
    have hmem := fun x (hx : x ∈ (gL (pcG set c co ki ag) 7)) => gatesOf_lt okk hx
    refine z_iload (n := 18) C 0 dX10_findStart_16 rfl rfl ?_
    refine z_iload (n := 20) C 1 dX10_findStart_18 rfl rfl ?_
    refine z_icmp_ge (tgt := 99) (n := 23) C dX10_findStart_20 rfl rfl (fun c20 => ?_) (fun c20 => ?_)
    · refine z_vret C E dX10_findStart_99 ?_
      rw [fa_le, nI_toInt (by omega), nI_toInt (by omega)] at c20
      rw [pmF_end (by omega), List.map_nil, bsF] at hal
      have hso : (soS r rd C0 (rdG set c co re) (pcG set c co ki ag) s a bell h) = b := by unfold soS; rw [if_pos hst, hal]
      exact hQ I1 J1 hfr hfj hfJ hG1.1 (by rw [hso]; exact hbs) (by rw [hso]; exact hbv)
    · rw [fa_le, nI_toInt (by omega), nI_toInt (by omega)] at c20
      have hcode : code < (gL (pcG set c co ki ag) 7).length ^ (gL (pcG set c co ki ag) 7).length := by omega
      refine z_aload_n (n := 24) C 2 dX10_findStart_23 rfl rfl ?_
      refine z_iload (n := 26) C 0 dX10_findStart_24 rfl rfl ?_
      refine z_vi_1 (n := 29) (d' := 2) C K dX10_findStart_26 rfl yk_X10_layOrder yv_X10_layOrder kM_RX10_244 (by decide) hR0 rfl rfl sh_85 (by decide) (by decide) ?_
      refine c_X10_layOrder hG1 hL4 (by omega) (fun q I2 lyes hf2 hGq => ?_) (fun I2 lno hf2 => ?_)
      · refine z_ifT_ne (tgt := 35) C (by decide) dX10_findStart_29 rfl ?_
        have hqE := pmF_mem hL4 hcode lyes
        obtain ⟨hql, hqm⟩ := (pmE_fact hL4).2 q hqE
        have hw2 : mTw I2 n r s rd := hw1.fr (by rw [hf2 85 (by decide)]) (by rw [hf2 85 (by decide)]) (by rw [hf2 85 (by decide)]) (fun q q1 q2 => hf2 q (by omega))
        have hW2 : mWy I2 n C0 := hW1.fr (hf2 94 (by decide))
        have hk2 : mKd I2 c ki co ag re T := hk1.fr (by rw [hf2 85 (by decide)]) (fun q q1 q2 => hf2 q (by omega))
        have hol : (od (gL (pcG set c co ki ag) 7) q).length ≤ 7 := by rw [od_len]; omega
        have hom : ∀ x, x ∈ od (gL (pcG set c co ki ag) 7) q → x < n := fun x hx => hmem x (od_mem hqm hx)
        have hwk : wkB C0 s a (od (gL (pcG set c co ki ag) 7) q) = true := List.all_eq_true.mp (stB_t.mp hst).2 _ (List.mem_map.mpr ⟨q, hqE, rfl⟩)
        have hle := slF_le r rd C0 (rdG set c co re) (pcG set c co ki ag) s a bell h (od (gL (pcG set c co ki ag) 7) q)
        refine z_aload_n (n := 36) C 2 dX10_findStart_35 rfl rfl ?_
        refine z_iload_n (n := 37) C 3 dX10_findStart_36 rfl rfl ?_
        refine z_iload_n (n := 38) C 4 dX10_findStart_37 rfl rfl ?_
        refine z_iload_n (n := 39) C 5 dX10_findStart_38 rfl rfl ?_
        refine z_iload (n := 41) C 6 dX10_findStart_39 rfl rfl ?_
        refine z_vi_4 (n := 44) (d' := 5) C K dX10_findStart_41 rfl yk_X10_startBy yv_X10_startBy kM_RX10_250 (by decide) hR0 rfl rfl sh_85 (by decide) (by decide) ?_
        refine c_X10_startBy hw2 ok hc hW2 hk2 okk (hGq hql) hol hom (by omega) ha hwk hbell hh (fun I3 J3 hf3 hj3 hg3 => ?_)
        refine z_istore (n := 46) (L' := [(7, _), (6, _), (5, _), (0, _), (1, _), (2, _), (3, _), (4, _)]) C dX10_findStart_44 rfl (by rw [hnL]; decide) rfl ?_
        refine z_iload (n := 48) C 0 dX10_findStart_46 rfl rfl ?_
        refine z_aload_n (n := 49) C 3 dX10_findStart_48 rfl rfl ?_
        refine z_getI (n := 52) C K fF_RX10_247 dX10_findStart_49 rfl sh_85 (by decide) ?_
        rw [show I3 85 29 = stI b.1 by rw [hj3 29 (by decide), hf2 85 (by decide)]; exact hbs]
        refine z_icmp_le (tgt := 93) (n := 55) C dX10_findStart_52 rfl rfl (fun c52 => ?_) (fun c52 => ?_)
        · refine z_sub (L' := [(6, _), (5, _), (0, _), (1, _), (2, _), (3, _), (4, _)]) [1, 2, 3, 4, 5, 6, 7] rfl ?_
          rw [stI_le (by omega) hb1] at c52
          refine z_iincG (n := 96) (c := 1) (L' := [(6, _), (5, _), (0, _), (1, _), (2, _), (3, _), (4, _)]) C 0 dX10_findStart_93 rfl rfl rfl (by rw [hnL]; decide) rfl ?_
          refine z_goto (n := 16) C dX10_findStart_96 rfl ?_
          rw [nI_1]
          exact ih (code + 1) I3 J3 b (by omega) ⟨fun x h1 h2 h3 h4 => by rw [hf3 x h1, hf2 x h2]; exact hfr x h1 h2 h3 h4, fun j h1 h2 h3 => by rw [hj3 j h2, hf2 85 (by decide)]; exact hfj j h1 h2 h3, fun x hx => by rw [hg3 x hx]; exact hfJ x hx, hG1.fr (by rw [hj3 27 (by decide), hf2 85 (by decide)]) (by rw [hf3 104 (by decide), hf2 104 (by decide)]), by omega, hb1, by rw [hj3 29 (by decide), hf2 85 (by decide)]; exact hbs, fun e i hi => by rw [hf3 103 (by decide), hf2 103 (by decide)]; exact hbv e i hi, by rw [hal, pmF_some hcode lyes, List.map_cons, bsF, if_neg (by omega)]⟩
        · rw [stI_le (by omega) hb1] at c52
          have hlt : b.1 < slF r rd C0 (rdG set c co re) (pcG set c co ki ag) s a bell h (od (gL (pcG set c co ki ag) 7) q) := by omega
          refine z_aload_n (n := 56) C 3 dX10_findStart_55 rfl rfl ?_
          refine z_iload (n := 58) C 0 dX10_findStart_56 rfl rfl ?_
          refine z_putI (n := 61) C K fF_RX10_247 dX10_findStart_58 rfl sh_85 (by decide) ?_
          refine z_iconst (n := 62) (v := 0) C dX10_findStart_61 rfl rfl ?_
          refine z_istore (n := 64) (L' := [(8, _), (7, _), (6, _), (5, _), (0, _), (1, _), (2, _), (3, _), (4, _)]) C dX10_findStart_62 rfl (by rw [hnL]; decide) rfl ?_
          refine z_sub (L' := [(8, _), (6, _), (5, _), (0, _), (1, _), (2, _), (3, _), (4, _), (7, _)]) [0, 2, 3, 4, 5, 6, 7, 8, 1] rfl ?_
          refine lb_X10_findStart C K hnL (og := od (gL (pcG set c co ki ag) 7) q) (L := (gL (pcG set c co ki ag) 7).length) hL4 (by rw [od_len, hql]) (by rw [upI_k _ _ (by decide), hj3 27 (by decide), hf2 85 (by decide)]; exact hG1.1) ((hGq hql).2.fr (by rw [upI_row _ _ (by decide)]; exact hf3 102 (by decide))) (fun I4 hf4 hv4 => ?_) 5 0 _ (by omega) ⟨Nat.zero_le _, fun _ _ => rfl, fun j hj => by omega⟩
          refine z_iincG (n := 96) (c := 1) (L' := [(6, _), (5, _), (0, _), (1, _), (2, _), (3, _), (4, _)]) C 0 dX10_findStart_93 rfl rfl rfl (by rw [hnL]; decide) rfl ?_
          refine z_goto (n := 16) C dX10_findStart_96 rfl ?_
          rw [nI_1]
          exact ih (code + 1) I4 J3 (slF r rd C0 (rdG set c co re) (pcG set c co ki ag) s a bell h (od (gL (pcG set c co ki ag) 7) q), od (gL (pcG set c co ki ag) 7) q) (by omega) ⟨fun x h1 h2 h3 h4 => by rw [hf4 x h3, upI_row _ _ h1, hf3 x h1, hf2 x h2]; exact hfr x h1 h2 h3 h4, fun j h1 h2 h3 => by rw [hf4 85 (by decide), upI_k _ _ h3, hj3 j h2, hf2 85 (by decide)]; exact hfj j h1 h2 h3, fun x hx => by rw [hg3 x hx]; exact hfJ x hx, hG1.fr (by rw [hf4 85 (by decide), upI_k _ _ (by decide), hj3 27 (by decide), hf2 85 (by decide)]) (by rw [hf4 104 (by decide), upI_row _ _ (by decide), hf3 104 (by decide), hf2 104 (by decide)]), by omega, by show slF r rd C0 (rdG set c co re) (pcG set c co ki ag) s a bell h (od (gL (pcG set c co ki ag) 7) q) ≤ 201; omega, by rw [hf4 85 (by decide), upI_same], fun _ i hi => hv4 i hi, by rw [hal, pmF_some hcode lyes, List.map_cons, bsF, if_pos hlt]⟩
      · refine z_ifF_ne (n := 32) (tgt := 35) C (by decide) dX10_findStart_29 rfl rfl ?_
        refine z_goto (n := 93) C dX10_findStart_32 rfl ?_
        refine z_iincG (n := 96) (c := 1) (L' := [(6, _), (5, _), (0, _), (1, _), (2, _), (3, _), (4, _)]) C 0 dX10_findStart_93 rfl rfl rfl (by rw [hnL]; decide) rfl ?_
        refine z_goto (n := 16) C dX10_findStart_96 rfl ?_
        rw [nI_1]
        exact ih (code + 1) I2 J1 b (by omega) ⟨fun x h1 h2 h3 h4 => by rw [hf2 x h2]; exact hfr x h1 h2 h3 h4, fun j h1 h2 h3 => by rw [hf2 85 (by decide)]; exact hfj j h1 h2 h3, hfJ, hG1.fr (by rw [hf2 85 (by decide)]) (hf2 104 (by decide)), by omega, hb1, by rw [hf2 85 (by decide)]; exact hbs, fun e i hi => by rw [hf2 103 (by decide)]; exact hbv e i hi, by rw [hal, pmF_none hcode lno]⟩
set_option maxHeartbeats 4000000 in
set_option maxRecDepth 100000 in
theorem c_X10_findStart {ad : Nat → Nat} {I : KI} {J : KJ} {t : Nat} {n r s : Nat} {rd : Nat → Nat → Nat} (hw : mTw I n r s rd) (ok : okTw n r s rd) {C0 : Nat → Nat → Nat} (hc : okW n r rd C0) (hW : mWy I n C0) {c : Nat} {ki co ag re : Nat → Nat} {T : Nat → Nat → Nat} (hk : mKd I c ki co ag re T) (okk : okKd n c ki co ag re T) {set a bell h : Nat} (hset : set < 2 ^ c) (ha : a < n) (hbell : bell ≤ 200) (hh : h ≤ 100) (hst : stB C0 s a (gL (pcG set c co ki ag) 7) = true)  {Q : KI → KJ → KR → Prop} (hQ : ∀ I' J', (∀ q, q ≠ 85 → q ≠ 102 → q ≠ 103 → q ≠ 104 → I' q = I q) → (∀ j, j ≠ 27 → j ≠ 28 → j ≠ 29 → I' 85 j = I 85 j) → (∀ q, q ≠ 101 → J' q = J q) → I' 85 27 = nI (gL (pcG set c co ki ag) 7).length → I' 85 29 = stI (soS r rd C0 (rdG set c co re) (pcG set c co ki ag) s a bell h).1 → ((soS r rd C0 (rdG set c co re) (pcG set c co ki ag) s a bell h).1 ≠ 0 → (∀ i, i < (gL (pcG set c co ki ag) 7).length → I' 103 i = nI ((soS r rd C0 (rdG set c co re) (pcG set c co ki ag) s a bell h).2.getD i 0))) → Q I' J' (rf t))  : Mv 6 yX10_findStart (wm yX10_findStart cX10_findStart 9 none) [.ref (ad 85), .int (nI set), .int (nI a), .int (nI bell), .int (nI h)] ad I J (rf t) Q := by
  refine mv_of (own := RX10) yk_X10_findStart rfl (Nat.le_of_ble_eq_true rfl) rfl (fun X hA hnL C K E => ?_)
  subst hA
  have hn7 := ok.1
  have h1024 : 2 ^ c ≤ 2 ^ 10 := Nat.pow_le_pow_right (by decide) okk.1
  have hk0 : mKd (upI I 85 29 (-9)) c ki co ag re T := hk.fr (upI_k _ _ (by decide)) (fun q q1 q2 => upI_row _ _ (by omega))
  refine z_aload_n (n := 1) C 0 dX10_findStart_0 rfl rfl ?_
  refine z_bipush (n := 3) (v := (-9)) C dX10_findStart_1 rfl rfl ?_
  refine z_putI (n := 6) C K fF_RX10_247 dX10_findStart_3 rfl sh_85 (by decide) ?_
  refine z_aload_n (n := 7) C 0 dX10_findStart_6 rfl rfl ?_
  refine z_iload_n (n := 8) C 1 dX10_findStart_7 rfl rfl ?_
  refine z_vi_1 (n := 11) (d' := 3) C K dX10_findStart_8 rfl yk_X10_laySetGates yv_X10_laySetGates kM_RX10_241 (by decide) hR0 rfl rfl sh_85 (by decide) (by decide) ?_
  refine c_X10_laySetGates hk0 okk hn7 (by omega) (fun I1 hf1 hj1 hG1 => ?_)
  refine z_istore (n := 13) (L' := [(5, _), (0, _), (1, _), (2, _), (3, _), (4, _)]) C dX10_findStart_11 rfl (by rw [hnL]; decide) rfl ?_
  refine z_iconst (n := 14) (v := 0) C dX10_findStart_13 rfl rfl ?_
  refine z_istore (n := 16) (L' := [(6, _), (5, _), (0, _), (1, _), (2, _), (3, _), (4, _)]) C dX10_findStart_14 rfl (by rw [hnL]; decide) rfl ?_
  have hL4 := (stB_t.mp hst).1
  exact l_X10_findStart C K hnL E hw ok hc hW hk okk hset ha hbell hh hst hQ _ 0 I1 J (0, []) (Nat.lt_succ_self _) ⟨fun x h1 h2 h3 h4 => by rw [hf1 x h1 h4, upI_row _ _ h1], fun j h1 h2 h3 => by rw [hj1 j h1, upI_k _ _ h3], fun _ _ => rfl, hG1, Nat.zero_le _, Nat.zero_le _, by rw [hj1 29 (by decide), upI_same]; rfl, fun e => absurd rfl e, by rw [pmF_0 hL4]; rfl⟩
