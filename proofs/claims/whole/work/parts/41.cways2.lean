theorem flo_le {C : Nat → Nat → Nat} {m a b : Nat} (h : C a b ≤ 1048576) : flo C m a b ≤ 1048576 := by unfold flo; omega
set_option maxHeartbeats 4000000 in
set_option maxRecDepth 100000 in
theorem la_X7_findWays {X : KX} {J : KJ} {t : Nat} (C : Cx X RX7 cX7_findWays 4) (K : Kx X) (hnL : xnL X = 4) (ht : Tw t) {n r s : Nat} {rd : Nat → Nat → Nat} {I : KI} (hw : cTw t I n r s rd) (ok : okTw n r s rd) {m : Nat} (hm : m < n) {C0 : Nat → Nat → Nat} (hF : okF n r rd m C0) {a : Nat} (ha : a < n) (hN : ∀ I1, frW t I I1 → gC t n I1 (mix C0 m a n) → Z X 0 0 (V X I1 J (rf t)) 76 [(2, .int (nI a)), (1, .int (nI m)), (0, .ref (xad X t))] []) : ∀ (f b : Nat) (I1 : KI), n - b < f → (b ≤ n ∧ frW t I I1 ∧ gC t n I1 (mix C0 m a b)) → Z X 0 0 (V X I1 J (rf t)) 26 [(3, .int (nI b)), (2, .int (nI a)), (1, .int (nI m)), (0, .ref (xad X t))] [] := by
  intro f
  induction f with
  | zero => intro b I1 h; omega
  | succ f ih =>
    intro b I1 hf hi
    obtain ⟨hbn, hfr, hg⟩ := hi
    have hn7 := ok.1
    have hw1 := hfr.tw hw
    refine z_iload_n (n := 27) C 0 dX7_findWays_26 rfl rfl ?_
    refine z_aload_n (n := 28) C 3 dX7_findWays_27 rfl rfl ?_
    refine z_getI (n := 31) C K fF_RX7_9 dX7_findWays_28 rfl (sh_tw ht) (Tw.lt0 ht) ?_
    rw [hw1.1]
    refine z_icmp_ge (tgt := 76) (n := 34) C dX7_findWays_31 rfl rfl (fun c31 => ?_) (fun c31 => ?_)
    · refine z_sub (L' := [(2, _), (1, _), (0, _)]) [1, 2, 3] rfl ?_
      rw [fa_le, nI_toInt (by omega), nI_toInt (by omega)] at c31
      have e : b = n := by omega
      subst e
      exact hN I1 hfr hg
    · rw [fa_le, nI_toInt (by omega), nI_toInt (by omega)] at c31
      have hb : b < n := by omega
      have h00 := hF.1 m hm
      have g1 := hF.2.1 a b ha hb
      have g2 := hF.2.1 a m ha hm
      have g3 := hF.2.1 m b hm hb
      refine z_aload_n (n := 35) C 3 dX7_findWays_34 rfl rfl ?_
      refine z_getR (n := 38) (q := (t + 6)) C K fF_RX7_39 dX7_findWays_35 rfl rfl (sh_tw ht) (Tw.lt0 ht) (rf_tw8 ht) ?_
      refine z_iload_n (n := 39) C 1 dX7_findWays_38 rfl rfl ?_
      refine z_aaldN (n := 40) (q := (t + 7 + a)) (ci := 2) C K a dX7_findWays_39 rfl (by decide) (sh_tw6 ht) (Tw.lt ht (by decide)) rfl (by omega) (by decide) (rf_tr7 ht (by omega)) ?_
      refine z_iload_n (n := 41) C 0 dX7_findWays_40 rfl rfl ?_
      refine z_aload_n (n := 42) C 3 dX7_findWays_41 rfl rfl ?_
      refine z_getR (n := 45) (q := (t + 6)) C K fF_RX7_39 dX7_findWays_42 rfl rfl (sh_tw ht) (Tw.lt0 ht) (rf_tw8 ht) ?_
      refine z_iload_n (n := 46) C 1 dX7_findWays_45 rfl rfl ?_
      refine z_aaldN (n := 47) (q := (t + 7 + a)) (ci := 2) C K a dX7_findWays_46 rfl (by decide) (sh_tw6 ht) (Tw.lt ht (by decide)) rfl (by omega) (by decide) (rf_tr7 ht (by omega)) ?_
      refine z_iload_n (n := 48) C 0 dX7_findWays_47 rfl rfl ?_
      refine z_ialdN (n := 49) C K b dX7_findWays_48 rfl (sh_tr7 ht (by omega)) (Tw.ltr ht (by decide) (by omega)) rfl (by omega) (by decide) ?_
      rw [hg a b ha hb, mix_ab]
      refine z_aload_n (n := 50) C 3 dX7_findWays_49 rfl rfl ?_
      refine z_getR (n := 53) (q := (t + 6)) C K fF_RX7_39 dX7_findWays_50 rfl rfl (sh_tw ht) (Tw.lt0 ht) (rf_tw8 ht) ?_
      refine z_iload_n (n := 54) C 1 dX7_findWays_53 rfl rfl ?_
      refine z_aaldN (n := 55) (q := (t + 7 + a)) (ci := 2) C K a dX7_findWays_54 rfl (by decide) (sh_tw6 ht) (Tw.lt ht (by decide)) rfl (by omega) (by decide) (rf_tr7 ht (by omega)) ?_
      refine z_iload_n (n := 56) C 2 dX7_findWays_55 rfl rfl ?_
      refine z_ialdN (n := 57) C K m dX7_findWays_56 rfl (sh_tr7 ht (by omega)) (Tw.ltr ht (by decide) (by omega)) rfl (by omega) (by decide) ?_
      rw [hg a m ha hm, mix_am h00]
      refine z_aload_n (n := 58) C 3 dX7_findWays_57 rfl rfl ?_
      refine z_getR (n := 61) (q := (t + 6)) C K fF_RX7_39 dX7_findWays_58 rfl rfl (sh_tw ht) (Tw.lt0 ht) (rf_tw8 ht) ?_
      refine z_iload_n (n := 62) C 2 dX7_findWays_61 rfl rfl ?_
      refine z_aaldN (n := 63) (q := (t + 7 + m)) (ci := 2) C K m dX7_findWays_62 rfl (by decide) (sh_tw6 ht) (Tw.lt ht (by decide)) rfl (by omega) (by decide) (rf_tr7 ht (by omega)) ?_
      refine z_iload_n (n := 64) C 0 dX7_findWays_63 rfl rfl ?_
      refine z_ialdN (n := 65) C K b dX7_findWays_64 rfl (sh_tr7 ht (by omega)) (Tw.ltr ht (by decide) (by omega)) rfl (by omega) (by decide) ?_
      rw [hg m b hm hb, mix_mb h00]
      refine z_iadd (n := 66) C dX7_findWays_65 rfl ?_
      rw [nI_add]
      refine z_min (n := 69) C dX7_findWays_66 rfl kM_RX7_52 (by decide) hR0 rfl ?_
      rw [min_nI (by omega) (by omega)]
      refine z_iastN (n := 70) C K b dX7_findWays_69 rfl (sh_tr7 ht (by omega)) (Tw.ltr ht (by decide) (by omega)) rfl (by omega) (by decide) ?_
      refine z_iincG (n := 73) (c := 1) (L' := [(3, _), (2, _), (1, _), (0, _)]) C 0 dX7_findWays_70 rfl rfl rfl (by rw [hnL]; decide) rfl ?_
      refine z_goto (n := 26) C dX7_findWays_73 rfl ?_
      rw [nI_1]
      exact ih (b + 1) _ (by omega) ⟨by omega, hfr.u (by omega) (by omega), hg.step⟩
set_option maxHeartbeats 4000000 in
set_option maxRecDepth 100000 in
theorem lb_X7_findWays {X : KX} {J : KJ} {t : Nat} (C : Cx X RX7 cX7_findWays 4) (K : Kx X) (hnL : xnL X = 4) (ht : Tw t) {n r s : Nat} {rd : Nat → Nat → Nat} {I : KI} (hw : cTw t I n r s rd) (ok : okTw n r s rd) {m : Nat} (hm : m < n) {C0 : Nat → Nat → Nat} (hF : okF n r rd m C0) (hN : ∀ I1, frW t I I1 → gC t n I1 (flo C0 m) → Z X 0 0 (V X I1 J (rf t)) 82 [(1, .int (nI m)), (0, .ref (xad X t))] []) : ∀ (f a : Nat) (I1 : KI), n - a < f → (a ≤ n ∧ frW t I I1 ∧ gC t n I1 (mix C0 m a 0)) → Z X 0 0 (V X I1 J (rf t)) 16 [(2, .int (nI a)), (1, .int (nI m)), (0, .ref (xad X t))] [] := by
  intro f
  induction f with
  | zero => intro a I1 h; omega
  | succ f ih =>
    intro a I1 hf hi
    obtain ⟨han, hfr, hg⟩ := hi
    have hn7 := ok.1
    have hw1 := hfr.tw hw
    refine z_iload_n (n := 17) C 0 dX7_findWays_16 rfl rfl ?_
    refine z_aload_n (n := 18) C 2 dX7_findWays_17 rfl rfl ?_
    refine z_getI (n := 21) C K fF_RX7_9 dX7_findWays_18 rfl (sh_tw ht) (Tw.lt0 ht) ?_
    rw [hw1.1]
    refine z_icmp_ge (tgt := 82) (n := 24) C dX7_findWays_21 rfl rfl (fun c21 => ?_) (fun c21 => ?_)
    · refine z_sub (L' := [(1, _), (0, _)]) [1, 2] rfl ?_
      rw [fa_le, nI_toInt (by omega), nI_toInt (by omega)] at c21
      have e : a = n := by omega
      subst e
      exact hN I1 hfr hg.fin
    · refine z_iconst (n := 25) (v := 0) C dX7_findWays_24 rfl rfl ?_
      refine z_istore_n (n := 26) (L' := [(3, _), (2, _), (1, _), (0, _)]) C dX7_findWays_25 rfl (by rw [hnL]; decide) rfl ?_
      rw [fa_le, nI_toInt (by omega), nI_toInt (by omega)] at c21
      refine la_X7_findWays C K hnL ht hw1 ok hm hF (show a < n by omega) (fun I2 hf2 hg2 => ?_) (n + 1) 0 I1 (by omega) ⟨by omega, frW.rf _ _, hg⟩
      refine z_iincG (n := 79) (c := 1) (L' := [(2, _), (1, _), (0, _)]) C 0 dX7_findWays_76 rfl rfl rfl (by rw [hnL]; decide) rfl ?_
      refine z_goto (n := 16) C dX7_findWays_79 rfl ?_
      rw [nI_1]
      exact ih (a + 1) I2 (by omega) ⟨by omega, fun q hq => by rw [hf2 q hq, hfr q hq], hg2.row⟩
set_option maxHeartbeats 4000000 in
set_option maxRecDepth 100000 in
theorem lc_X7_findWays {X : KX} {J : KJ} {t : Nat} (C : Cx X RX7 cX7_findWays 4) (K : Kx X) (hnL : xnL X = 4) (ht : Tw t) {n r s : Nat} {rd : Nat → Nat → Nat} {I : KI} (hw : cTw t I n r s rd) (ok : okTw n r s rd) (hN : ∀ I1 C0, frW t I I1 → gC t n I1 C0 → okW n r rd C0 → Z X 0 0 (V X I1 J (rf t)) 88 [(0, .ref (xad X t))] []) : ∀ (f m : Nat) (I1 : KI) (C0 : Nat → Nat → Nat), n - m < f → (m ≤ n ∧ frW t I I1 ∧ gC t n I1 C0 ∧ okF n r rd m C0) → Z X 0 0 (V X I1 J (rf t)) 6 [(1, .int (nI m)), (0, .ref (xad X t))] [] := by
  intro f
  induction f with
  | zero => intro m I1 C0 h; omega
  | succ f ih =>
    intro m I1 C0 hf hi
    obtain ⟨hmn, hfr, hg, hF⟩ := hi
    have hn7 := ok.1
    have hw1 := hfr.tw hw
    refine z_iload_n (n := 7) C 0 dX7_findWays_6 rfl rfl ?_
    refine z_aload_n (n := 8) C 1 dX7_findWays_7 rfl rfl ?_
    refine z_getI (n := 11) C K fF_RX7_9 dX7_findWays_8 rfl (sh_tw ht) (Tw.lt0 ht) ?_
    rw [hw1.1]
    refine z_icmp_ge (tgt := 88) (n := 14) C dX7_findWays_11 rfl rfl (fun c11 => ?_) (fun c11 => ?_)
    · refine z_sub (L' := [(0, _)]) [1] rfl ?_
      rw [fa_le, nI_toInt (by omega), nI_toInt (by omega)] at c11
      have e : m = n := by omega
      subst e
      exact hN I1 C0 hfr hg (hF.fin ok.2.2.2 hF.2.1)
    · refine z_iconst (n := 15) (v := 0) C dX7_findWays_14 rfl rfl ?_
      refine z_istore_n (n := 16) (L' := [(2, _), (1, _), (0, _)]) C dX7_findWays_15 rfl (by rw [hnL]; decide) rfl ?_
      rw [fa_le, nI_toInt (by omega), nI_toInt (by omega)] at c11
      refine lb_X7_findWays C K hnL ht hw1 ok (show m < n by omega) hF (fun I2 hf2 hg2 => ?_) (n + 1) 0 I1 (by omega) ⟨by omega, frW.rf _ _, hg.start⟩
      refine z_iincG (n := 85) (c := 1) (L' := [(1, _), (0, _)]) C 0 dX7_findWays_82 rfl rfl rfl (by rw [hnL]; decide) rfl ?_
      refine z_goto (n := 6) C dX7_findWays_85 rfl ?_
      rw [nI_1]
      exact ih (m + 1) I2 _ (by omega) ⟨by omega, fun q hq => by rw [hf2 q hq, hfr q hq], hg2, hF.step ok.2.2.2 (by omega)⟩
set_option maxHeartbeats 4000000 in
set_option maxRecDepth 100000 in
theorem ld_X7_findWays {X : KX} {J : KJ} {t : Nat} (C : Cx X RX7 cX7_findWays 4) (K : Kx X) (hnL : xnL X = 4) (ht : Tw t) {n r s : Nat} {rd : Nat → Nat → Nat} {I : KI} (hw : cTw t I n r s rd) (ok : okTw n r s rd) {C0 : Nat → Nat → Nat} (hc : okW n r rd C0) {a : Nat} (ha : a < n) (hN : ∀ I1, frW t I I1 → gC t n I1 C0 → lexG t 15 n a n I1 (nxI r rd C0) → Z X 0 0 (V X I1 J (rf t)) 128 [(1, .int (nI a)), (0, .ref (xad X t))] []) : ∀ (f b : Nat) (I1 : KI), n - b < f → (b ≤ n ∧ frW t I I1 ∧ gC t n I1 C0 ∧ lexG t 15 n a b I1 (nxI r rd C0)) → Z X 0 0 (V X I1 J (rf t)) 100 [(2, .int (nI b)), (1, .int (nI a)), (0, .ref (xad X t))] [] := by
  intro f
  induction f with
  | zero => intro b I1 h; omega
  | succ f ih =>
    intro b I1 hf hi
    obtain ⟨hbn, hfr, hg, hl⟩ := hi
    have hn7 := ok.1
    have hw1 := hfr.tw hw
    refine z_iload_n (n := 101) C 0 dX7_findWays_100 rfl rfl ?_
    refine z_aload_n (n := 102) C 2 dX7_findWays_101 rfl rfl ?_
    refine z_getI (n := 105) C K fF_RX7_9 dX7_findWays_102 rfl (sh_tw ht) (Tw.lt0 ht) ?_
    rw [hw1.1]
    refine z_icmp_ge (tgt := 128) (n := 108) C dX7_findWays_105 rfl rfl (fun c105 => ?_) (fun c105 => ?_)
    · refine z_sub (L' := [(1, _), (0, _)]) [1, 2] rfl ?_
      rw [fa_le, nI_toInt (by omega), nI_toInt (by omega)] at c105
      have e : b = n := by omega
      subst e
      exact hN I1 hfr hg hl
    · rw [fa_le, nI_toInt (by omega), nI_toInt (by omega)] at c105
      have hb : b < n := by omega
      refine z_aload_n (n := 109) C 2 dX7_findWays_108 rfl rfl ?_
      refine z_getR (n := 112) (q := (t + 14)) C K fF_RX7_42 dX7_findWays_109 rfl rfl (sh_tw ht) (Tw.lt0 ht) (rf_tw9 ht) ?_
      refine z_iload_n (n := 113) C 1 dX7_findWays_112 rfl rfl ?_
      refine z_aaldN (n := 114) (q := (t + 15 + a)) (ci := 2) C K a dX7_findWays_113 rfl (by decide) (sh_tw14 ht) (Tw.lt ht (by decide)) rfl (by omega) (by decide) (rf_tr15 ht (by omega)) ?_
      refine z_iload_n (n := 115) C 0 dX7_findWays_114 rfl rfl ?_
      refine z_aload_n (n := 116) C 2 dX7_findWays_115 rfl rfl ?_
      refine z_iload_n (n := 117) C 1 dX7_findWays_116 rfl rfl ?_
      refine z_iload_n (n := 118) C 0 dX7_findWays_117 rfl rfl ?_
      refine z_vi_2 (n := 121) (d' := 3) C K dX7_findWays_118 rfl yk_X7_firstRoadOfWay yv_X7_firstRoadOfWay kM_RX7_58 (by decide) hR0 rfl rfl (sh_tw ht) (by decide) (Tw.lt0 ht) ?_
      refine c_X7_firstRoadOfWay ht hw1 ok hg hc ha hb ?_
      refine z_iastN (n := 122) C K b dX7_findWays_121 rfl (sh_tr15 ht (by omega)) (Tw.ltr ht (by decide) (by omega)) rfl (by omega) (by decide) ?_
      refine z_iincG (n := 125) (c := 1) (L' := [(2, _), (1, _), (0, _)]) C 0 dX7_findWays_122 rfl rfl rfl (by rw [hnL]; decide) rfl ?_
      refine z_goto (n := 100) C dX7_findWays_125 rfl ?_
      rw [nI_1]
      exact ih (b + 1) _ (by omega) ⟨by omega, hfr.u (by omega) (by omega), fun x y hx hy => by rw [upI_row _ _ (by omega)]; exact hg x y hx hy, hl.step rfl⟩
set_option maxHeartbeats 4000000 in
set_option maxRecDepth 100000 in
theorem le_X7_findWays {X : KX} {J : KJ} {t : Nat} (C : Cx X RX7 cX7_findWays 4) (K : Kx X) (hnL : xnL X = 4) {Q : KI → KJ → KR → Prop} (E : Ev X Q) (ht : Tw t) {n r s : Nat} {rd : Nat → Nat → Nat} {I : KI} (hw : cTw t I n r s rd) (ok : okTw n r s rd) {C0 : Nat → Nat → Nat} (hc : okW n r rd C0) (hQ : ∀ I1, frW t I I1 → cWy t I1 n r rd C0 → Q I1 J (rf t)) : ∀ (f a : Nat) (I1 : KI), n - a < f → (a ≤ n ∧ frW t I I1 ∧ gC t n I1 C0 ∧ lexG t 15 n a 0 I1 (nxI r rd C0)) → Z X 0 0 (V X I1 J (rf t)) 90 [(1, .int (nI a)), (0, .ref (xad X t))] [] := by
  intro f
  induction f with
  | zero => intro a I1 h; omega
  | succ f ih =>
    intro a I1 hf hi
    obtain ⟨han, hfr, hg, hl⟩ := hi
    have hn7 := ok.1
    have hw1 := hfr.tw hw
    refine z_iload_n (n := 91) C 0 dX7_findWays_90 rfl rfl ?_
    refine z_aload_n (n := 92) C 1 dX7_findWays_91 rfl rfl ?_
    refine z_getI (n := 95) C K fF_RX7_9 dX7_findWays_92 rfl (sh_tw ht) (Tw.lt0 ht) ?_
    rw [hw1.1]
    refine z_icmp_ge (tgt := 134) (n := 98) C dX7_findWays_95 rfl rfl (fun c95 => ?_) (fun c95 => ?_)
    · refine z_vret C E dX7_findWays_134 ?_
      rw [fa_le, nI_toInt (by omega), nI_toInt (by omega)] at c95
      have e : a = n := by omega
      subst e
      exact hQ I1 hfr ⟨hg, hl.all⟩
    · refine z_iconst (n := 99) (v := 0) C dX7_findWays_98 rfl rfl ?_
      refine z_istore_n (n := 100) (L' := [(2, _), (1, _), (0, _)]) C dX7_findWays_99 rfl (by rw [hnL]; decide) rfl ?_
      rw [fa_le, nI_toInt (by omega), nI_toInt (by omega)] at c95
      refine ld_X7_findWays C K hnL ht hw1 ok hc (show a < n by omega) (fun I2 hf2 hg2 hl2 => ?_) (n + 1) 0 I1 (by omega) ⟨by omega, frW.rf _ _, hg, hl⟩
      refine z_iincG (n := 131) (c := 1) (L' := [(1, _), (0, _)]) C 0 dX7_findWays_128 rfl rfl rfl (by rw [hnL]; decide) rfl ?_
      refine z_goto (n := 90) C dX7_findWays_131 rfl ?_
      rw [nI_1]
      exact ih (a + 1) I2 (by omega) ⟨by omega, fun q hq => by rw [hf2 q hq, hfr q hq], hg2, hl2.row⟩
set_option maxHeartbeats 4000000 in
set_option maxRecDepth 100000 in
theorem c_X7_findWays {ad : Nat → Nat} {I : KI} {J : KJ} {t : Nat} (ht : Tw t) {n r s : Nat} {rd : Nat → Nat → Nat}(hw : cTw t I n r s rd) (ok : okTw n r s rd)  {Q : KI → KJ → KR → Prop} (hQ : ∀ I1 C0, frW t I I1 → okW n r rd C0 → cWy t I1 n r rd C0 → Q I1 J (rf t)) : Mv 4 yX7_findWays (wm yX7_findWays cX7_findWays 4 none) [.ref (ad t)] ad I J (rf t) Q := by
  refine mv_of (own := RX7) yk_X7_findWays rfl (Nat.le_of_ble_eq_true rfl) rfl (fun X hA hnL C K E => ?_)
  subst hA
  refine z_aload_n (n := 1) C 0 dX7_findWays_0 rfl rfl ?_
  refine z_vv_0 (n := 4) (d' := 3) C K dX7_findWays_1 rfl yk_X7_setRoadCosts yv_X7_setRoadCosts kM_RX7_49 (by decide) hR0 rfl rfl (sh_tw ht) (by decide) (Tw.lt0 ht) ?_
  refine c_X7_setRoadCosts ht hw ok (fun I1 C1 hf1 hg1 hE1 => ?_)
  refine z_iconst (n := 5) (v := 0) C dX7_findWays_4 rfl rfl ?_
  refine z_istore_n (n := 6) (L' := [(1, _), (0, _)]) C dX7_findWays_5 rfl (by rw [hnL]; decide) rfl ?_
  refine lc_X7_findWays C K hnL ht (hf1.tw hw) ok (fun I2 C0 hf2 hg2 hc => ?_) (n + 1) 0 I1 C1 (by omega) ⟨by omega, frW.rf _ _, hg1, hE1.F ok.2.2.2⟩
  refine z_iconst (n := 89) (v := 0) C dX7_findWays_88 rfl rfl ?_
  refine z_istore_n (n := 90) (L' := [(1, _), (0, _)]) C dX7_findWays_89 rfl (by rw [hnL]; decide) rfl ?_
  exact le_X7_findWays C K hnL E ht (hf2.tw (hf1.tw hw)) ok hc (fun I3 hf3 h3 => hQ I3 C0 (fun q hq => by rw [hf3 q hq, hf2 q hq, hf1 q hq]) hc h3) (n + 1) 0 I2 (by omega) ⟨by omega, frW.rf _ _, hg2, lexG.zero⟩
set_option maxHeartbeats 4000000 in
set_option maxRecDepth 100000 in
theorem c_X9_moveToSpareTown {ad : Nat → Nat} {I : KI} {J : KJ} {t : Nat} (ht : Tw t) {n r s : Nat} {rd : Nat → Nat → Nat} (hw : cTw (30 - t) I n r s rd) (ok : okTw n r s rd)  {Q : KI → KJ → KR → Prop} (hQ : ∀ I1 C0, frW (30 - t) I I1 → okW n r rd C0 → cWy (30 - t) I1 n r rd C0 → Q (upI I1 0 5 0) J (rf (30 - t))) : Mv 5 yX9_moveToSpareTown (wm yX9_moveToSpareTown cX9_moveToSpareTown 2 none) [.ref (ad 0)] ad I J (rf t) Q := by
  refine mv_of (own := RX9) yk_X9_moveToSpareTown rfl (Nat.le_of_ble_eq_true rfl) rfl (fun X hA hnL C K E => ?_)
  subst hA
  refine z_aload_n (n := 1) C 0 dX9_moveToSpareTown_0 rfl rfl ?_
  refine z_getR (n := 4) (q := t) C K fF_RX9_27 dX9_moveToSpareTown_1 rfl rfl sh_0 (by decide) rfl ?_
  refine z_astore_n (n := 5) (L' := [(1, _), (0, _)]) C dX9_moveToSpareTown_4 rfl (by rw [hnL]; decide) rfl ?_
  refine z_aload_n (n := 6) C 1 dX9_moveToSpareTown_5 rfl rfl ?_
  refine z_aload_n (n := 7) C 1 dX9_moveToSpareTown_6 rfl rfl ?_
  refine z_getR (n := 10) (q := (30 - t)) C K fF_RX9_31 dX9_moveToSpareTown_7 rfl rfl sh_0 (by decide) rfl ?_
  refine z_putR (n := 13) C K fF_RX9_27 dX9_moveToSpareTown_10 rfl sh_0 (by decide) ?_
  refine z_aload_n (n := 14) C 1 dX9_moveToSpareTown_13 rfl rfl ?_
  refine z_aload_n (n := 15) C 0 dX9_moveToSpareTown_14 rfl rfl ?_
  refine z_putR (n := 18) C K fF_RX9_31 dX9_moveToSpareTown_15 rfl sh_0 (by decide) ?_
  rw [rf_swap ht]
  refine z_aload_n (n := 19) C 1 dX9_moveToSpareTown_18 rfl rfl ?_
  refine z_getR (n := 22) (q := (30 - t)) C K fF_RX9_27 dX9_moveToSpareTown_19 rfl rfl sh_0 (by decide) rfl ?_
  refine z_vv_0 (n := 25) (d' := 4) C K dX9_moveToSpareTown_22 rfl yk_X7_findWays yv_X7_findWays kM_RX9_358 (by decide) hR0 rfl rfl (sh_tw ht.o) (by decide) (Tw.lt0 ht.o) ?_
  refine c_X7_findWays ht.o hw ok (fun I1 C0 hf1 hc1 h1 => ?_)
  refine z_aload_n (n := 26) C 1 dX9_moveToSpareTown_25 rfl rfl ?_
  refine z_iconst (n := 27) (v := 0) C dX9_moveToSpareTown_26 rfl rfl ?_
  refine z_putI (n := 30) C K fF_RX9_40 dX9_moveToSpareTown_27 rfl sh_0 (by decide) ?_
  refine z_vret C E dX9_moveToSpareTown_30 ?_
  exact hQ I1 C0 hf1 hc1 h1
