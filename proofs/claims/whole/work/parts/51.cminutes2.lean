theorem ev_wait {P : List St} {m e s mn : Nat} {f : Nat → Nat} (h8 : ∀ h : Nat → Nat, sN (fun d => f d * h (e + d)) 136 = ev P h m) (hle : mn ≤ e) (h : Nat → Nat) : sN (fun d => f d * h (e + d)) 136 = ev (P ++ [(2, mn, 0)]) h m := by
  rw [ev_snoc, ← h8]
  exact sN_cong (fun i _ => by show f i * h (e + i) = f i * h (max (e + i) mn); rw [Nat.max_eq_left (by omega)])
theorem wtH_0 {f : Nat → Nat} {gap s : Nat} : fu f 0 (sN f (min s gap + 1)) = wtH f gap s 1 := by
  funext i
  unfold wtH fu
  by_cases e : i = 0
  · subst e; rw [if_pos rfl, if_pos (by omega)]; unfold wtF; rw [if_pos rfl]
  · rw [if_neg e, if_neg (by omega)]
theorem wtH_s {f : Nat → Nat} {gap s d v : Nat} (hd : 0 < d) (hv : v = if d + gap ≤ s then f (d + gap) else 0) : fu (wtH f gap s d) d v = wtH f gap s (d + 1) := by
  funext i
  show (if i = d then v else if i < d then wtF f gap s i else f i) = if i < d + 1 then wtF f gap s i else f i
  by_cases e : i = d
  · subst e
    rw [if_pos rfl, if_pos (by omega)]
    unfold wtF
    rw [if_neg (show ¬ i = 0 by omega)]
    exact hv
  · rw [if_neg e]
    by_cases e2 : i < d
    · rw [if_pos e2, if_pos (by omega)]
    · rw [if_neg e2, if_neg (by omega)]
set_option maxHeartbeats 4000000 in
set_option maxRecDepth 100000 in
theorem la_X3_waitUntil {X : KX} {t : Nat} (C : Cx X RX3 cX3_waitUntil 1) (K : Kx X) (hnL : xnL X = 6) {I : KI} {J : KJ} {f0 : Nat → Nat} {s gap mn : Nat} (hs : s ≤ 135) (hg : gap ≤ 60) (h2 : I 54 2 = nI s) (h4 : cA J 55 136 f0) (hN : Z X 0 0 (V X I J (rf t)) 48 [(3, .long (lN (sN f0 (min s gap + 1)))), (2, .int (nI gap)), (0, .ref (xad X 54)), (1, .int (nI mn))] []) : ∀ (f d : Nat), 136 - d < f → d ≤ min s gap + 1 → Z X 0 0 (V X I J (rf t)) 17 [(5, .int (nI d)), (3, .long (lN (sN f0 d))), (2, .int (nI gap)), (0, .ref (xad X 54)), (1, .int (nI mn))] [] := by
  intro f
  induction f with
  | zero => intro d h; omega
  | succ f ih =>
    intro d hf hi

    refine z_iload (n := 19) C 0 dX3_waitUntil_17 rfl rfl ?_
    refine z_aload_n (n := 20) C 3 dX3_waitUntil_19 rfl rfl ?_
    refine z_getI (n := 23) C K fF_RX3_19 dX3_waitUntil_20 rfl sh_54 (by decide) ?_
    rw [h2]
    refine z_icmp_gt (tgt := 48) (n := 26) C dX3_waitUntil_23 rfl rfl (fun c23 => ?_) (fun c23 => ?_)
    · refine z_sub (L' := [(3, _), (2, _), (0, _), (1, _)]) [1, 2, 3, 4] rfl ?_
      rw [fa_lt, nI_toInt (by omega), nI_toInt (by omega)] at c23
      have e : d = min s gap + 1 := by omega
      subst e
      exact hN
    · rw [fa_lt, nI_toInt (by omega), nI_toInt (by omega)] at c23
      refine z_iload (n := 28) C 0 dX3_waitUntil_26 rfl rfl ?_
      refine z_iload_n (n := 29) C 2 dX3_waitUntil_28 rfl rfl ?_
      refine z_icmp_gt (tgt := 48) (n := 32) C dX3_waitUntil_29 rfl rfl (fun c29 => ?_) (fun c29 => ?_)
      · refine z_sub (L' := [(3, _), (2, _), (0, _), (1, _)]) [1, 2, 3, 4] rfl ?_
        rw [fa_lt, nI_toInt (by omega), nI_toInt (by omega)] at c29
        have e : d = min s gap + 1 := by omega
        subst e
        exact hN
      · rw [fa_lt, nI_toInt (by omega), nI_toInt (by omega)] at c29
        refine z_lload_n (n := 33) C 1 dX3_waitUntil_32 rfl rfl ?_
        refine z_aload_n (n := 34) C 3 dX3_waitUntil_33 rfl rfl ?_
        refine z_getR (n := 37) (q := 55) C K fF_RX3_11 dX3_waitUntil_34 rfl rfl sh_54 (by decide) rfl ?_
        refine z_iload (n := 39) C 0 dX3_waitUntil_37 rfl rfl ?_
        refine z_laldN (n := 40) C K d dX3_waitUntil_39 rfl sh_55 (by decide) rfl (by omega) (by decide) ?_
        rw [h4 d (by omega)]
        refine z_ladd (n := 41) C dX3_waitUntil_40 rfl ?_
        rw [lN_add, show sN f0 d + f0 d = sN f0 (d + 1) from rfl]
        refine z_lstore_n (n := 42) (L' := [(3, _), (5, _), (2, _), (0, _), (1, _)]) C dX3_waitUntil_41 rfl (by rw [hnL]; decide) rfl ?_
        refine z_iincG (n := 45) (c := 1) (L' := [(5, _), (3, _), (2, _), (0, _), (1, _)]) C 1 dX3_waitUntil_42 rfl rfl rfl (by rw [hnL]; decide) rfl ?_
        refine z_goto (n := 17) C dX3_waitUntil_45 rfl ?_
        rw [nI_1]
        exact ih (d + 1) (by omega) (by omega)
set_option maxHeartbeats 4000000 in
set_option maxRecDepth 100000 in
theorem lb_X3_waitUntil {X : KX} {t : Nat} (C : Cx X RX3 cX3_waitUntil 1) (K : Kx X) (hnL : xnL X = 6) {I : KI} {J : KJ} {f0 : Nat → Nat} {s gap mn : Nat} (hs : s ≤ 135) (hg : gap ≤ 60) (h2 : I 54 2 = nI s) (hz : ∀ d, s < d → d < 136 → f0 d = 0) (hN : ∀ J1, (∀ q, q ≠ 55 → J1 q = J q) → cA J1 55 136 (wtF f0 gap s) → Z X 0 0 (V X I J1 (rf t)) 104 [(2, .int (nI gap)), (0, .ref (xad X 54)), (1, .int (nI mn))] []) : ∀ (f d : Nat) (J1 : KJ), 136 - d < f → (1 ≤ d ∧ d ≤ s + 1 ∧ (∀ q, q ≠ 55 → J1 q = J q) ∧ cA J1 55 136 (wtH f0 gap s d)) → Z X 0 0 (V X I J1 (rf t)) 58 [(5, .int (nI d)), (2, .int (nI gap)), (0, .ref (xad X 54)), (1, .int (nI mn))] [] := by
  intro f
  induction f with
  | zero => intro d J1 h; omega
  | succ f ih =>
    intro d J1 hf hi
    obtain ⟨hd1, hds, hfr, hA⟩ := hi
    refine z_iload (n := 60) C 0 dX3_waitUntil_58 rfl rfl ?_
    refine z_aload_n (n := 61) C 2 dX3_waitUntil_60 rfl rfl ?_
    refine z_getI (n := 64) C K fF_RX3_19 dX3_waitUntil_61 rfl sh_54 (by decide) ?_
    rw [h2]
    refine z_icmp_gt (tgt := 104) (n := 67) C dX3_waitUntil_64 rfl rfl (fun c64 => ?_) (fun c64 => ?_)
    · refine z_sub (L' := [(2, _), (0, _), (1, _)]) [1, 2, 3] rfl ?_
      rw [fa_lt, nI_toInt (by omega), nI_toInt (by omega)] at c64
      exact hN J1 hfr (hA.cg (fun i hi => by
        unfold wtH
        by_cases e : i < d
        · rw [if_pos e]
        · rw [if_neg e, hz i (by omega) hi]; unfold wtF; rw [if_neg (by omega), if_neg (by omega)]))
    · rw [fa_lt, nI_toInt (by omega), nI_toInt (by omega)] at c64
      refine z_aload_n (n := 68) C 2 dX3_waitUntil_67 rfl rfl ?_
      refine z_getR (n := 71) (q := 55) C K fF_RX3_11 dX3_waitUntil_68 rfl rfl sh_54 (by decide) rfl ?_
      refine z_iload (n := 73) C 0 dX3_waitUntil_71 rfl rfl ?_
      refine z_iload (n := 75) C 0 dX3_waitUntil_73 rfl rfl ?_
      refine z_aload_n (n := 76) C 2 dX3_waitUntil_75 rfl rfl ?_
      refine z_getI (n := 79) C K fF_RX3_19 dX3_waitUntil_76 rfl sh_54 (by decide) ?_
      refine z_iload_n (n := 80) C 1 dX3_waitUntil_79 rfl rfl ?_
      rw [h2]
      refine z_isub (n := 81) C dX3_waitUntil_80 rfl ?_
      refine z_icmp_gt (tgt := 96) (n := 84) C dX3_waitUntil_81 rfl rfl (fun c81 => ?_) (fun c81 => ?_)
      · refine z_lconst (n := 97) (v := 0) C dX3_waitUntil_96 rfl rfl ?_
        rw [fa_lt, sub_toI (by omega) (by omega), nI_toInt (by omega)] at c81
        have ew : (0) = if d + gap ≤ s then f0 (d + gap) else 0 := by rw [if_neg (by omega)]
        rw [show (0 : Int64) = lN 0 from rfl]
        refine z_lastN (n := 98) C K d dX3_waitUntil_97 rfl sh_55 (by decide) rfl (by omega) (by decide) ?_
        refine z_iincG (n := 101) (c := 1) (L' := [(5, _), (2, _), (0, _), (1, _)]) C 0 dX3_waitUntil_98 rfl rfl rfl (by rw [hnL]; decide) rfl ?_
        refine z_goto (n := 58) C dX3_waitUntil_101 rfl ?_
        rw [nI_1]
        have hup := hA.up d (0)
        rw [wtH_s (by omega) ew] at hup
        exact ih (d + 1) _ (by omega) ⟨by omega, by omega, fun q hq => by rw [upJ_row _ _ hq]; exact hfr q hq, hup⟩
      · rw [fa_lt, sub_toI (by omega) (by omega), nI_toInt (by omega)] at c81
        refine z_aload_n (n := 85) C 2 dX3_waitUntil_84 rfl rfl ?_
        refine z_getR (n := 88) (q := 55) C K fF_RX3_11 dX3_waitUntil_85 rfl rfl sh_54 (by decide) rfl ?_
        refine z_iload (n := 90) C 0 dX3_waitUntil_88 rfl rfl ?_
        refine z_iload_n (n := 91) C 1 dX3_waitUntil_90 rfl rfl ?_
        refine z_iadd (n := 92) C dX3_waitUntil_91 rfl ?_
        rw [nI_add]
        refine z_laldN (n := 93) C K (d + gap) dX3_waitUntil_92 rfl sh_55 (by decide) rfl (by omega) (by decide) ?_
        rw [hA (d + gap) (by omega), show wtH f0 gap s d (d + gap) = f0 (d + gap) by unfold wtH; rw [if_neg (by omega)]]
        refine z_goto (n := 97) C dX3_waitUntil_93 rfl ?_
        have ew : (f0 (d + gap)) = if d + gap ≤ s then f0 (d + gap) else 0 := by rw [if_pos (by omega)]
        refine z_lastN (n := 98) C K d dX3_waitUntil_97 rfl sh_55 (by decide) rfl (by omega) (by decide) ?_
        refine z_iincG (n := 101) (c := 1) (L' := [(5, _), (2, _), (0, _), (1, _)]) C 0 dX3_waitUntil_98 rfl rfl rfl (by rw [hnL]; decide) rfl ?_
        refine z_goto (n := 58) C dX3_waitUntil_101 rfl ?_
        rw [nI_1]
        have hup := hA.up d (f0 (d + gap))
        rw [wtH_s (by omega) ew] at hup
        exact ih (d + 1) _ (by omega) ⟨by omega, by omega, fun q hq => by rw [upJ_row _ _ hq]; exact hfr q hq, hup⟩
set_option maxHeartbeats 4000000 in
set_option maxRecDepth 100000 in
theorem c_X3_waitUntil {ad : Nat → Nat} {I : KI} {J : KJ} {t : Nat} {P : List St} {m : Nat} (hc : crs P ≤ 15) (hM : cMn I J P m) {mn : Nat} (hmn : mn ≤ 60) (hub : tmx P m < 10000) {Q : KI → KJ → KR → Prop} (hQ : ∀ I' J', (∀ q, q ≠ 54 → I' q = I q) → (∀ q, q ≠ 54 → q ≠ 55 → J' q = J q) → cMn I' J' (P ++ [(2, mn, 0)]) m → Q I' J' (rf t)) : Mv 1 yX3_waitUntil (wm yX3_waitUntil cX3_waitUntil 6 none) [.ref (ad 54), .int (nI mn)] ad I J (rf t) Q := by
  refine mv_of (own := RX3) yk_X3_waitUntil rfl (Nat.le_of_ble_eq_true rfl) rfl (fun X hA hnL C K E => ?_)
  subst hA
  obtain ⟨f, e, s, h1, h2, h3, h4, h5, h6, h7, h8⟩ := hM
  refine z_iload_n (n := 1) C 1 dX3_waitUntil_0 rfl rfl ?_
  refine z_aload_n (n := 2) C 0 dX3_waitUntil_1 rfl rfl ?_
  refine z_getI (n := 5) C K fF_RX3_15 dX3_waitUntil_2 rfl sh_54 (by decide) ?_
  rw [h1]
  refine z_isub (n := 6) C dX3_waitUntil_5 rfl ?_
  refine z_istore_n (n := 7) (L' := [(2, _), (0, _), (1, _)]) C dX3_waitUntil_6 rfl (by rw [hnL]; decide) rfl ?_
  refine z_iload_n (n := 8) C 0 dX3_waitUntil_7 rfl rfl ?_
  refine z_if_gt (tgt := 12) (n := 11) C dX3_waitUntil_8 rfl rfl (fun c8 => ?_) (fun c8 => ?_)
  · rw [fa_lt, sub_toI (by omega) (by omega)] at c8
    simp only [Int32.reduceToInt] at c8
    rw [nI_sub (show e ≤ mn by omega) (by omega)]
    refine z_lconst (n := 13) (v := 0) C dX3_waitUntil_12 rfl rfl ?_
    refine z_lstore_n (n := 14) (L' := [(3, _), (2, _), (0, _), (1, _)]) C dX3_waitUntil_13 rfl (by rw [hnL]; decide) rfl ?_
    refine z_iconst (n := 15) (v := 0) C dX3_waitUntil_14 rfl rfl ?_
    refine z_istore (n := 17) (L' := [(5, _), (3, _), (2, _), (0, _), (1, _)]) C dX3_waitUntil_15 rfl (by rw [hnL]; decide) rfl ?_
    refine la_X3_waitUntil C K hnL (f0 := f) (s := s) (by omega) (show mn - e ≤ 60 by omega) h2 h4 ?_ 137 0 (by omega) (by omega)
    refine z_aload_n (n := 49) C 2 dX3_waitUntil_48 rfl rfl ?_
    refine z_getR (n := 52) (q := 55) C K fF_RX3_11 dX3_waitUntil_49 rfl rfl sh_54 (by decide) rfl ?_
    refine z_iconst (n := 53) (v := 0) C dX3_waitUntil_52 rfl rfl ?_
    refine z_lload_n (n := 54) C 0 dX3_waitUntil_53 rfl rfl ?_
    refine z_lastN (n := 55) C K 0 dX3_waitUntil_54 rfl sh_55 (by decide) rfl (by decide) (by decide) ?_
    refine z_iconst (n := 56) (v := 1) C dX3_waitUntil_55 rfl rfl ?_
    refine z_istore (n := 58) (L' := [(5, _), (3, _), (2, _), (0, _), (1, _)]) C dX3_waitUntil_56 rfl (by rw [hnL]; decide) rfl ?_
    refine z_sub (L' := [(5, _), (2, _), (0, _), (1, _)]) [0, 2, 3, 4] rfl ?_
    have hup := h4.up 0 (sN f (min s (mn - e) + 1))
    rw [wtH_0] at hup
    refine lb_X3_waitUntil C K hnL (f0 := f) (s := s) (by omega) (by omega) h2 h5 (fun J1 hf2 hA => ?_) 137 1 _ (by omega) ⟨by omega, by omega, fun _ _ => rfl, hup⟩
    refine z_aload_n (n := 105) C 1 dX3_waitUntil_104 rfl rfl ?_
    refine z_iconst (n := 106) (v := 0) C dX3_waitUntil_105 rfl rfl ?_
    refine z_aload_n (n := 107) C 1 dX3_waitUntil_106 rfl rfl ?_
    refine z_getI (n := 110) C K fF_RX3_19 dX3_waitUntil_107 rfl sh_54 (by decide) ?_
    rw [h2]
    refine z_iload_n (n := 111) C 0 dX3_waitUntil_110 rfl rfl ?_
    refine z_isub (n := 112) C dX3_waitUntil_111 rfl ?_
    refine z_max (n := 115) C dX3_waitUntil_112 rfl kM_RX3_28 (by decide) hR0 rfl ?_
    rw [show (if (0 : Int32) < nI s - nI (mn - e) then nI s - nI (mn - e) else 0) = nI (s - (mn - e)) from ?_]
    rotate_left
    · split
      · rename_i q
        rw [fa_lt, sub_toI (by omega) (by omega)] at q
        simp only [Int32.reduceToInt] at q
        exact nI_sub (by omega) (by omega)
      · rename_i q
        rw [fa_lt, sub_toI (by omega) (by omega)] at q
        simp only [Int32.reduceToInt] at q
        rw [show s - (mn - e) = 0 by omega]; rfl
    refine z_putI (n := 118) C K fF_RX3_19 dX3_waitUntil_115 rfl sh_54 (by decide) ?_
    refine z_aload_n (n := 119) C 1 dX3_waitUntil_118 rfl rfl ?_
    refine z_iload_n (n := 120) C 2 dX3_waitUntil_119 rfl rfl ?_
    refine z_putI (n := 123) C K fF_RX3_15 dX3_waitUntil_120 rfl sh_54 (by decide) ?_
    refine z_vret C E dX3_waitUntil_123 ?_
    refine hQ _ _ (fun q hq => by rw [upI_row _ _ hq, upI_row _ _ hq]) (fun q q1 q2 => by rw [hf2 q q2, upJ_row _ _ q2]) ⟨wtF f (mn - e) s, mn, s - (mn - e), ?_, ?_, ?_, hA, ?_, ?_, ?_, fun h => ?_⟩
    · rw [upI_same]
    · rw [upI_k _ _ (by decide), upI_same]
    · rw [hf2 54 (by decide), upJ_row _ _ (by decide), h3, crs_snoc]; rfl
    · intro d hd hd2
      unfold wtF
      rw [if_neg (by omega)]
      by_cases e1 : d + (mn - e) ≤ s
      · omega
      · rw [if_neg e1]
    · rw [crs_snoc]; omega
    · rw [tmx_snoc]; show mn + (s - (mn - e)) ≤ max (tmx P m) mn; omega
    · rw [ev_snoc, ← h8]
      have h9 := wtF_ev (f := f) (h := h) (e := e) (gap := mn - e) (s := s) (by omega) h5
      rw [show e + (mn - e) = mn by omega] at h9
      exact h9
  · rw [fa_lt, sub_toI (by omega) (by omega)] at c8
    simp only [Int32.reduceToInt] at c8
    refine z_vret C E dX3_waitUntil_11 ?_
    refine hQ I J (fun q _ => rfl) (fun q _ _ => rfl) ⟨f, e, s, h1, h2, ?_, h4, h5, ?_, ?_, fun h => ev_wait (s := s) h8 (by omega) h⟩
    · rw [h3, crs_snoc]; rfl
    · rw [crs_snoc]; omega
    · rw [tmx_snoc]; show e + s ≤ max (tmx P m) mn; omega
