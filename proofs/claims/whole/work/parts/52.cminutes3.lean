/-- late: after the bell -/
def ltS (bell : Nat) (t : Nat) : Nat := if bell < t then 1 else 0
theorem sN_cut {f : Nat → Nat} {s : Nat} (hs : s ≤ 135) (hz : ∀ d, s < d → d < 136 → f d = 0) : sN f (s + 1) = sN f 136 := by
  have h1 := sN_split f (s + 1) (135 - s)
  rw [show s + 1 + (135 - s) = 136 by omega] at h1
  rw [h1, sN_zero (fun i hi => hz (s + 1 + i) (by omega) (by omega))]; rfl
set_option maxHeartbeats 4000000 in
set_option maxRecDepth 100000 in
theorem l_X3_casesBehind {X : KX} {t : Nat} (C : Cx X RX3 cX3_casesBehind 1) (K : Kx X) (hnL : xnL X = 5) {Q : Int64 → KI → KJ → KR → Prop} (E : El X Q) {I : KI} {J : KJ} {f0 : Nat → Nat} {e s : Nat} (hs : s ≤ 135) (he : e + s ≤ 7000) (h1 : I 54 1 = nI e) (h2 : I 54 2 = nI s) (h4 : cA J 55 136 f0) {bell : Nat} (hb : bell ≤ 200) (hQ : Q (lN (sN (fun d => f0 d * ltS bell (e + d)) (s + 1))) I J (rf t)) : ∀ (f d : Nat), 136 - d < f → d ≤ s + 1 → Z X 0 0 (V X I J (rf t)) 5 [(4, .int (nI d)), (2, .long (lN (sN (fun d => f0 d * ltS bell (e + d)) d))), (0, .ref (xad X 54)), (1, .int (nI bell))] [] := by
  intro f
  induction f with
  | zero => intro d h; omega
  | succ f ih =>
    intro d hf hi

    refine z_iload (n := 7) C 0 dX3_casesBehind_5 rfl rfl ?_
    refine z_aload_n (n := 8) C 2 dX3_casesBehind_7 rfl rfl ?_
    refine z_getI (n := 11) C K fF_RX3_19 dX3_casesBehind_8 rfl sh_54 (by decide) ?_
    rw [h2]
    refine z_icmp_gt (tgt := 45) (n := 14) C dX3_casesBehind_11 rfl rfl (fun c11 => ?_) (fun c11 => ?_)
    · rw [fa_lt, nI_toInt (by omega), nI_toInt (by omega)] at c11
      have ed : d = s + 1 := by omega
      subst ed
      refine z_lload_n (n := 46) C 1 dX3_casesBehind_45 rfl rfl ?_
      refine z_lret C E dX3_casesBehind_46 ?_
      exact hQ
    · rw [fa_lt, nI_toInt (by omega), nI_toInt (by omega)] at c11
      refine z_lload_n (n := 15) C 1 dX3_casesBehind_14 rfl rfl ?_
      refine z_aload_n (n := 16) C 2 dX3_casesBehind_15 rfl rfl ?_
      refine z_getI (n := 19) C K fF_RX3_15 dX3_casesBehind_16 rfl sh_54 (by decide) ?_
      rw [h1]
      refine z_iload (n := 21) C 0 dX3_casesBehind_19 rfl rfl ?_
      refine z_iadd (n := 22) C dX3_casesBehind_21 rfl ?_
      rw [nI_add]
      refine z_iload_n (n := 23) C 3 dX3_casesBehind_22 rfl rfl ?_
      refine z_icmp_le (tgt := 36) (n := 26) C dX3_casesBehind_23 rfl rfl (fun c23 => ?_) (fun c23 => ?_)
      · refine z_lconst (n := 37) (v := 0) C dX3_casesBehind_36 rfl rfl ?_
        refine z_ladd (n := 38) C dX3_casesBehind_37 rfl ?_
        rw [fa_le, nI_toInt (by omega), nI_toInt (by omega)] at c23
        rw [show (0 : Int64) = lN 0 from rfl]
        rw [lN_add, show sN (fun d => f0 d * ltS bell (e + d)) d + 0 = sN (fun d => f0 d * ltS bell (e + d)) (d + 1) by
          show _ = sN (fun d => f0 d * ltS bell (e + d)) d + f0 d * ltS bell (e + d)
          unfold ltS; rw [if_neg (show ¬ bell < e + d by omega), Nat.mul_zero]]
        refine z_lstore_n (n := 39) (L' := [(2, _), (4, _), (0, _), (1, _)]) C dX3_casesBehind_38 rfl (by rw [hnL]; decide) rfl ?_
        refine z_iincG (n := 42) (c := 1) (L' := [(4, _), (2, _), (0, _), (1, _)]) C 1 dX3_casesBehind_39 rfl rfl rfl (by rw [hnL]; decide) rfl ?_
        refine z_goto (n := 5) C dX3_casesBehind_42 rfl ?_
        rw [nI_1]
        exact ih (d + 1) (by omega) (by omega)
      · rw [fa_le, nI_toInt (by omega), nI_toInt (by omega)] at c23
        refine z_aload_n (n := 27) C 2 dX3_casesBehind_26 rfl rfl ?_
        refine z_getR (n := 30) (q := 55) C K fF_RX3_11 dX3_casesBehind_27 rfl rfl sh_54 (by decide) rfl ?_
        refine z_iload (n := 32) C 0 dX3_casesBehind_30 rfl rfl ?_
        refine z_laldN (n := 33) C K d dX3_casesBehind_32 rfl sh_55 (by decide) rfl (by omega) (by decide) ?_
        rw [h4 d (by omega)]
        refine z_goto (n := 37) C dX3_casesBehind_33 rfl ?_
        refine z_ladd (n := 38) C dX3_casesBehind_37 rfl ?_
        rw [lN_add, show sN (fun d => f0 d * ltS bell (e + d)) d + f0 d = sN (fun d => f0 d * ltS bell (e + d)) (d + 1) by
          show _ = sN (fun d => f0 d * ltS bell (e + d)) d + f0 d * ltS bell (e + d)
          unfold ltS; rw [if_pos (show bell < e + d by omega), Nat.mul_one]]
        refine z_lstore_n (n := 39) (L' := [(2, _), (4, _), (0, _), (1, _)]) C dX3_casesBehind_38 rfl (by rw [hnL]; decide) rfl ?_
        refine z_iincG (n := 42) (c := 1) (L' := [(4, _), (2, _), (0, _), (1, _)]) C 1 dX3_casesBehind_39 rfl rfl rfl (by rw [hnL]; decide) rfl ?_
        refine z_goto (n := 5) C dX3_casesBehind_42 rfl ?_
        rw [nI_1]
        exact ih (d + 1) (by omega) (by omega)
set_option maxHeartbeats 4000000 in
set_option maxRecDepth 100000 in
theorem c_X3_casesBehind {ad : Nat → Nat} {I : KI} {J : KJ} {t : Nat} {P : List St} {m : Nat} (hc : crs P ≤ 15) (hub : tmx P m ≤ 7000) (hM : cMn I J P m) {bell : Nat} (hb : bell ≤ 200) {Q : Int64 → KI → KJ → KR → Prop} (hQ : Q (lN (ev P (ltS bell) m)) I J (rf t)) : Ml 1 yX3_casesBehind (wm yX3_casesBehind cX3_casesBehind 5 (some .long)) [.ref (ad 54), .int (nI bell)] ad I J (rf t) Q := by
  refine ml_of (own := RX3) yk_X3_casesBehind rfl (Nat.le_of_ble_eq_true rfl) rfl (fun X hA hnL C K E => ?_)
  subst hA
  obtain ⟨f, e, s, h1, h2, h3, h4, h5, h6, h7, h8⟩ := hM
  rw [← h8, ← sN_cut (s := s) (by omega) (fun d q1 q2 => by rw [h5 d q1 q2, Nat.zero_mul])] at hQ
  refine z_lconst (n := 1) (v := 0) C dX3_casesBehind_0 rfl rfl ?_
  refine z_lstore_n (n := 2) (L' := [(2, _), (0, _), (1, _)]) C dX3_casesBehind_1 rfl (by rw [hnL]; decide) rfl ?_
  refine z_iconst (n := 3) (v := 0) C dX3_casesBehind_2 rfl rfl ?_
  refine z_istore (n := 5) (L' := [(4, _), (2, _), (0, _), (1, _)]) C dX3_casesBehind_3 rfl (by rw [hnL]; decide) rfl ?_
  exact l_X3_casesBehind C K hnL E (by omega) (by omega) h1 h2 h4 hb hQ 137 0 (by omega) (by omega)
set_option maxHeartbeats 4000000 in
set_option maxRecDepth 100000 in
theorem l_X3_sumOverCases {X : KX} {t : Nat} (C : Cx X RX3 cX3_sumOverCases 1) (K : Kx X) (hnL : xnL X = 4) {Q : Int64 → KI → KJ → KR → Prop} (E : El X Q) {I : KI} {J : KJ} {f0 : Nat → Nat} {e s : Nat} (hs : s ≤ 135) (he : e + s ≤ 7000) (h1 : I 54 1 = nI e) (h2 : I 54 2 = nI s) (h4 : cA J 55 136 f0) (hQ : Q (lN (sN (fun d => f0 d * (e + d)) (s + 1))) I J (rf t)) : ∀ (f d : Nat), 136 - d < f → d ≤ s + 1 → Z X 0 0 (V X I J (rf t)) 4 [(3, .int (nI d)), (1, .long (lN (sN (fun d => f0 d * (e + d)) d))), (0, .ref (xad X 54))] [] := by
  intro f
  induction f with
  | zero => intro d h; omega
  | succ f ih =>
    intro d hf hi

    refine z_iload_n (n := 5) C 0 dX3_sumOverCases_4 rfl rfl ?_
    refine z_aload_n (n := 6) C 2 dX3_sumOverCases_5 rfl rfl ?_
    refine z_getI (n := 9) C K fF_RX3_19 dX3_sumOverCases_6 rfl sh_54 (by decide) ?_
    rw [h2]
    refine z_icmp_gt (tgt := 35) (n := 12) C dX3_sumOverCases_9 rfl rfl (fun c9 => ?_) (fun c9 => ?_)
    · rw [fa_lt, nI_toInt (by omega), nI_toInt (by omega)] at c9
      have ed : d = s + 1 := by omega
      subst ed
      refine z_lload_n (n := 36) C 1 dX3_sumOverCases_35 rfl rfl ?_
      refine z_lret C E dX3_sumOverCases_36 ?_
      exact hQ
    · rw [fa_lt, nI_toInt (by omega), nI_toInt (by omega)] at c9
      refine z_lload_n (n := 13) C 1 dX3_sumOverCases_12 rfl rfl ?_
      refine z_aload_n (n := 14) C 2 dX3_sumOverCases_13 rfl rfl ?_
      refine z_getR (n := 17) (q := 55) C K fF_RX3_11 dX3_sumOverCases_14 rfl rfl sh_54 (by decide) rfl ?_
      refine z_iload_n (n := 18) C 0 dX3_sumOverCases_17 rfl rfl ?_
      refine z_laldN (n := 19) C K d dX3_sumOverCases_18 rfl sh_55 (by decide) rfl (by omega) (by decide) ?_
      rw [h4 d (by omega)]
      refine z_aload_n (n := 20) C 2 dX3_sumOverCases_19 rfl rfl ?_
      refine z_getI (n := 23) C K fF_RX3_15 dX3_sumOverCases_20 rfl sh_54 (by decide) ?_
      rw [h1]
      refine z_iload_n (n := 24) C 0 dX3_sumOverCases_23 rfl rfl ?_
      refine z_iadd (n := 25) C dX3_sumOverCases_24 rfl ?_
      rw [nI_add]
      refine z_i2l (n := 26) C dX3_sumOverCases_25 rfl ?_
      rw [lN_i2l (by omega)]
      refine z_lmul (n := 27) C dX3_sumOverCases_26 rfl ?_
      rw [lN_mul]
      refine z_ladd (n := 28) C dX3_sumOverCases_27 rfl ?_
      rw [lN_add, show sN (fun d => f0 d * (e + d)) d + f0 d * (e + d) = sN (fun d => f0 d * (e + d)) (d + 1) from rfl]
      refine z_lstore_n (n := 29) (L' := [(1, _), (3, _), (0, _)]) C dX3_sumOverCases_28 rfl (by rw [hnL]; decide) rfl ?_
      refine z_iincG (n := 32) (c := 1) (L' := [(3, _), (1, _), (0, _)]) C 1 dX3_sumOverCases_29 rfl rfl rfl (by rw [hnL]; decide) rfl ?_
      refine z_goto (n := 4) C dX3_sumOverCases_32 rfl ?_
      rw [nI_1]
      exact ih (d + 1) (by omega) (by omega)
set_option maxHeartbeats 4000000 in
set_option maxRecDepth 100000 in
theorem c_X3_sumOverCases {ad : Nat → Nat} {I : KI} {J : KJ} {t : Nat} {P : List St} {m : Nat} (hc : crs P ≤ 15) (hub : tmx P m ≤ 7000) (hM : cMn I J P m)  {Q : Int64 → KI → KJ → KR → Prop} (hQ : Q (lN (ev P (fun t => t) m)) I J (rf t)) : Ml 1 yX3_sumOverCases (wm yX3_sumOverCases cX3_sumOverCases 4 (some .long)) [.ref (ad 54)] ad I J (rf t) Q := by
  refine ml_of (own := RX3) yk_X3_sumOverCases rfl (Nat.le_of_ble_eq_true rfl) rfl (fun X hA hnL C K E => ?_)
  subst hA
  obtain ⟨f, e, s, h1, h2, h3, h4, h5, h6, h7, h8⟩ := hM
  rw [← h8, ← sN_cut (s := s) (by omega) (fun d q1 q2 => by rw [h5 d q1 q2, Nat.zero_mul])] at hQ
  refine z_lconst (n := 1) (v := 0) C dX3_sumOverCases_0 rfl rfl ?_
  refine z_lstore_n (n := 2) (L' := [(1, _), (0, _)]) C dX3_sumOverCases_1 rfl (by rw [hnL]; decide) rfl ?_
  refine z_iconst (n := 3) (v := 0) C dX3_sumOverCases_2 rfl rfl ?_
  refine z_istore_n (n := 4) (L' := [(3, _), (1, _), (0, _)]) C dX3_sumOverCases_3 rfl (by rw [hnL]; decide) rfl ?_
  exact l_X3_sumOverCases C K hnL E (by omega) (by omega) h1 h2 h4 hQ 137 0 (by omega) (by omega)
