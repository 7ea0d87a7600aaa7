theorem mWy.at {I : KI} {n : Nat} {C : Nat → Nat → Nat} (h : mWy I n C) {a b : Nat} (ha : a < n) (hb : b < n) : I 94 (7 * a + b) = nI (cvS (C a b)) := h a b ha hb
set_option maxHeartbeats 4000000 in
set_option maxRecDepth 100000 in
theorem l_X10_nextRoad {X : KX} {J : KJ} {t : Nat} (C : Cx X RX10 cX10_nextRoad 2) (K : Kx X) (hnL : xnL X = 5) {Q : Int32 → KI → KJ → KR → Prop} (E : Ei X .int Q) {I : KI} {n r s : Nat} {rd : Nat → Nat → Nat} (hw : mTw I n r s rd) (ok : okTw n r s rd) {C0 : Nat → Nat → Nat} (hc : okW n r rd C0) (hW : mWy I n C0) {x y : Nat} (hx : x < n) (hy : y < n) (hxy : x ≠ y) (hlt : C0 x y < 1048576) (hQ : Q (nI (nxS rd C0 x y r)) I J (rf t)) : ∀ (f : Nat) (k : Nat), r - k < f → (k ≤ r ∧ ∀ j, j < k → ¬ tgS rd C0 x y j) → Z X 0 0 (V X I J (rf t)) 2 [(3, .int (nI k)), (0, .ref (xad X 85)), (1, .int (nI x)), (2, .int (nI y))] [] := by
  intro f
  induction f with
  | zero => intro k h; omega
  | succ f ih =>
    intro k hf hi
    obtain ⟨hkr, hno⟩ := hi
    have hn7 := ok.1
    have hr12 := ok.2.1
    have hrd : okRd n r rd := ok.2.2.2
    have e7 : (7 : Int32) = nI 7 := rfl
    have hcl := (cvS_way hn7 hrd hc hx hy hlt).2.2
    refine z_iload_n (n := 3) C 0 dX10_nextRoad_2 rfl rfl ?_
    refine z_aload_n (n := 4) C 1 dX10_nextRoad_3 rfl rfl ?_
    refine z_getI (n := 7) C K fF_RX10_124 dX10_nextRoad_4 rfl sh_85 (by decide) ?_
    rw [hw.2.1]
    refine z_icmp_ge (tgt := 99) (n := 10) C dX10_nextRoad_7 rfl rfl (fun c7 => ?_) (fun c7 => ?_)
    · rw [fa_le, nI_toInt (by omega), nI_toInt (by omega)] at c7
      exfalso
      have h9 := (hc.next hrd hx hy hxy hlt).1
      rw [nxS_none r (fun j hj => hno j (by omega))] at h9
      exact absurd h9 (Nat.lt_irrefl _)
    · rw [fa_le, nI_toInt (by omega), nI_toInt (by omega)] at c7
      have hk : k < r := by omega
      have hz := hw.2.2.2 k hk
      have hb9 := ok.2.2.2 k hk
      have ho := oth_lt hrd (a := x) hk
      have hwl := w100_le hrd hk
      have hol := cvS_le hn7 hrd hc ho hy
      refine z_aload_n (n := 11) C 1 dX10_nextRoad_10 rfl rfl ?_
      refine z_getR (n := 14) (q := 89) C K fF_RX10_19 dX10_nextRoad_11 rfl rfl sh_85 (by decide) rfl ?_
      refine z_iload_n (n := 15) C 0 dX10_nextRoad_14 rfl rfl ?_
      refine z_ialdN (n := 16) C K k dX10_nextRoad_15 rfl sh_89 (by decide) rfl (by omega) (by decide) ?_
      rw [hz.1]
      refine z_iload_n (n := 17) C 2 dX10_nextRoad_16 rfl rfl ?_
      refine z_icmp_ne (tgt := 29) (n := 20) C dX10_nextRoad_17 rfl rfl (fun c17 => ?_) (fun c17 => ?_)
      · refine z_aload_n (n := 30) C 1 dX10_nextRoad_29 rfl rfl ?_
        refine z_getR (n := 33) (q := 90) C K fF_RX10_22 dX10_nextRoad_30 rfl rfl sh_85 (by decide) rfl ?_
        refine z_iload_n (n := 34) C 0 dX10_nextRoad_33 rfl rfl ?_
        refine z_ialdN (n := 35) C K k dX10_nextRoad_34 rfl sh_90 (by decide) rfl (by omega) (by decide) ?_
        rw [hz.2.1]
        refine z_iload_n (n := 36) C 2 dX10_nextRoad_35 rfl rfl ?_
        refine z_icmp_ne (tgt := 48) (n := 39) C dX10_nextRoad_36 rfl rfl (fun c36 => ?_) (fun c36 => ?_)
        · refine z_bipush (n := 50) (v := (-9)) C dX10_nextRoad_48 rfl rfl ?_
          refine z_istore (n := 52) (L' := [(4, _), (3, _), (0, _), (1, _), (2, _)]) C dX10_nextRoad_50 rfl (by rw [hnL]; decide) rfl ?_
          refine z_iload (n := 54) C 0 dX10_nextRoad_52 rfl rfl ?_
          refine z_bipush (n := 56) (v := (-9)) C dX10_nextRoad_54 rfl rfl ?_
          refine z_icmpT_eq (tgt := 93) C (by decide) dX10_nextRoad_56 rfl ?_
          refine z_iincG (n := 96) (c := 1) (L' := [(3, _), (4, _), (0, _), (1, _), (2, _)]) C 1 dX10_nextRoad_93 rfl rfl rfl (by rw [hnL]; decide) rfl ?_
          refine z_goto (n := 2) C dX10_nextRoad_96 rfl ?_
          refine z_sub (L' := [(3, _), (0, _), (1, _), (2, _)]) [0, 2, 3, 4] rfl ?_
          have hnt : ¬ tgS rd C0 x y k := fun q => q.1.elim (fun e => c17 (by rw [e])) (fun e => c36 (by rw [e]))
          rw [nI_1]
          exact ih (k + 1) (by omega) ⟨by omega, fun j hj => by
            by_cases e : j = k
            · rw [e]; exact hnt
            · exact hno j (by omega)⟩
        · refine z_aload_n (n := 40) C 1 dX10_nextRoad_39 rfl rfl ?_
          refine z_getR (n := 43) (q := 89) C K fF_RX10_19 dX10_nextRoad_40 rfl rfl sh_85 (by decide) rfl ?_
          refine z_iload_n (n := 44) C 0 dX10_nextRoad_43 rfl rfl ?_
          refine z_ialdN (n := 45) C K k dX10_nextRoad_44 rfl sh_89 (by decide) rfl (by omega) (by decide) ?_
          refine z_goto (n := 50) C dX10_nextRoad_45 rfl ?_
          have hin : incS rd k x := Or.inr (nI_inj c36 (by omega) (by omega))
          rw [hz.1, show rd 0 k = othS rd k x by unfold othS; rw [if_neg (fun e => c17 (by rw [e]))]]
          refine z_istore (n := 52) (L' := [(4, _), (3, _), (0, _), (1, _), (2, _)]) C dX10_nextRoad_50 rfl (by rw [hnL]; decide) rfl ?_
          refine z_iload (n := 54) C 0 dX10_nextRoad_52 rfl rfl ?_
          refine z_bipush (n := 56) (v := (-9)) C dX10_nextRoad_54 rfl rfl ?_
          refine z_icmpF_eq (n := 59) (tgt := 93) C (fun e => by rw [fa_eq, nI_toInt (by omega)] at e; simp only [Int32.reduceToInt] at e; omega) dX10_nextRoad_56 rfl rfl ?_
          refine z_aload_n (n := 60) C 2 dX10_nextRoad_59 rfl rfl ?_
          refine z_getR (n := 63) (q := 94) C K fF_RX10_34 dX10_nextRoad_60 rfl rfl sh_85 (by decide) rfl ?_
          refine z_bipush (n := 65) (v := 7) C dX10_nextRoad_63 rfl rfl ?_
          rw [e7]
          refine z_iload (n := 67) C 0 dX10_nextRoad_65 rfl rfl ?_
          refine z_imul (n := 68) C dX10_nextRoad_67 rfl ?_
          rw [mul_nI]
          refine z_iload_n (n := 69) C 4 dX10_nextRoad_68 rfl rfl ?_
          refine z_iadd (n := 70) C dX10_nextRoad_69 rfl ?_
          rw [nI_add]
          refine z_ialdN (n := 71) C K (7 * othS rd k x + y) dX10_nextRoad_70 rfl sh_94 (by decide) rfl (by omega) (by decide) ?_
          rw [hW.at ho hy]
          refine z_aload_n (n := 72) C 2 dX10_nextRoad_71 rfl rfl ?_
          refine z_iload_n (n := 73) C 1 dX10_nextRoad_72 rfl rfl ?_
          refine z_vi_1 (n := 76) (d' := 1) C K dX10_nextRoad_73 rfl yk_X10_costOf yv_X10_costOf kM_RX10_153 (by decide) hR0 rfl rfl sh_85 (by decide) (by decide) ?_
          refine c_X10_costOf hw ok hk ?_
          refine z_iadd (n := 77) C dX10_nextRoad_76 rfl ?_
          rw [nI_add]
          refine z_aload_n (n := 78) C 2 dX10_nextRoad_77 rfl rfl ?_
          refine z_getR (n := 81) (q := 94) C K fF_RX10_34 dX10_nextRoad_78 rfl rfl sh_85 (by decide) rfl ?_
          refine z_bipush (n := 83) (v := 7) C dX10_nextRoad_81 rfl rfl ?_
          rw [e7]
          refine z_iload_n (n := 84) C 3 dX10_nextRoad_83 rfl rfl ?_
          refine z_imul (n := 85) C dX10_nextRoad_84 rfl ?_
          rw [mul_nI]
          refine z_iload_n (n := 86) C 4 dX10_nextRoad_85 rfl rfl ?_
          refine z_iadd (n := 87) C dX10_nextRoad_86 rfl ?_
          rw [nI_add]
          refine z_ialdN (n := 88) C K (7 * x + y) dX10_nextRoad_87 rfl sh_94 (by decide) rfl (by omega) (by decide) ?_
          rw [hW.at hx hy]
          refine z_icmp_ne (tgt := 93) (n := 91) C dX10_nextRoad_88 rfl rfl (fun c88 => ?_) (fun c88 => ?_)
          · refine z_iincG (n := 96) (c := 1) (L' := [(3, _), (4, _), (0, _), (1, _), (2, _)]) C 1 dX10_nextRoad_93 rfl rfl rfl (by rw [hnL]; decide) rfl ?_
            refine z_goto (n := 2) C dX10_nextRoad_96 rfl ?_
            refine z_sub (L' := [(3, _), (0, _), (1, _), (2, _)]) [0, 2, 3, 4] rfl ?_
            have hnt : ¬ tgS rd C0 x y k := fun q => c88 (by rw [((cvS_tight hn7 hrd hc hk hx hy hlt).mp q).2])
            rw [nI_1]
            exact ih (k + 1) (by omega) ⟨by omega, fun j hj => by
              by_cases e : j = k
              · rw [e]; exact hnt
              · exact hno j (by omega)⟩
          · refine z_iload_n (n := 92) C 1 dX10_nextRoad_91 rfl rfl ?_
            refine z_iret C E dX10_nextRoad_92 ?_
            exact eqQ (by rw [nxS_first ((cvS_tight hn7 hrd hc hk hx hy hlt).mpr ⟨hin, nI_inj c88 (by omega) (by omega)⟩) hno r hk]) hQ
      · refine z_aload_n (n := 21) C 1 dX10_nextRoad_20 rfl rfl ?_
        refine z_getR (n := 24) (q := 90) C K fF_RX10_22 dX10_nextRoad_21 rfl rfl sh_85 (by decide) rfl ?_
        refine z_iload_n (n := 25) C 0 dX10_nextRoad_24 rfl rfl ?_
        refine z_ialdN (n := 26) C K k dX10_nextRoad_25 rfl sh_90 (by decide) rfl (by omega) (by decide) ?_
        refine z_goto (n := 50) C dX10_nextRoad_26 rfl ?_
        have hin : incS rd k x := Or.inl (nI_inj c17 (by omega) (by omega))
        rw [hz.2.1, show rd 1 k = othS rd k x by unfold othS; rw [if_pos (nI_inj c17 (by omega) (by omega))]]
        refine z_istore (n := 52) (L' := [(4, _), (3, _), (0, _), (1, _), (2, _)]) C dX10_nextRoad_50 rfl (by rw [hnL]; decide) rfl ?_
        refine z_iload (n := 54) C 0 dX10_nextRoad_52 rfl rfl ?_
        refine z_bipush (n := 56) (v := (-9)) C dX10_nextRoad_54 rfl rfl ?_
        refine z_icmpF_eq (n := 59) (tgt := 93) C (fun e => by rw [fa_eq, nI_toInt (by omega)] at e; simp only [Int32.reduceToInt] at e; omega) dX10_nextRoad_56 rfl rfl ?_
        refine z_aload_n (n := 60) C 2 dX10_nextRoad_59 rfl rfl ?_
        refine z_getR (n := 63) (q := 94) C K fF_RX10_34 dX10_nextRoad_60 rfl rfl sh_85 (by decide) rfl ?_
        refine z_bipush (n := 65) (v := 7) C dX10_nextRoad_63 rfl rfl ?_
        rw [e7]
        refine z_iload (n := 67) C 0 dX10_nextRoad_65 rfl rfl ?_
        refine z_imul (n := 68) C dX10_nextRoad_67 rfl ?_
        rw [mul_nI]
        refine z_iload_n (n := 69) C 4 dX10_nextRoad_68 rfl rfl ?_
        refine z_iadd (n := 70) C dX10_nextRoad_69 rfl ?_
        rw [nI_add]
        refine z_ialdN (n := 71) C K (7 * othS rd k x + y) dX10_nextRoad_70 rfl sh_94 (by decide) rfl (by omega) (by decide) ?_
        rw [hW.at ho hy]
        refine z_aload_n (n := 72) C 2 dX10_nextRoad_71 rfl rfl ?_
        refine z_iload_n (n := 73) C 1 dX10_nextRoad_72 rfl rfl ?_
        refine z_vi_1 (n := 76) (d' := 1) C K dX10_nextRoad_73 rfl yk_X10_costOf yv_X10_costOf kM_RX10_153 (by decide) hR0 rfl rfl sh_85 (by decide) (by decide) ?_
        refine c_X10_costOf hw ok hk ?_
        refine z_iadd (n := 77) C dX10_nextRoad_76 rfl ?_
        rw [nI_add]
        refine z_aload_n (n := 78) C 2 dX10_nextRoad_77 rfl rfl ?_
        refine z_getR (n := 81) (q := 94) C K fF_RX10_34 dX10_nextRoad_78 rfl rfl sh_85 (by decide) rfl ?_
        refine z_bipush (n := 83) (v := 7) C dX10_nextRoad_81 rfl rfl ?_
        rw [e7]
        refine z_iload_n (n := 84) C 3 dX10_nextRoad_83 rfl rfl ?_
        refine z_imul (n := 85) C dX10_nextRoad_84 rfl ?_
        rw [mul_nI]
        refine z_iload_n (n := 86) C 4 dX10_nextRoad_85 rfl rfl ?_
        refine z_iadd (n := 87) C dX10_nextRoad_86 rfl ?_
        rw [nI_add]
        refine z_ialdN (n := 88) C K (7 * x + y) dX10_nextRoad_87 rfl sh_94 (by decide) rfl (by omega) (by decide) ?_
        rw [hW.at hx hy]
        refine z_icmp_ne (tgt := 93) (n := 91) C dX10_nextRoad_88 rfl rfl (fun c88 => ?_) (fun c88 => ?_)
        · refine z_iincG (n := 96) (c := 1) (L' := [(3, _), (4, _), (0, _), (1, _), (2, _)]) C 1 dX10_nextRoad_93 rfl rfl rfl (by rw [hnL]; decide) rfl ?_
          refine z_goto (n := 2) C dX10_nextRoad_96 rfl ?_
          refine z_sub (L' := [(3, _), (0, _), (1, _), (2, _)]) [0, 2, 3, 4] rfl ?_
          have hnt : ¬ tgS rd C0 x y k := fun q => c88 (by rw [((cvS_tight hn7 hrd hc hk hx hy hlt).mp q).2])
          rw [nI_1]
          exact ih (k + 1) (by omega) ⟨by omega, fun j hj => by
            by_cases e : j = k
            · rw [e]; exact hnt
            · exact hno j (by omega)⟩
        · refine z_iload_n (n := 92) C 1 dX10_nextRoad_91 rfl rfl ?_
          refine z_iret C E dX10_nextRoad_92 ?_
          exact eqQ (by rw [nxS_first ((cvS_tight hn7 hrd hc hk hx hy hlt).mpr ⟨hin, nI_inj c88 (by omega) (by omega)⟩) hno r hk]) hQ
set_option maxHeartbeats 4000000 in
set_option maxRecDepth 100000 in
theorem c_X10_nextRoad {ad : Nat → Nat} {I : KI} {J : KJ} {t : Nat} {n r s : Nat} {rd : Nat → Nat → Nat} (hw : mTw I n r s rd) (ok : okTw n r s rd) {C0 : Nat → Nat → Nat} (hc : okW n r rd C0) (hW : mWy I n C0) {x y : Nat} (hx : x < n) (hy : y < n) (hxy : x ≠ y) (hlt : C0 x y < 1048576) {Q : Int32 → KI → KJ → KR → Prop} (hQ : Q (nI (nxS rd C0 x y r)) I J (rf t)) : Mi 2 yX10_nextRoad (wm yX10_nextRoad cX10_nextRoad 5 (some .int)) [.ref (ad 85), .int (nI x), .int (nI y)] ad I J (rf t) Q := by
  refine mi_of (own := RX10) yk_X10_nextRoad rfl (Nat.le_of_ble_eq_true rfl) rfl (fun X hA hnL C K E => ?_)
  subst hA
  refine z_iconst (n := 1) (v := 0) C dX10_nextRoad_0 rfl rfl ?_
  refine z_istore_n (n := 2) (L' := [(3, _), (0, _), (1, _), (2, _)]) C dX10_nextRoad_1 rfl (by rw [hnL]; decide) rfl ?_
  exact l_X10_nextRoad C K hnL E hw ok hc hW hx hy hxy hlt hQ (r + 1) 0 (by omega) ⟨by omega, fun j hj => by omega⟩
set_option maxHeartbeats 4000000 in
set_option maxRecDepth 100000 in
theorem c_X10_isWay {ad : Nat → Nat} {I : KI} {J : KJ} {t : Nat} {n r s : Nat} {rd : Nat → Nat → Nat} (hw : mTw I n r s rd) (ok : okTw n r s rd) {C0 : Nat → Nat → Nat} (hc : okW n r rd C0) (hW : mWy I n C0) {x y : Nat} (hx : x < n) (hy : y < n)  {Q : Int32 → KI → KJ → KR → Prop} (h1 : C0 x y < 1048576 → Q 1 I J (rf t)) (h0 : 1048576 ≤ C0 x y → Q 0 I J (rf t)) : Mi 1 yX10_isWay (wm yX10_isWay cX10_isWay 3 (some .boolean)) [.ref (ad 85), .int (nI x), .int (nI y)] ad I J (rf t) Q := by
  refine mi_of (own := RX10) yk_X10_isWay rfl (Nat.le_of_ble_eq_true rfl) rfl (fun X hA hnL C K E => ?_)
  subst hA
  have hn7 := ok.1
  have hr12 := ok.2.1
  have hrd : okRd n r rd := ok.2.2.2
  have e7 : (7 : Int32) = nI 7 := rfl
  have hle := cvS_le hn7 hrd hc hx hy
  have hiff := cvS_lt hn7 hrd hc hx hy
  refine z_aload_n (n := 1) C 0 dX10_isWay_0 rfl rfl ?_
  refine z_getR (n := 4) (q := 94) C K fF_RX10_34 dX10_isWay_1 rfl rfl sh_85 (by decide) rfl ?_
  refine z_bipush (n := 6) (v := 7) C dX10_isWay_4 rfl rfl ?_
  rw [e7]
  refine z_iload_n (n := 7) C 1 dX10_isWay_6 rfl rfl ?_
  refine z_imul (n := 8) C dX10_isWay_7 rfl ?_
  rw [mul_nI]
  refine z_iload_n (n := 9) C 2 dX10_isWay_8 rfl rfl ?_
  refine z_iadd (n := 10) C dX10_isWay_9 rfl ?_
  rw [nI_add]
  refine z_ialdN (n := 11) C K (7 * x + y) dX10_isWay_10 rfl sh_94 (by decide) rfl (by omega) (by decide) ?_
  rw [hW.at hx hy]
  refine z_ldc (n := 13) C dX10_isWay_11 kK_RX10_152 rfl ?_
  refine z_icmp_ge (tgt := 20) (n := 16) C dX10_isWay_13 rfl rfl (fun c13 => ?_) (fun c13 => ?_)
  · refine z_iconst (n := 21) (v := 0) C dX10_isWay_20 rfl rfl ?_
    refine z_zret C E dX10_isWay_21 (by decide) ?_
    rw [fa_le, nI_toInt (by omega)] at c13
    simp only [Int32.reduceToInt] at c13
    exact h0 (by have := hiff.mpr; omega)
  · refine z_iconst (n := 17) (v := 1) C dX10_isWay_16 rfl rfl ?_
    refine z_goto (n := 21) C dX10_isWay_17 rfl ?_
    refine z_zret C E dX10_isWay_21 (by decide) ?_
    rw [fa_le, nI_toInt (by omega)] at c13
    simp only [Int32.reduceToInt] at c13
    exact h1 (hiff.mp (by omega))
set_option maxHeartbeats 4000000 in
set_option maxRecDepth 100000 in
theorem l_X10_roadsOf {X : KX} {J : KJ} {t : Nat} (C : Cx X RX10 cX10_roadsOf 3) (K : Kx X) (hnL : xnL X = 6) {Q : Int32 → KI → KJ → KR → Prop} (E : Ei X .int Q) {I : KI} {n r s : Nat} {rd : Nat → Nat → Nat} (hw : mTw I n r s rd) (ok : okTw n r s rd) {C0 : Nat → Nat → Nat} (hc : okW n r rd C0) (hW : mWy I n C0) {a b : Nat} (hb : b < n) (hQ : Q (nI (wy r rd C0 a b).length) I J (rf t)) : ∀ (f : Nat) (m x : Nat), 7 - m < f → (x < n ∧ C0 x b < 1048576 ∧ rnk C0 n x b + m ≤ 6 ∧ (wy r rd C0 a b).length = m + (wy r rd C0 x b).length) → Z X 0 0 (V X I J (rf t)) 5 [(4, .int (nI x)), (3, .int (nI m)), (0, .ref (xad X 85)), (1, .int (nI a)), (2, .int (nI b))] [] := by
  intro f
  induction f with
  | zero => intro m x h; omega
  | succ f ih =>
    intro m x hf hi
    obtain ⟨hx, hlt, hm, hlen⟩ := hi
    have hn7 := ok.1
    have hr12 := ok.2.1
    have hrd : okRd n r rd := ok.2.2.2
    have e7 : (7 : Int32) = nI 7 := rfl
    refine z_iload (n := 7) C 0 dX10_roadsOf_5 rfl rfl ?_
    refine z_iload_n (n := 8) C 4 dX10_roadsOf_7 rfl rfl ?_
    refine z_icmp_eq (tgt := 57) (n := 11) C dX10_roadsOf_8 rfl rfl (fun c8 => ?_) (fun c8 => ?_)
    · have e : x = b := nI_inj c8 (by omega) (by omega)
      subst e
      rw [wy_self] at hlen
      rw [hlen] at hQ
      refine z_iload_n (n := 58) C 1 dX10_roadsOf_57 rfl rfl ?_
      refine z_iret C E dX10_roadsOf_58 ?_
      exact hQ
    · have hne : x ≠ b := fun e => c8 (by rw [e])
      refine z_aload_n (n := 12) C 2 dX10_roadsOf_11 rfl rfl ?_
      refine z_iload (n := 14) C 0 dX10_roadsOf_12 rfl rfl ?_
      refine z_iload_n (n := 15) C 4 dX10_roadsOf_14 rfl rfl ?_
      refine z_vi_2 (n := 18) (d' := 2) C K dX10_roadsOf_15 rfl yk_X10_nextRoad yv_X10_nextRoad kM_RX10_156 (by decide) hR0 rfl rfl sh_85 (by decide) (by decide) ?_
      refine c_X10_nextRoad hw ok hc hW hx hb hne hlt ?_
      obtain ⟨q1, q2, q3, q4, q5, q6⟩ := hc.next hrd hx hb hne hlt
      have hz := hw.2.2.2 _ q1
      have hb9 := ok.2.2.2 _ q1
      refine z_istore (n := 20) (L' := [(5, _), (4, _), (3, _), (0, _), (1, _), (2, _)]) C dX10_roadsOf_18 rfl (by rw [hnL]; decide) rfl ?_
      refine z_aload_n (n := 21) C 3 dX10_roadsOf_20 rfl rfl ?_
      refine z_getR (n := 24) (q := 89) C K fF_RX10_19 dX10_roadsOf_21 rfl rfl sh_85 (by decide) rfl ?_
      refine z_iload (n := 26) C 0 dX10_roadsOf_24 rfl rfl ?_
      refine z_ialdN (n := 27) C K (nxS rd C0 x b r) dX10_roadsOf_26 rfl sh_89 (by decide) rfl (by omega) (by decide) ?_
      rw [hz.1]
      refine z_iload (n := 29) C 1 dX10_roadsOf_27 rfl rfl ?_
      refine z_icmp_ne (tgt := 42) (n := 32) C dX10_roadsOf_29 rfl rfl (fun c29 => ?_) (fun c29 => ?_)
      · refine z_aload_n (n := 43) C 3 dX10_roadsOf_42 rfl rfl ?_
        refine z_getR (n := 46) (q := 89) C K fF_RX10_19 dX10_roadsOf_43 rfl rfl sh_85 (by decide) rfl ?_
        refine z_iload (n := 48) C 0 dX10_roadsOf_46 rfl rfl ?_
        refine z_ialdN (n := 49) C K (nxS rd C0 x b r) dX10_roadsOf_48 rfl sh_89 (by decide) rfl (by omega) (by decide) ?_
        rw [hz.1, show rd 0 (nxS rd C0 x b r) = othS rd (nxS rd C0 x b r) x by unfold othS; rw [if_neg (fun e => c29 (by rw [e]))]]
        refine z_istore (n := 51) (L' := [(4, _), (5, _), (3, _), (0, _), (1, _), (2, _)]) C dX10_roadsOf_49 rfl (by rw [hnL]; decide) rfl ?_
        refine z_iincG (n := 54) (c := 1) (L' := [(3, _), (4, _), (5, _), (0, _), (1, _), (2, _)]) C 2 dX10_roadsOf_51 rfl rfl rfl (by rw [hnL]; decide) rfl ?_
        refine z_goto (n := 5) C dX10_roadsOf_54 rfl ?_
        refine z_sub (L' := [(4, _), (3, _), (0, _), (1, _), (2, _)]) [1, 0, 3, 4, 5] rfl ?_
        rw [nI_1]
        exact ih (m + 1) _ (by omega) ⟨q4, q5, by omega, by rw [hlen, wy_step hn7 hrd hc hx hb hne hlt, List.length_cons]; omega⟩
      · refine z_aload_n (n := 33) C 3 dX10_roadsOf_32 rfl rfl ?_
        refine z_getR (n := 36) (q := 90) C K fF_RX10_22 dX10_roadsOf_33 rfl rfl sh_85 (by decide) rfl ?_
        refine z_iload (n := 38) C 0 dX10_roadsOf_36 rfl rfl ?_
        refine z_ialdN (n := 39) C K (nxS rd C0 x b r) dX10_roadsOf_38 rfl sh_90 (by decide) rfl (by omega) (by decide) ?_
        refine z_goto (n := 49) C dX10_roadsOf_39 rfl ?_
        rw [hz.2.1, show rd 1 (nxS rd C0 x b r) = othS rd (nxS rd C0 x b r) x by unfold othS; rw [if_pos (nI_inj c29 (by omega) (by omega))]]
        refine z_istore (n := 51) (L' := [(4, _), (5, _), (3, _), (0, _), (1, _), (2, _)]) C dX10_roadsOf_49 rfl (by rw [hnL]; decide) rfl ?_
        refine z_iincG (n := 54) (c := 1) (L' := [(3, _), (4, _), (5, _), (0, _), (1, _), (2, _)]) C 2 dX10_roadsOf_51 rfl rfl rfl (by rw [hnL]; decide) rfl ?_
        refine z_goto (n := 5) C dX10_roadsOf_54 rfl ?_
        refine z_sub (L' := [(4, _), (3, _), (0, _), (1, _), (2, _)]) [1, 0, 3, 4, 5] rfl ?_
        rw [nI_1]
        exact ih (m + 1) _ (by omega) ⟨q4, q5, by omega, by rw [hlen, wy_step hn7 hrd hc hx hb hne hlt, List.length_cons]; omega⟩
set_option maxHeartbeats 4000000 in
set_option maxRecDepth 100000 in
theorem c_X10_roadsOf {ad : Nat → Nat} {I : KI} {J : KJ} {t : Nat} {n r s : Nat} {rd : Nat → Nat → Nat} (hw : mTw I n r s rd) (ok : okTw n r s rd) {C0 : Nat → Nat → Nat} (hc : okW n r rd C0) (hW : mWy I n C0) {a b : Nat} (ha : a < n) (hb : b < n) (hlt : C0 a b < 1048576) {Q : Int32 → KI → KJ → KR → Prop} (hQ : Q (nI (wy r rd C0 a b).length) I J (rf t)) : Mi 3 yX10_roadsOf (wm yX10_roadsOf cX10_roadsOf 6 (some .int)) [.ref (ad 85), .int (nI a), .int (nI b)] ad I J (rf t) Q := by
  refine mi_of (own := RX10) yk_X10_roadsOf rfl (Nat.le_of_ble_eq_true rfl) rfl (fun X hA hnL C K E => ?_)
  subst hA
  refine z_iconst (n := 1) (v := 0) C dX10_roadsOf_0 rfl rfl ?_
  refine z_istore_n (n := 2) (L' := [(3, _), (0, _), (1, _), (2, _)]) C dX10_roadsOf_1 rfl (by rw [hnL]; decide) rfl ?_
  refine z_iload_n (n := 3) C 2 dX10_roadsOf_2 rfl rfl ?_
  refine z_istore (n := 5) (L' := [(4, _), (3, _), (0, _), (1, _), (2, _)]) C dX10_roadsOf_3 rfl (by rw [hnL]; decide) rfl ?_
  have h1 := rnk_lt (C := C0) (b := b) ha
  have h2 := ok.1
  exact l_X10_roadsOf C K hnL E hw ok hc hW hb hQ 8 0 a (by omega) ⟨ha, hlt, by omega, by omega⟩
set_option maxHeartbeats 4000000 in
set_option maxRecDepth 100000 in
theorem c_X10_way {ad : Nat → Nat} {I : KI} {J : KJ} {t : Nat} {n r s : Nat} {rd : Nat → Nat → Nat} (hw : mTw I n r s rd) (ok : okTw n r s rd) {C0 : Nat → Nat → Nat} (hc : okW n r rd C0) (hW : mWy I n C0) {av bv w : Int32} {Q : Int32 → KI → KJ → KR → Prop} (hR : ∀ a, wayR n av bv w = some a → Q a I J (rf t)) (hS : wayR n av bv w = none → ∀ a b i : Nat, av = nI a → a < n → bv = nI b → b < n → w = nI i → i < 3 → Q (wayS r rd C0 a b i) I J (rf t)) : Mi 4 yX10_way (wm yX10_way cX10_way 4 (some .int)) [.ref (ad 85), .int (av), .int (bv), .int (w)] ad I J (rf t) Q := by
  refine mi_of (own := RX10) yk_X10_way rfl (Nat.le_of_ble_eq_true rfl) rfl (fun X hA hnL C K E => ?_)
  subst hA
  refine z_aload_n (n := 1) C 0 dX10_way_0 rfl rfl ?_
  refine z_iload_n (n := 2) C 1 dX10_way_1 rfl rfl ?_
  refine z_vi_1 (n := 5) (d' := 1) C K dX10_way_2 rfl yk_X10_isCorner yv_X10_isCorner kM_RX10_159 (by decide) hR0 rfl rfl sh_85 (by decide) (by decide) ?_
  refine c_X10_isCorner hw.1 ok.1 (fun b2 => ?_) (fun b2 => ?_)
  · refine z_ifF_eq (n := 8) (tgt := 16) C (by decide) dX10_way_5 rfl rfl ?_
    refine z_aload_n (n := 9) C 0 dX10_way_8 rfl rfl ?_
    refine z_iload_n (n := 10) C 2 dX10_way_9 rfl rfl ?_
    refine z_vi_1 (n := 13) (d' := 1) C K dX10_way_10 rfl yk_X10_isCorner yv_X10_isCorner kM_RX10_159 (by decide) hR0 rfl rfl sh_85 (by decide) (by decide) ?_
    refine c_X10_isCorner hw.1 ok.1 (fun b10 => ?_) (fun b10 => ?_)
    · refine z_ifT_ne (tgt := 18) C (by decide) dX10_way_13 rfl ?_
      obtain ⟨a, ha, rfl⟩ := isN_of b2
      obtain ⟨b, hb, rfl⟩ := isN_of b10
      have hn7 := ok.1
      have hr12 := ok.2.1
      have hrd : okRd n r rd := ok.2.2.2
      have e7 : (7 : Int32) = nI 7 := rfl
      refine z_iload_n (n := 19) C 3 dX10_way_18 rfl rfl ?_
      refine z_iconst (n := 20) (v := 0) C dX10_way_19 rfl rfl ?_
      refine z_iconst (n := 21) (v := 2) C dX10_way_20 rfl rfl ?_
      refine z_si_3 (n := 24) (d' := 1) C K dX10_way_21 rfl yk_X10_within kT_yX10_within kM_RX10_92 (by decide) hR0 rfl ?_
      refine m_inB (lo := 0) (hi := 2) (by decide) (by decide) (fun b21 => ?_) (fun b21 => ?_)
      · refine z_ifT_ne (tgt := 30) C (by decide) dX10_way_24 rfl ?_
        have hnone : wayR n (nI a) (nI b) w = none := by unfold wayR; rw [if_neg (fun q => q ⟨b2, b10⟩), if_neg (fun q => q b21)]
        obtain ⟨i, hi, rfl⟩ := isB_of (h := 2) b21
        refine z_aload_n (n := 31) C 0 dX10_way_30 rfl rfl ?_
        refine z_iload_n (n := 32) C 1 dX10_way_31 rfl rfl ?_
        refine z_iload_n (n := 33) C 2 dX10_way_32 rfl rfl ?_
        refine z_vi_2 (n := 36) (d' := 1) C K dX10_way_33 rfl yk_X10_isWay yv_X10_isWay kM_RX10_162 (by decide) hR0 rfl rfl sh_85 (by decide) (by decide) ?_
        refine c_X10_isWay hw ok hc hW ha hb (fun b33 => ?_) (fun b33 => ?_)
        · refine z_ifT_ne (tgt := 42) C (by decide) dX10_way_36 rfl ?_
          refine z_iload_n (n := 43) C 3 dX10_way_42 rfl rfl ?_
          refine z_if_ne (tgt := 63) (n := 46) C dX10_way_43 rfl rfl (fun c43 => ?_) (fun c43 => ?_)
          · refine z_iload_n (n := 64) C 3 dX10_way_63 rfl rfl ?_
            refine z_iconst (n := 65) (v := 1) C dX10_way_64 rfl rfl ?_
            refine z_icmp_ne (tgt := 85) (n := 68) C dX10_way_65 rfl rfl (fun c65 => ?_) (fun c65 => ?_)
            · refine z_aload_n (n := 86) C 0 dX10_way_85 rfl rfl ?_
              refine z_iload_n (n := 87) C 1 dX10_way_86 rfl rfl ?_
              refine z_iload_n (n := 88) C 2 dX10_way_87 rfl rfl ?_
              refine z_vi_2 (n := 91) (d' := 3) C K dX10_way_88 rfl yk_X10_roadsOf yv_X10_roadsOf kM_RX10_166 (by decide) hR0 rfl rfl sh_85 (by decide) (by decide) ?_
              refine c_X10_roadsOf hw ok hc hW ha hb b33 ?_
              refine z_iret C E dX10_way_91 ?_
              refine eqQ ?_ (hS hnone a b i rfl ha rfl hb rfl (by omega))
              unfold wayS
              have e0 : ¬ i = 0 := fun e => c43 (by rw [e]; rfl)
              have e1 : ¬ i = 1 := fun e => c65 (by rw [e]; rfl)
              rw [if_neg (by omega), if_neg e0, if_neg e1]
            · refine z_aload_n (n := 69) C 0 dX10_way_68 rfl rfl ?_
              refine z_getR (n := 72) (q := 94) C K fF_RX10_34 dX10_way_69 rfl rfl sh_85 (by decide) rfl ?_
              refine z_bipush (n := 74) (v := 7) C dX10_way_72 rfl rfl ?_
              rw [e7]
              refine z_iload_n (n := 75) C 1 dX10_way_74 rfl rfl ?_
              refine z_imul (n := 76) C dX10_way_75 rfl ?_
              rw [mul_nI]
              refine z_iload_n (n := 77) C 2 dX10_way_76 rfl rfl ?_
              refine z_iadd (n := 78) C dX10_way_77 rfl ?_
              rw [nI_add]
              refine z_ialdN (n := 79) C K (7 * a + b) dX10_way_78 rfl sh_94 (by decide) rfl (by omega) (by decide) ?_
              rw [hW.at ha hb]
              refine z_bipush (n := 81) (v := 100) C dX10_way_79 rfl rfl ?_
              refine z_irem (n := 82) C dX10_way_81 rfl (by decide) ?_
              refine z_goto (n := 91) C dX10_way_82 rfl ?_
              refine z_iret C E dX10_way_91 ?_
              refine eqQ ?_ (hS hnone a b i rfl ha rfl hb rfl (by omega))
              unfold wayS
              have g := cvS_way hn7 hrd hc ha hb b33
              have e : i = 1 := nI_inj (b := 1) c65 (by omega) (by decide)
              rw [if_neg (by omega), if_neg (by omega), if_pos e, show (100 : Int32) = nI 100 from rfl, pk_rem (by omega) (by decide) (by decide)]
              congr 1
              omega
          · refine z_aload_n (n := 47) C 0 dX10_way_46 rfl rfl ?_
            refine z_getR (n := 50) (q := 94) C K fF_RX10_34 dX10_way_47 rfl rfl sh_85 (by decide) rfl ?_
            refine z_bipush (n := 52) (v := 7) C dX10_way_50 rfl rfl ?_
            rw [e7]
            refine z_iload_n (n := 53) C 1 dX10_way_52 rfl rfl ?_
            refine z_imul (n := 54) C dX10_way_53 rfl ?_
            rw [mul_nI]
            refine z_iload_n (n := 55) C 2 dX10_way_54 rfl rfl ?_
            refine z_iadd (n := 56) C dX10_way_55 rfl ?_
            rw [nI_add]
            refine z_ialdN (n := 57) C K (7 * a + b) dX10_way_56 rfl sh_94 (by decide) rfl (by omega) (by decide) ?_
            rw [hW.at ha hb]
            refine z_bipush (n := 59) (v := 100) C dX10_way_57 rfl rfl ?_
            refine z_idiv (n := 60) C dX10_way_59 rfl (by decide) ?_
            refine z_goto (n := 91) C dX10_way_60 rfl ?_
            refine z_iret C E dX10_way_91 ?_
            refine eqQ ?_ (hS hnone a b i rfl ha rfl hb rfl (by omega))
            unfold wayS
            have g := cvS_way hn7 hrd hc ha hb b33
            have e : i = 0 := nI_inj (b := 0) c43 (by omega) (by decide)
            rw [if_neg (by omega), if_pos e, show (100 : Int32) = nI 100 from rfl, pk_div (by omega) (by decide) (by decide)]
            congr 1
            omega
        · refine z_ifF_ne (n := 39) (tgt := 42) C (by decide) dX10_way_36 rfl rfl ?_
          refine z_bipush (n := 41) (v := (-9)) C dX10_way_39 rfl rfl ?_
          refine z_iret C E dX10_way_41 ?_
          refine eqQ ?_ (hS hnone a b i rfl ha rfl hb rfl (by omega))
          unfold wayS
          rw [if_pos b33]
      · refine z_ifF_ne (n := 27) (tgt := 30) C (by decide) dX10_way_24 rfl rfl ?_
        refine z_bipush (n := 29) (v := (-2)) C dX10_way_27 rfl rfl ?_
        refine z_iret C E dX10_way_29 ?_
        exact hR _ (by unfold wayR; rw [if_neg (fun q => q ⟨b2, b10⟩), if_pos b21])
    · refine z_ifF_ne (n := 16) (tgt := 18) C (by decide) dX10_way_13 rfl rfl ?_
      refine z_iconst (n := 17) (v := (-1)) C dX10_way_16 rfl rfl ?_
      refine z_iret C E dX10_way_17 ?_
      exact hR _ (by unfold wayR; rw [if_pos (fun q => b10 q.2)])
  · refine z_ifT_eq (tgt := 16) C (by decide) dX10_way_5 rfl ?_
    refine z_iconst (n := 17) (v := (-1)) C dX10_way_16 rfl rfl ?_
    refine z_iret C E dX10_way_17 ?_
    exact hR _ (by unfold wayR; rw [if_pos (fun q => b2 q.1)])
set_option maxHeartbeats 4000000 in
set_option maxRecDepth 100000 in
theorem l_X10_along {X : KX} {J : KJ} {t : Nat} (C : Cx X RX10 cX10_along 3) (K : Kx X) (hnL : xnL X = 7) {Q : Int32 → KI → KJ → KR → Prop} (E : Ei X .int Q) {I : KI} {n r s : Nat} {rd : Nat → Nat → Nat} (hw : mTw I n r s rd) (ok : okTw n r s rd) {C0 : Nat → Nat → Nat} (hc : okW n r rd C0) (hW : mWy I n C0) {a b k : Nat} (hb : b < n) (hk : k < 2 ^ 31) (hQ : Q (match (wy r rd C0 a b)[k]? with | some k => nI k | none => -9) I J (rf t)) : ∀ (f : Nat) (m x : Nat), 7 - m < f → (x < n ∧ C0 x b < 1048576 ∧ rnk C0 n x b + m ≤ 6 ∧ m ≤ k ∧ (wy r rd C0 a b)[k]? = (wy r rd C0 x b)[k - m]?) → Z X 0 0 (V X I J (rf t)) 43 [(5, .int (nI m)), (4, .int (nI x)), (0, .ref (xad X 85)), (1, .int (nI a)), (2, .int (nI b)), (3, .int (nI k))] [] := by
  intro f
  induction f with
  | zero => intro m x h; omega
  | succ f ih =>
    intro m x hf hi
    obtain ⟨hx, hlt, hm, hmk, hget⟩ := hi
    have hn7 := ok.1
    have hr12 := ok.2.1
    have hrd : okRd n r rd := ok.2.2.2
    have e7 : (7 : Int32) = nI 7 := rfl
    refine z_iload (n := 45) C 1 dX10_along_43 rfl rfl ?_
    refine z_iload_n (n := 46) C 4 dX10_along_45 rfl rfl ?_
    refine z_icmp_eq (tgt := 104) (n := 49) C dX10_along_46 rfl rfl (fun c46 => ?_) (fun c46 => ?_)
    · refine z_bipush (n := 106) (v := (-9)) C dX10_along_104 rfl rfl ?_
      refine z_iret C E dX10_along_106 ?_
      have e : x = b := nI_inj c46 (by omega) (by omega)
      subst e
      rw [wy_self] at hget
      rw [hget] at hQ
      exact hQ
    · have hne : x ≠ b := fun e => c46 (by rw [e])
      refine z_aload_n (n := 50) C 2 dX10_along_49 rfl rfl ?_
      refine z_iload (n := 52) C 1 dX10_along_50 rfl rfl ?_
      refine z_iload_n (n := 53) C 4 dX10_along_52 rfl rfl ?_
      refine z_vi_2 (n := 56) (d' := 2) C K dX10_along_53 rfl yk_X10_nextRoad yv_X10_nextRoad kM_RX10_156 (by decide) hR0 rfl rfl sh_85 (by decide) (by decide) ?_
      refine c_X10_nextRoad hw ok hc hW hx hb hne hlt ?_
      obtain ⟨q1, q2, q3, q4, q5, q6⟩ := hc.next hrd hx hb hne hlt
      have hz := hw.2.2.2 _ q1
      have hb9 := ok.2.2.2 _ q1
      refine z_istore (n := 58) (L' := [(6, _), (5, _), (4, _), (0, _), (1, _), (2, _), (3, _)]) C dX10_along_56 rfl (by rw [hnL]; decide) rfl ?_
      rw [wy_step hn7 hrd hc hx hb hne hlt] at hget
      refine z_iload (n := 60) C 1 dX10_along_58 rfl rfl ?_
      refine z_iload_n (n := 61) C 6 dX10_along_60 rfl rfl ?_
      refine z_icmp_ne (tgt := 67) (n := 64) C dX10_along_61 rfl rfl (fun c61 => ?_) (fun c61 => ?_)
      · refine z_aload_n (n := 68) C 3 dX10_along_67 rfl rfl ?_
        refine z_getR (n := 71) (q := 89) C K fF_RX10_19 dX10_along_68 rfl rfl sh_85 (by decide) rfl ?_
        refine z_iload (n := 73) C 0 dX10_along_71 rfl rfl ?_
        refine z_ialdN (n := 74) C K (nxS rd C0 x b r) dX10_along_73 rfl sh_89 (by decide) rfl (by omega) (by decide) ?_
        rw [hz.1]
        refine z_iload (n := 76) C 2 dX10_along_74 rfl rfl ?_
        refine z_icmp_ne (tgt := 89) (n := 79) C dX10_along_76 rfl rfl (fun c76 => ?_) (fun c76 => ?_)
        · refine z_aload_n (n := 90) C 3 dX10_along_89 rfl rfl ?_
          refine z_getR (n := 93) (q := 89) C K fF_RX10_19 dX10_along_90 rfl rfl sh_85 (by decide) rfl ?_
          refine z_iload (n := 95) C 0 dX10_along_93 rfl rfl ?_
          refine z_ialdN (n := 96) C K (nxS rd C0 x b r) dX10_along_95 rfl sh_89 (by decide) rfl (by omega) (by decide) ?_
          rw [hz.1, show rd 0 (nxS rd C0 x b r) = othS rd (nxS rd C0 x b r) x by unfold othS; rw [if_neg (fun e => c76 (by rw [e]))]]
          refine z_istore (n := 98) (L' := [(4, _), (6, _), (5, _), (0, _), (1, _), (2, _), (3, _)]) C dX10_along_96 rfl (by rw [hnL]; decide) rfl ?_
          refine z_iincG (n := 101) (c := 1) (L' := [(5, _), (4, _), (6, _), (0, _), (1, _), (2, _), (3, _)]) C 2 dX10_along_98 rfl rfl rfl (by rw [hnL]; decide) rfl ?_
          refine z_goto (n := 43) C dX10_along_101 rfl ?_
          refine z_sub (L' := [(5, _), (4, _), (0, _), (1, _), (2, _), (3, _)]) [0, 1, 3, 4, 5, 6] rfl ?_
          have hne2 : m ≠ k := fun e => c61 (by rw [e])
          rw [nI_1]
          exact ih (m + 1) _ (by omega) ⟨q4, q5, by omega, by omega, by rw [hget, show k - m = (k - (m + 1)) + 1 by omega, List.getElem?_cons_succ]⟩
        · refine z_aload_n (n := 80) C 3 dX10_along_79 rfl rfl ?_
          refine z_getR (n := 83) (q := 90) C K fF_RX10_22 dX10_along_80 rfl rfl sh_85 (by decide) rfl ?_
          refine z_iload (n := 85) C 0 dX10_along_83 rfl rfl ?_
          refine z_ialdN (n := 86) C K (nxS rd C0 x b r) dX10_along_85 rfl sh_90 (by decide) rfl (by omega) (by decide) ?_
          refine z_goto (n := 96) C dX10_along_86 rfl ?_
          rw [hz.2.1, show rd 1 (nxS rd C0 x b r) = othS rd (nxS rd C0 x b r) x by unfold othS; rw [if_pos (nI_inj c76 (by omega) (by omega))]]
          refine z_istore (n := 98) (L' := [(4, _), (6, _), (5, _), (0, _), (1, _), (2, _), (3, _)]) C dX10_along_96 rfl (by rw [hnL]; decide) rfl ?_
          refine z_iincG (n := 101) (c := 1) (L' := [(5, _), (4, _), (6, _), (0, _), (1, _), (2, _), (3, _)]) C 2 dX10_along_98 rfl rfl rfl (by rw [hnL]; decide) rfl ?_
          refine z_goto (n := 43) C dX10_along_101 rfl ?_
          refine z_sub (L' := [(5, _), (4, _), (0, _), (1, _), (2, _), (3, _)]) [0, 1, 3, 4, 5, 6] rfl ?_
          have hne2 : m ≠ k := fun e => c61 (by rw [e])
          rw [nI_1]
          exact ih (m + 1) _ (by omega) ⟨q4, q5, by omega, by omega, by rw [hget, show k - m = (k - (m + 1)) + 1 by omega, List.getElem?_cons_succ]⟩
      · refine z_iload (n := 66) C 0 dX10_along_64 rfl rfl ?_
        refine z_iret C E dX10_along_66 ?_
        have e : m = k := nI_inj c61 (by omega) hk
        subst e
        rw [hget, Nat.sub_self] at hQ
        exact hQ
set_option maxHeartbeats 4000000 in
set_option maxRecDepth 100000 in
theorem c_X10_along {ad : Nat → Nat} {I : KI} {J : KJ} {t : Nat} {n r s : Nat} {rd : Nat → Nat → Nat} (hw : mTw I n r s rd) (ok : okTw n r s rd) {C0 : Nat → Nat → Nat} (hc : okW n r rd C0) (hW : mWy I n C0) {av bv kv : Int32} {Q : Int32 → KI → KJ → KR → Prop} (hR : ∀ a, alR n av bv kv = some a → Q a I J (rf t)) (hS : alR n av bv kv = none → ∀ a b : Nat, av = nI a → a < n → bv = nI b → b < n → Q (alS r rd C0 a b kv) I J (rf t)) : Mi 3 yX10_along (wm yX10_along cX10_along 7 (some .int)) [.ref (ad 85), .int (av), .int (bv), .int (kv)] ad I J (rf t) Q := by
  refine mi_of (own := RX10) yk_X10_along rfl (Nat.le_of_ble_eq_true rfl) rfl (fun X hA hnL C K E => ?_)
  subst hA
  refine z_aload_n (n := 1) C 0 dX10_along_0 rfl rfl ?_
  refine z_iload_n (n := 2) C 1 dX10_along_1 rfl rfl ?_
  refine z_vi_1 (n := 5) (d' := 1) C K dX10_along_2 rfl yk_X10_isCorner yv_X10_isCorner kM_RX10_159 (by decide) hR0 rfl rfl sh_85 (by decide) (by decide) ?_
  refine c_X10_isCorner hw.1 ok.1 (fun b2 => ?_) (fun b2 => ?_)
  · refine z_ifF_eq (n := 8) (tgt := 16) C (by decide) dX10_along_5 rfl rfl ?_
    refine z_aload_n (n := 9) C 0 dX10_along_8 rfl rfl ?_
    refine z_iload_n (n := 10) C 2 dX10_along_9 rfl rfl ?_
    refine z_vi_1 (n := 13) (d' := 1) C K dX10_along_10 rfl yk_X10_isCorner yv_X10_isCorner kM_RX10_159 (by decide) hR0 rfl rfl sh_85 (by decide) (by decide) ?_
    refine c_X10_isCorner hw.1 ok.1 (fun b10 => ?_) (fun b10 => ?_)
    · refine z_ifT_ne (tgt := 18) C (by decide) dX10_along_13 rfl ?_
      obtain ⟨a, ha, rfl⟩ := isN_of b2
      obtain ⟨b, hb, rfl⟩ := isN_of b10
      have hn7 := ok.1
      have hr12 := ok.2.1
      have hrd : okRd n r rd := ok.2.2.2
      have e7 : (7 : Int32) = nI 7 := rfl
      refine z_iload_n (n := 19) C 3 dX10_along_18 rfl rfl ?_
      refine z_if_ge (tgt := 25) (n := 22) C dX10_along_19 rfl rfl (fun c19 => ?_) (fun c19 => ?_)
      · rw [fa_le] at c19
        simp only [Int32.reduceToInt] at c19
        have hnone : alR n (nI a) (nI b) kv = none := by unfold alR; rw [if_neg (fun q => q ⟨b2, b10⟩), if_neg (by omega)]
        obtain ⟨k, hk, rfl⟩ := i_nat (x := kv) (by omega)
        refine z_aload_n (n := 26) C 0 dX10_along_25 rfl rfl ?_
        refine z_iload_n (n := 27) C 1 dX10_along_26 rfl rfl ?_
        refine z_iload_n (n := 28) C 2 dX10_along_27 rfl rfl ?_
        refine z_vi_2 (n := 31) (d' := 1) C K dX10_along_28 rfl yk_X10_isWay yv_X10_isWay kM_RX10_162 (by decide) hR0 rfl rfl sh_85 (by decide) (by decide) ?_
        refine c_X10_isWay hw ok hc hW ha hb (fun b28 => ?_) (fun b28 => ?_)
        · refine z_ifT_ne (tgt := 37) C (by decide) dX10_along_31 rfl ?_
          refine z_iload_n (n := 38) C 1 dX10_along_37 rfl rfl ?_
          refine z_istore (n := 40) (L' := [(4, _), (0, _), (1, _), (2, _), (3, _)]) C dX10_along_38 rfl (by rw [hnL]; decide) rfl ?_
          refine z_iconst (n := 41) (v := 0) C dX10_along_40 rfl rfl ?_
          refine z_istore (n := 43) (L' := [(5, _), (4, _), (0, _), (1, _), (2, _), (3, _)]) C dX10_along_41 rfl (by rw [hnL]; decide) rfl ?_
          have h1 := rnk_lt (C := C0) (b := b) ha
          have h3 := hS hnone a b rfl ha rfl hb
          unfold alS at h3
          rw [if_neg (by omega), nI_clamp hk] at h3
          exact l_X10_along C K hnL E hw ok hc hW hb hk h3 8 0 a (by omega) ⟨ha, b28, by omega, by omega, by rw [Nat.sub_zero]⟩
        · refine z_ifF_ne (n := 34) (tgt := 37) C (by decide) dX10_along_31 rfl rfl ?_
          refine z_bipush (n := 36) (v := (-9)) C dX10_along_34 rfl rfl ?_
          refine z_iret C E dX10_along_36 ?_
          exact eqQ (by unfold alS; rw [if_pos b28]) (hS hnone a b rfl ha rfl hb)
      · refine z_bipush (n := 24) (v := (-2)) C dX10_along_22 rfl rfl ?_
        refine z_iret C E dX10_along_24 ?_
        rw [fa_le] at c19
        simp only [Int32.reduceToInt] at c19
        exact hR _ (by unfold alR; rw [if_neg (fun q => q ⟨b2, b10⟩), if_pos (by omega)])
    · refine z_ifF_ne (n := 16) (tgt := 18) C (by decide) dX10_along_13 rfl rfl ?_
      refine z_iconst (n := 17) (v := (-1)) C dX10_along_16 rfl rfl ?_
      refine z_iret C E dX10_along_17 ?_
      exact hR _ (by unfold alR; rw [if_pos (fun q => b10 q.2)])
  · refine z_ifT_eq (tgt := 16) C (by decide) dX10_along_5 rfl ?_
    refine z_iconst (n := 17) (v := (-1)) C dX10_along_16 rfl rfl ?_
    refine z_iret C E dX10_along_17 ?_
    exact hR _ (by unfold alR; rw [if_pos (fun q => b2 q.1)])
