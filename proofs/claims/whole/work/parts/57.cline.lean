set_option maxHeartbeats 4000000 in
set_option maxRecDepth 100000 in
theorem c_X2_stop {ad : Nat → Nat} {I : KI} {J : KJ} {t : Nat} (ht : Tw t) {n r s : Nat} {rd : Nat → Nat → Nat} (hw : cTw t I n r s rd) (ok : okTw n r s rd) {pc rdy : Nat → Nat} {og : List Nat} (hG : cGt I pc rdy og) (hl7 : og.length ≤ 7) {k : Nat} (hk : k ≤ og.length) {Q : Int32 → KI → KJ → KR → Prop} (hQ : Q (nI ((og ++ [s]).getD k 0)) I J (rf t)) : Mi 1 yX2_stop (wm yX2_stop cX2_stop 3 (some .int)) [.ref (ad 49), .ref (ad t), .int (nI k)] ad I J (rf t) Q := by
  refine mi_of (own := RX2) yk_X2_stop rfl (Nat.le_of_ble_eq_true rfl) rfl (fun X hA hnL C K E => ?_)
  subst hA
  refine z_iload_n (n := 1) C 2 dX2_stop_0 rfl rfl ?_
  refine z_aload_n (n := 2) C 0 dX2_stop_1 rfl rfl ?_
  refine z_getR (n := 5) (q := 50) C K fF_RX2_12 dX2_stop_2 rfl rfl sh_49 (by decide) rfl ?_
  refine z_getI (n := 8) C K fF_RX2_29 dX2_stop_5 rfl sh_50 (by decide) ?_
  rw [hG.1]
  refine z_icmp_ge (tgt := 23) (n := 11) C dX2_stop_8 rfl rfl (fun c8 => ?_) (fun c8 => ?_)
  · rw [fa_le, nI_toInt (by omega), nI_toInt (by omega)] at c8
    refine z_aload_n (n := 24) C 1 dX2_stop_23 rfl rfl ?_
    refine z_getI (n := 27) C K fF_RX2_50 dX2_stop_24 rfl (sh_tw ht) (Tw.lt0 ht) ?_
    refine z_iret C E dX2_stop_27 ?_
    rw [getD_app hk, if_neg (by omega)] at hQ
    rw [hw.2.2.1]
    exact hQ
  · rw [fa_le, nI_toInt (by omega), nI_toInt (by omega)] at c8
    refine z_aload_n (n := 12) C 0 dX2_stop_11 rfl rfl ?_
    refine z_getR (n := 15) (q := 50) C K fF_RX2_12 dX2_stop_12 rfl rfl sh_49 (by decide) rfl ?_
    refine z_getR (n := 18) (q := 51) C K fF_RX2_47 dX2_stop_15 rfl rfl sh_50 (by decide) rfl ?_
    refine z_iload_n (n := 19) C 2 dX2_stop_18 rfl rfl ?_
    refine z_ialdN (n := 20) C K k dX2_stop_19 rfl sh_51 (by decide) rfl (by omega) (by decide) ?_
    refine z_goto (n := 27) C dX2_stop_20 rfl ?_
    refine z_iret C E dX2_stop_27 ?_
    rw [getD_app hk, if_pos (by omega)] at hQ
    rw [hG.2.2 k (by omega)]
    exact hQ
set_option maxHeartbeats 4000000 in
set_option maxRecDepth 100000 in
theorem l_X2_isWalkable {X : KX} {t : Nat} (C : Cx X RX2 cX2_isWalkable 2) (K : Kx X) (hnL : xnL X = 7) {J : KJ} {Q : Int32 → KI → KJ → KR → Prop} (E : Ei X .boolean Q) {I : KI} (ht : Tw t) {n r s : Nat} {rd : Nat → Nat → Nat} (hw : cTw t I n r s rd) (ok : okTw n r s rd) {C0 : Nat → Nat → Nat} (hc : okW n r rd C0) (hW : cWy t I n r rd C0) {pc rdy : Nat → Nat} {og : List Nat} (hG : cGt I pc rdy og) (hl7 : og.length ≤ 7) (hm : ∀ x, x ∈ og → x < n) {a : Nat} (ha : a < n) (h1 : wkB C0 s a og = true → Q 1 I J (rf t)) (h0 : ¬ wkB C0 s a og = true → Q 0 I J (rf t)) : ∀ (f k x v : Nat), og.length + 1 - k < f → (k ≤ og.length + 1 ∧ x < n ∧ wkL C0 (og ++ [s]) a = wkL C0 ((og ++ [s]).drop k) x ∧ crL C0 (og ++ [s]) a = v + crL C0 ((og ++ [s]).drop k) x ∧ v ≤ 6 * k) → Z X 0 0 (V X I J (rf t)) 8 [(5, .int (nI k)), (4, .int (nI x)), (3, .int (nI v)), (0, .ref (xad X 49)), (1, .ref (xad X t)), (2, .int (nI a))] [] := by
  intro f
  induction f with
  | zero => intro k x v h; omega
  | succ f ih =>
    intro k x v hf hi
    obtain ⟨hk1, hx, hWk, hCr, hv⟩ := hi
    have hn7 := ok.1
    have hsn : s < n := ok.2.2.1 (by omega)
    refine z_iload (n := 10) C 0 dX2_isWalkable_8 rfl rfl ?_
    refine z_aload_n (n := 11) C 3 dX2_isWalkable_10 rfl rfl ?_
    refine z_getR (n := 14) (q := 50) C K fF_RX2_12 dX2_isWalkable_11 rfl rfl sh_49 (by decide) rfl ?_
    refine z_getI (n := 17) C K fF_RX2_29 dX2_isWalkable_14 rfl sh_50 (by decide) ?_
    rw [hG.1]
    refine z_icmp_gt (tgt := 63) (n := 20) C dX2_isWalkable_17 rfl rfl (fun c17 => ?_) (fun c17 => ?_)
    · refine z_iload_n (n := 64) C 2 dX2_isWalkable_63 rfl rfl ?_
      refine z_bipush (n := 66) (v := 15) C dX2_isWalkable_64 rfl rfl ?_
      refine z_icmp_gt (tgt := 73) (n := 69) C dX2_isWalkable_66 rfl rfl (fun c66 => ?_) (fun c66 => ?_)
      · refine z_iconst (n := 74) (v := 0) C dX2_isWalkable_73 rfl rfl ?_
        refine z_zret C E dX2_isWalkable_74 (by decide) ?_
        rw [fa_lt, nI_toInt (by omega), nI_toInt (by omega)] at c17
        rw [fa_lt, nI_toInt (by omega)] at c66
        simp only [Int32.reduceToInt] at c66
        have ek : (og ++ [s]).drop k = [] := List.drop_eq_nil_of_le (by rw [List.length_append]; show og.length + 1 ≤ k; omega)
        rw [ek] at hWk hCr
        rw [crL] at hCr
        exact h0 (fun q => by have := (wkB_t.mp q).2; omega)
      · refine z_iconst (n := 70) (v := 1) C dX2_isWalkable_69 rfl rfl ?_
        refine z_goto (n := 74) C dX2_isWalkable_70 rfl ?_
        refine z_zret C E dX2_isWalkable_74 (by decide) ?_
        rw [fa_lt, nI_toInt (by omega), nI_toInt (by omega)] at c17
        rw [fa_lt, nI_toInt (by omega)] at c66
        simp only [Int32.reduceToInt] at c66
        have ek : (og ++ [s]).drop k = [] := List.drop_eq_nil_of_le (by rw [List.length_append]; show og.length + 1 ≤ k; omega)
        rw [ek] at hWk hCr
        rw [crL] at hCr
        exact h1 (wkB_t.mpr ⟨hWk, by omega⟩)
    · refine z_aload_n (n := 21) C 3 dX2_isWalkable_20 rfl rfl ?_
      refine z_aload_n (n := 22) C 4 dX2_isWalkable_21 rfl rfl ?_
      refine z_iload (n := 24) C 0 dX2_isWalkable_22 rfl rfl ?_
      rw [fa_lt, nI_toInt (by omega), nI_toInt (by omega)] at c17
      have hk : k ≤ og.length := by omega
      refine z_vi_2 (n := 27) (d' := 1) C K dX2_isWalkable_24 rfl yk_X2_stop yv_X2_stop kM_RX2_33 (by decide) hR0 rfl rfl sh_49 (by decide) (by decide) ?_
      refine c_X2_stop ht hw ok hG hl7 hk ?_
      have edr := drop_cons (l := og ++ [s]) (k := k) (by rw [List.length_append]; show k < og.length + 1; omega)
      have hy := getD_mem (l := og ++ [s]) (k := k) (by rw [List.length_append]; show k < og.length + 1; omega)
      obtain ⟨y, ey⟩ : ∃ y, (og ++ [s]).getD k 0 = y := ⟨_, rfl⟩
      rw [ey] at edr hy ⊢
      have hyn : y < n := by
        rcases List.mem_append.mp hy with e | e
        · exact hm y e
        · rw [List.mem_singleton.mp e]; exact hsn
      refine z_istore (n := 29) (L' := [(6, _), (5, _), (4, _), (3, _), (0, _), (1, _), (2, _)]) C dX2_isWalkable_27 rfl (by rw [hnL]; decide) rfl ?_
      refine z_aload_n (n := 30) C 5 dX2_isWalkable_29 rfl rfl ?_
      refine z_iload (n := 32) C 2 dX2_isWalkable_30 rfl rfl ?_
      refine z_iload (n := 34) C 0 dX2_isWalkable_32 rfl rfl ?_
      refine z_vi_2 (n := 37) (d' := 1) C K dX2_isWalkable_34 rfl yk_X7_hasWay yv_X7_hasWay kM_RX2_37 (by decide) hR0 rfl rfl (sh_tw ht) (by decide) (Tw.lt0 ht) ?_
      refine c_X7_hasWay ht hn7 hW.1 hc.2.1 hx hyn (fun b34 => ?_) (fun b34 => ?_)
      · refine z_ifT_ne (tgt := 42) C (by decide) dX2_isWalkable_37 rfl ?_
        refine z_iload_n (n := 43) C 3 dX2_isWalkable_42 rfl rfl ?_
        refine z_aload_n (n := 44) C 5 dX2_isWalkable_43 rfl rfl ?_
        refine z_iload (n := 46) C 2 dX2_isWalkable_44 rfl rfl ?_
        refine z_iload (n := 48) C 0 dX2_isWalkable_46 rfl rfl ?_
        refine z_vi_2 (n := 51) (d' := 1) C K dX2_isWalkable_48 rfl yk_X7_crossingsOfWay yv_X7_crossingsOfWay kM_RX2_43 (by decide) hR0 rfl rfl (sh_tw ht) (by decide) (Tw.lt0 ht) ?_
        refine c_X7_crossingsOfWay ht hn7 hW.1 hc.2.1 hx hyn ?_
        have hd6 := (okW_d6 hn7 ok.2.2.2 hc hx hyn b34).1
        refine z_iadd (n := 52) C dX2_isWalkable_51 rfl ?_
        rw [nI_add]
        refine z_istore_n (n := 53) (L' := [(3, _), (6, _), (5, _), (4, _), (0, _), (1, _), (2, _)]) C dX2_isWalkable_52 rfl (by rw [hnL]; decide) rfl ?_
        refine z_iload (n := 55) C 1 dX2_isWalkable_53 rfl rfl ?_
        refine z_istore (n := 57) (L' := [(4, _), (3, _), (6, _), (5, _), (0, _), (1, _), (2, _)]) C dX2_isWalkable_55 rfl (by rw [hnL]; decide) rfl ?_
        refine z_iincG (n := 60) (c := 1) (L' := [(5, _), (4, _), (3, _), (6, _), (0, _), (1, _), (2, _)]) C 3 dX2_isWalkable_57 rfl rfl rfl (by rw [hnL]; decide) rfl ?_
        refine z_goto (n := 8) C dX2_isWalkable_60 rfl ?_
        refine z_sub (L' := [(5, _), (4, _), (3, _), (0, _), (1, _), (2, _)]) [0, 1, 2, 4, 5, 6] rfl ?_
        rw [nI_1]
        refine ih (k + 1) y (v + C0 x y % 16) (by omega) ⟨by omega, hyn, ?_, ?_, by omega⟩
        · rw [hWk, edr, wkL, decide_eq_true b34, Bool.true_and]
        · rw [hCr, edr, crL]; omega
      · refine z_ifF_ne (n := 40) (tgt := 42) C (by decide) dX2_isWalkable_37 rfl rfl ?_
        refine z_iconst (n := 41) (v := 0) C dX2_isWalkable_40 rfl rfl ?_
        refine z_zret C E dX2_isWalkable_41 (by decide) ?_
        exact h0 (fun q => by have q1 := (wkB_t.mp q).1; rw [hWk, edr, wkL, Bool.and_eq_true, decide_eq_true_eq] at q1; omega)
set_option maxHeartbeats 4000000 in
set_option maxRecDepth 100000 in
theorem c_X2_isWalkable {ad : Nat → Nat} {I : KI} {J : KJ} {t : Nat} (ht : Tw t) {n r s : Nat} {rd : Nat → Nat → Nat} (hw : cTw t I n r s rd) (ok : okTw n r s rd) {C0 : Nat → Nat → Nat} (hc : okW n r rd C0) (hW : cWy t I n r rd C0) {pc rdy : Nat → Nat} {og : List Nat} (hG : cGt I pc rdy og) (hl7 : og.length ≤ 7) (hm : ∀ x, x ∈ og → x < n) {a : Nat} (ha : a < n)  {Q : Int32 → KI → KJ → KR → Prop} (h1 : wkB C0 s a og = true → Q 1 I J (rf t)) (h0 : ¬ wkB C0 s a og = true → Q 0 I J (rf t))  : Mi 2 yX2_isWalkable (wm yX2_isWalkable cX2_isWalkable 7 (some .boolean)) [.ref (ad 49), .ref (ad t), .int (nI a)] ad I J (rf t) Q := by
  refine mi_of (own := RX2) yk_X2_isWalkable rfl (Nat.le_of_ble_eq_true rfl) rfl (fun X hA hnL C K E => ?_)
  subst hA
  refine z_iconst (n := 1) (v := 0) C dX2_isWalkable_0 rfl rfl ?_
  refine z_istore_n (n := 2) (L' := [(3, _), (0, _), (1, _), (2, _)]) C dX2_isWalkable_1 rfl (by rw [hnL]; decide) rfl ?_
  refine z_iload_n (n := 3) C 3 dX2_isWalkable_2 rfl rfl ?_
  refine z_istore (n := 5) (L' := [(4, _), (3, _), (0, _), (1, _), (2, _)]) C dX2_isWalkable_3 rfl (by rw [hnL]; decide) rfl ?_
  refine z_iconst (n := 6) (v := 0) C dX2_isWalkable_5 rfl rfl ?_
  refine z_istore (n := 8) (L' := [(5, _), (4, _), (3, _), (0, _), (1, _), (2, _)]) C dX2_isWalkable_6 rfl (by rw [hnL]; decide) rfl ?_
  exact l_X2_isWalkable C K hnL E ht hw ok hc hW hG hl7 hm ha h1 h0 (og.length + 2) 0 a 0 (by omega) ⟨by omega, ha, rfl, by rw [List.drop_zero]; omega, by omega⟩
set_option maxHeartbeats 4000000 in
set_option maxRecDepth 100000 in
theorem l_X2_walkWay {X : KX} {t : Nat} (C : Cx X RX2 cX2_walkWay 2) (K : Kx X) (hnL : xnL X = 8) {Q : KI → KJ → KR → Prop} (E : Ev X Q) {I : KI} {J : KJ} (ht : Tw t) {n r s : Nat} {rd : Nat → Nat → Nat} (hw : cTw t I n r s rd) (ok : okTw n r s rd) {C0 : Nat → Nat → Nat} (hc : okW n r rd C0) (hW : cWy t I n r rd C0) {F : List St} {m a b p : Nat} (hb : b < n) (hp : p ≤ 4) (hFo : okP F) (hFc : crs F ≤ 15) (hQ : ∀ I' J', (∀ q, q ≠ 54 → I' q = I q) → (∀ q, q ≠ 54 → q ≠ 55 → J' q = J q) → cMn I' J' F m → Q I' J' (rf t)) : ∀ (f st x : Nat) (I1 : KI) (J1 : KJ) (P1 : List St), 7 - st < f → (x < n ∧ C0 x b < 1048576 ∧ rnk C0 n x b + st ≤ 6 ∧ (∀ q, q ≠ 54 → I1 q = I q) ∧ (∀ q, q ≠ 54 → q ≠ 55 → J1 q = J q) ∧ cMn I1 J1 P1 m ∧ P1 ++ stpW rd p (wy r rd C0 x b) = F) → Z X 0 0 (V X I1 J1 (rf t)) 6 [(6, .int (nI st)), (5, .int (nI x)), (0, .ref (xad X 49)), (1, .ref (xad X t)), (2, .int (nI a)), (3, .int (nI b)), (4, .int (nI p))] [] := by
  intro f
  induction f with
  | zero => intro st x I1 J1 P1 h; omega
  | succ f ih =>
    intro st x I1 J1 P1 hf hi
    obtain ⟨hx, hlt, hrk, hfI, hfJ, hM, hF⟩ := hi
    have hn7 := ok.1
    have hw1 : cTw t I1 n r s rd := hw.fr (fun q q1 q2 => hfI q (by rcases ht with rfl | rfl <;> omega))
    have hW1 : cWy t I1 n r rd C0 := hW.fr hn7 (fun q q1 q2 => hfI q (by rcases ht with rfl | rfl <;> omega))
    have hval := hW1.2 x b hx hb
    refine z_iload (n := 8) C 0 dX2_walkWay_6 rfl rfl ?_
    refine z_bipush (n := 10) (v := 7) C dX2_walkWay_8 rfl rfl ?_
    refine z_icmpF_ge (n := 13) (tgt := 101) C (by rw [fa_le, nI_toInt (by omega)]; simp only [Int32.reduceToInt]; omega) dX2_walkWay_10 rfl rfl ?_
    refine z_aload_n (n := 14) C 3 dX2_walkWay_13 rfl rfl ?_
    refine z_getR (n := 17) (q := (t + 14)) C K fF_RX2_75 dX2_walkWay_14 rfl rfl (sh_tw ht) (Tw.lt0 ht) (rf_tw9 ht) ?_
    refine z_iload (n := 19) C 1 dX2_walkWay_17 rfl rfl ?_
    refine z_aaldN (n := 20) (q := (t + 15 + x)) (ci := 2) C K x dX2_walkWay_19 rfl (by decide) (sh_tw14 ht) (Tw.lt ht (by decide)) rfl (by omega) (by decide) (rf_tr15 ht (by omega)) ?_
    refine z_iload_n (n := 21) C 5 dX2_walkWay_20 rfl rfl ?_
    refine z_ialdN (n := 22) C K b dX2_walkWay_21 rfl (sh_tr15 ht (by omega)) (Tw.ltr ht (by decide) (by omega)) rfl (by omega) (by decide) ?_
    rw [hval]
    refine z_bipush (n := 24) (v := (-9)) C dX2_walkWay_22 rfl rfl ?_
    refine z_icmp_eq (tgt := 101) (n := 27) C dX2_walkWay_24 rfl rfl (fun c24 => ?_) (fun c24 => ?_)
    · refine z_vret C E dX2_walkWay_101 ?_
      have hxb : x = b := by
        by_cases e : x = b
        · exact e
        · exfalso
          have g1 := (okW.next ok.2.2.2 hc hx hb e hlt).1
          have hr12 := ok.2.1
          unfold nxI at c24
          rw [if_neg (by omega)] at c24
          have := congrArg Int32.toInt c24
          rw [nI_toInt (by omega)] at this
          simp only [Int32.reduceToInt] at this
          omega
      subst hxb
      rw [wy_self, stpW, List.append_nil] at hF
      subst hF
      exact hQ I1 J1 hfI hfJ hM
    · have hxb : x ≠ b := fun e => c24 (by unfold nxI; rw [if_pos (Or.inl e)])
      obtain ⟨g1, g2, g3, g4, g5, g6⟩ := okW.next ok.2.2.2 hc hx hb hxb hlt
      have ewy := wy_step hn7 ok.2.2.2 hc hx hb hxb hlt
      have enx : nxI r rd C0 x b = nI (nxS rd C0 x b r) := by unfold nxI; rw [if_neg (by omega)]
      obtain ⟨k, ek⟩ : ∃ k, nxS rd C0 x b r = k := ⟨_, rfl⟩
      rw [ek] at g1 g2 g3 g4 g5 g6 ewy enx
      rw [ewy, stpW] at hF
      have hr12 := ok.2.1
      have hz := ok.2.2.2 k g1
      have hwk := hw1.2.2.2 k g1
      refine z_aload_n (n := 28) C 3 dX2_walkWay_27 rfl rfl ?_
      refine z_getR (n := 31) (q := (t + 14)) C K fF_RX2_75 dX2_walkWay_28 rfl rfl (sh_tw ht) (Tw.lt0 ht) (rf_tw9 ht) ?_
      refine z_iload (n := 33) C 1 dX2_walkWay_31 rfl rfl ?_
      refine z_aaldN (n := 34) (q := (t + 15 + x)) (ci := 2) C K x dX2_walkWay_33 rfl (by decide) (sh_tw14 ht) (Tw.lt ht (by decide)) rfl (by omega) (by decide) (rf_tr15 ht (by omega)) ?_
      refine z_iload_n (n := 35) C 5 dX2_walkWay_34 rfl rfl ?_
      refine z_ialdN (n := 36) C K b dX2_walkWay_35 rfl (sh_tr15 ht (by omega)) (Tw.ltr ht (by decide) (by omega)) rfl (by omega) (by decide) ?_
      rw [hval, enx]
      refine z_istore (n := 38) (L' := [(7, _), (6, _), (5, _), (0, _), (1, _), (2, _), (3, _), (4, _)]) C dX2_walkWay_36 rfl (by rw [hnL]; decide) rfl ?_
      refine z_aload_n (n := 39) C 3 dX2_walkWay_38 rfl rfl ?_
      refine z_getR (n := 42) (q := 54) C K fF_RX2_21 dX2_walkWay_39 rfl rfl sh_49 (by decide) rfl ?_
      refine z_aload_n (n := 43) C 4 dX2_walkWay_42 rfl rfl ?_
      refine z_getR (n := 46) (q := (t + 3)) C K fF_RX2_79 dX2_walkWay_43 rfl rfl (sh_tw ht) (Tw.lt0 ht) (rf_tw5 ht) ?_
      refine z_iload (n := 48) C 0 dX2_walkWay_46 rfl rfl ?_
      refine z_ialdN (n := 49) C K k dX2_walkWay_48 rfl (sh_tw3 ht) (Tw.lt ht (by decide)) rfl (by omega) (by decide) ?_
      refine z_iload (n := 51) C 7 dX2_walkWay_49 rfl rfl ?_
      rw [hwk.2.2.1]
      refine z_imul (n := 52) C dX2_walkWay_51 rfl ?_
      rw [mul_nI]
      refine z_vv_1 (n := 55) (d' := 1) C K dX2_walkWay_52 rfl yk_X3_pass yv_X3_pass kM_RX2_82 (by decide) hR0 rfl rfl sh_54 (by decide) (by decide) ?_
      refine c_X3_pass hM (fun I2 J2 hf2 hg2 hM2 => ?_)
      have hw2 : cTw t I2 n r s rd := hw1.fr (fun q q1 q2 => hf2 q (by rcases ht with rfl | rfl <;> omega))
      have hwk2 := hw2.2.2.2 k g1
      refine z_aload_n (n := 56) C 4 dX2_walkWay_55 rfl rfl ?_
      refine z_iload (n := 58) C 0 dX2_walkWay_56 rfl rfl ?_
      refine z_vi_1 (n := 61) (d' := 1) C K dX2_walkWay_58 rfl yk_X7_isCrossing yv_X7_isCrossing kM_RX2_85 (by decide) hR0 rfl rfl (sh_tw ht) (by decide) (Tw.lt0 ht) ?_
      refine c_X7_isCrossing (r := r) ht (by omega) hwk2.2.2.2.1 hz.2.2.2.2.2.1 (fun b58 => ?_) (fun b58 => ?_)
      · refine z_ifF_eq (n := 64) (tgt := 85) C (by decide) dX2_walkWay_61 rfl rfl ?_
        refine z_aload_n (n := 65) C 3 dX2_walkWay_64 rfl rfl ?_
        refine z_getR (n := 68) (q := 54) C K fF_RX2_21 dX2_walkWay_65 rfl rfl sh_49 (by decide) rfl ?_
        refine z_aload_n (n := 69) C 4 dX2_walkWay_68 rfl rfl ?_
        refine z_getR (n := 72) (q := (t + 4)) C K fF_RX2_89 dX2_walkWay_69 rfl rfl (sh_tw ht) (Tw.lt0 ht) (rf_tw6 ht) ?_
        refine z_iload (n := 74) C 0 dX2_walkWay_72 rfl rfl ?_
        refine z_ialdN (n := 75) C K k dX2_walkWay_74 rfl (sh_tw4 ht) (Tw.lt ht (by decide)) rfl (by omega) (by decide) ?_
        refine z_aload_n (n := 76) C 4 dX2_walkWay_75 rfl rfl ?_
        refine z_getR (n := 79) (q := (t + 5)) C K fF_RX2_92 dX2_walkWay_76 rfl rfl (sh_tw ht) (Tw.lt0 ht) (rf_tw7 ht) ?_
        refine z_iload (n := 81) C 0 dX2_walkWay_79 rfl rfl ?_
        refine z_ialdN (n := 82) C K k dX2_walkWay_81 rfl (sh_tw5 ht) (Tw.lt ht (by decide)) rfl (by omega) (by decide) ?_
        rw [hwk2.2.2.2.1, hwk2.2.2.2.2]
        have eF : (P1 ++ [(0, rd 2 k * p, 0)]) ++ ((1, rd 3 k, rd 4 k) :: stpW rd p (wy r rd C0 (othS rd k x) b)) = F := by
          rw [← hF]; unfold stpR; rw [if_pos b58]; simp
        have hPo : okP (P1 ++ [(0, rd 2 k * p, 0)]) := okP.l (by rw [eF]; exact hFo)
        have hPc : crs (P1 ++ [(0, rd 2 k * p, 0)]) ≤ 14 := by
          rw [← eF, crs_app, crs] at hFc
          simp only [if_pos] at hFc
          omega
        refine z_vv_2 (n := 85) (d' := 1) C K dX2_walkWay_82 rfl yk_X3_cross yv_X3_cross kM_RX2_95 (by decide) hR0 rfl rfl sh_54 (by decide) (by decide) ?_
        refine c_X3_cross hPo hPc hM2 hz.2.2.2.2.2.1 hz.2.2.2.2.2.2 (fun I3 J3 hf3 hg3 hM3 => ?_)
        have hw3 : cTw t I3 n r s rd := hw2.fr (fun q q1 q2 => hf3 q (by rcases ht with rfl | rfl <;> omega))
        refine z_aload_n (n := 86) C 4 dX2_walkWay_85 rfl rfl ?_
        refine z_iload (n := 88) C 0 dX2_walkWay_86 rfl rfl ?_
        refine z_iload (n := 90) C 2 dX2_walkWay_88 rfl rfl ?_
        refine z_vi_2 (n := 93) (d' := 1) C K dX2_walkWay_90 rfl yk_X7_otherEnd yv_X7_otherEnd kM_RX2_99 (by decide) hR0 rfl rfl (sh_tw ht) (by decide) (Tw.lt0 ht) ?_
        refine c_X7_otherEnd ht hw3 ok g1 (by omega) ?_
        refine z_istore (n := 95) (L' := [(5, _), (7, _), (6, _), (0, _), (1, _), (2, _), (3, _), (4, _)]) C dX2_walkWay_93 rfl (by rw [hnL]; decide) rfl ?_
        refine z_iincG (n := 98) (c := 1) (L' := [(6, _), (5, _), (7, _), (0, _), (1, _), (2, _), (3, _), (4, _)]) C 2 dX2_walkWay_95 rfl rfl rfl (by rw [hnL]; decide) rfl ?_
        refine z_goto (n := 6) C dX2_walkWay_98 rfl ?_
        refine z_sub (L' := [(6, _), (5, _), (0, _), (1, _), (2, _), (3, _), (4, _)]) [0, 1, 3, 4, 5, 6, 7] rfl ?_
        rw [nI_1]
        exact ih (st + 1) (othS rd k x) _ _ _ (by omega) ⟨g4, g5, by omega, fun q hq => by rw [hf3 q hq, hf2 q hq]; exact hfI q hq, fun q q1 q2 => by rw [hg3 q q1 q2, hg2 q q1 q2]; exact hfJ q q1 q2, hM3, by rw [← eF]; simp⟩
      · refine z_ifT_eq (tgt := 85) C (by decide) dX2_walkWay_61 rfl ?_
        refine z_aload_n (n := 86) C 4 dX2_walkWay_85 rfl rfl ?_
        refine z_iload (n := 88) C 0 dX2_walkWay_86 rfl rfl ?_
        refine z_iload (n := 90) C 2 dX2_walkWay_88 rfl rfl ?_
        refine z_vi_2 (n := 93) (d' := 1) C K dX2_walkWay_90 rfl yk_X7_otherEnd yv_X7_otherEnd kM_RX2_99 (by decide) hR0 rfl rfl (sh_tw ht) (by decide) (Tw.lt0 ht) ?_
        refine c_X7_otherEnd ht hw2 ok g1 (by omega) ?_
        refine z_istore (n := 95) (L' := [(5, _), (7, _), (6, _), (0, _), (1, _), (2, _), (3, _), (4, _)]) C dX2_walkWay_93 rfl (by rw [hnL]; decide) rfl ?_
        refine z_iincG (n := 98) (c := 1) (L' := [(6, _), (5, _), (7, _), (0, _), (1, _), (2, _), (3, _), (4, _)]) C 2 dX2_walkWay_95 rfl rfl rfl (by rw [hnL]; decide) rfl ?_
        refine z_goto (n := 6) C dX2_walkWay_98 rfl ?_
        refine z_sub (L' := [(6, _), (5, _), (0, _), (1, _), (2, _), (3, _), (4, _)]) [0, 1, 3, 4, 5, 6, 7] rfl ?_
        rw [nI_1]
        exact ih (st + 1) (othS rd k x) _ _ _ (by omega) ⟨g4, g5, by omega, fun q hq => by rw [hf2 q hq]; exact hfI q hq, fun q q1 q2 => by rw [hg2 q q1 q2]; exact hfJ q q1 q2, hM2, by rw [← hF]; unfold stpR; rw [if_neg (by omega)]; simp⟩
set_option maxHeartbeats 4000000 in
set_option maxRecDepth 100000 in
theorem c_X2_walkWay {ad : Nat → Nat} {I : KI} {J : KJ} {t : Nat} (ht : Tw t) {n r s : Nat} {rd : Nat → Nat → Nat} (hw : cTw t I n r s rd) (ok : okTw n r s rd) {C0 : Nat → Nat → Nat} (hc : okW n r rd C0) (hW : cWy t I n r rd C0) {P F : List St} {m : Nat} (hM : cMn I J P m) {a b p : Nat} (ha : a < n) (hb : b < n) (hp : p ≤ 4) (hlt : C0 a b < 1048576) (hF : P ++ stpW rd p (wy r rd C0 a b) = F) (hFo : okP F) (hFc : crs F ≤ 15)  {Q : KI → KJ → KR → Prop} (hQ : ∀ I' J', (∀ q, q ≠ 54 → I' q = I q) → (∀ q, q ≠ 54 → q ≠ 55 → J' q = J q) → cMn I' J' F m → Q I' J' (rf t))  : Mv 2 yX2_walkWay (wm yX2_walkWay cX2_walkWay 8 none) [.ref (ad 49), .ref (ad t), .int (nI a), .int (nI b), .int (nI p)] ad I J (rf t) Q := by
  refine mv_of (own := RX2) yk_X2_walkWay rfl (Nat.le_of_ble_eq_true rfl) rfl (fun X hA hnL C K E => ?_)
  subst hA
  refine z_iload_n (n := 1) C 2 dX2_walkWay_0 rfl rfl ?_
  refine z_istore (n := 3) (L' := [(5, _), (0, _), (1, _), (2, _), (3, _), (4, _)]) C dX2_walkWay_1 rfl (by rw [hnL]; decide) rfl ?_
  refine z_iconst (n := 4) (v := 0) C dX2_walkWay_3 rfl rfl ?_
  refine z_istore (n := 6) (L' := [(6, _), (5, _), (0, _), (1, _), (2, _), (3, _), (4, _)]) C dX2_walkWay_4 rfl (by rw [hnL]; decide) rfl ?_
  have h1 := rnk_lt (C := C0) (b := b) ha
  have h2 := ok.1
  exact l_X2_walkWay C K hnL E ht hw ok hc hW hb hp hFo hFc hQ 8 0 a I J P (by omega) ⟨ha, hlt, by omega, fun _ _ => rfl, fun _ _ _ => rfl, hM, hF⟩
set_option maxHeartbeats 4000000 in
set_option maxRecDepth 100000 in
theorem l_X2_walk {X : KX} {t : Nat} (C : Cx X RX2 cX2_walk 3) (K : Kx X) (hnL : xnL X = 8) {Q : KI → KJ → KR → Prop} (E : Ev X Q) {I : KI} {J : KJ} (ht : Tw t) {n r s : Nat} {rd : Nat → Nat → Nat} (hw : cTw t I n r s rd) (ok : okTw n r s rd) {C0 : Nat → Nat → Nat} (hc : okW n r rd C0) (hW : cWy t I n r rd C0) {pc rdy : Nat → Nat} {og : List Nat} (hG : cGt I pc rdy og) (hl7 : og.length ≤ 7) (hm : ∀ x, x ∈ og → x < n) (hp4 : ∀ g, pc g ≤ 4) (hr6 : ∀ g, rdy g ≤ 60) {a m : Nat} (ha : a < n) (hwk : wkB C0 s a og = true) (hm2 : m ≤ 200) (hQ : ∀ I' J', (∀ q, q ≠ 54 → I' q = I q) → (∀ q, q ≠ 54 → q ≠ 55 → J' q = J q) → cMn I' J' (stpL r rd C0 rdy pc s og a 1) m → Q I' J' (rf t)) : ∀ (f k x v : Nat) (I1 : KI) (J1 : KJ) (P1 : List St), og.length + 1 - k < f → (k ≤ og.length ∧ x < n ∧ v ≤ 4 ∧ wkL C0 ((og ++ [s]).drop k) x = true ∧ (∀ q, q ≠ 54 → I1 q = I q) ∧ (∀ q, q ≠ 54 → q ≠ 55 → J1 q = J q) ∧ cMn I1 J1 P1 m ∧ P1 ++ stpL r rd C0 rdy pc s (og.drop k) x v = stpL r rd C0 rdy pc s og a 1) → Z X 0 0 (V X I1 J1 (rf t)) 17 [(6, .int (nI k)), (5, .int (nI x)), (4, .int (nI v)), (0, .ref (xad X 49)), (1, .ref (xad X t)), (2, .int (nI a)), (3, .int (nI m))] [] := by
  intro f
  induction f with
  | zero => intro k x v I1 J1 P1 h; omega
  | succ f ih =>
    intro k x v I1 J1 P1 hf hi
    obtain ⟨hk, hx, hv, hWk, hfI, hfJ, hM, hF⟩ := hi
    have hn7 := ok.1
    have hsn : s < n := ok.2.2.1 (by omega)
    obtain ⟨hwl, hcl⟩ := wkB_t.mp hwk
    obtain ⟨fc, fo, ft⟩ := stpL_fact hn7 ok.2.2.2 hc hsn hp4 hr6 og a 1 hm ha (by decide) hwl
    have hG1 : cGt I1 pc rdy og := hG.fr (fun q q1 q2 => hfI q (by omega))
    have hw1 : cTw t I1 n r s rd := hw.fr (fun q q1 q2 => hfI q (by rcases ht with rfl | rfl <;> omega))
    have hW1 : cWy t I1 n r rd C0 := hW.fr hn7 (fun q q1 q2 => hfI q (by rcases ht with rfl | rfl <;> omega))
    refine z_iload (n := 19) C 0 dX2_walk_17 rfl rfl ?_
    refine z_aload_n (n := 20) C 3 dX2_walk_19 rfl rfl ?_
    refine z_getR (n := 23) (q := 50) C K fF_RX2_12 dX2_walk_20 rfl rfl sh_49 (by decide) rfl ?_
    refine z_getI (n := 26) C K fF_RX2_29 dX2_walk_23 rfl sh_50 (by decide) ?_
    rw [hG1.1]
    refine z_icmpF_gt (n := 29) (tgt := 105) C (by rw [fa_lt, nI_toInt (by omega), nI_toInt (by omega)]; omega) dX2_walk_26 rfl rfl ?_
    refine z_aload_n (n := 30) C 3 dX2_walk_29 rfl rfl ?_
    refine z_aload_n (n := 31) C 4 dX2_walk_30 rfl rfl ?_
    refine z_iload (n := 33) C 0 dX2_walk_31 rfl rfl ?_
    refine z_vi_2 (n := 36) (d' := 1) C K dX2_walk_33 rfl yk_X2_stop yv_X2_stop kM_RX2_33 (by decide) hR0 rfl rfl sh_49 (by decide) (by decide) ?_
    refine c_X2_stop ht hw1 ok hG1 hl7 hk ?_
    have edr := drop_cons (l := og ++ [s]) (k := k) (by rw [List.length_append]; show k < og.length + 1; omega)
    have hy := getD_mem (l := og ++ [s]) (k := k) (by rw [List.length_append]; show k < og.length + 1; omega)
    have hya := getD_app (l := og) (k := k) (s := s) hk
    obtain ⟨y, ey⟩ : ∃ y, (og ++ [s]).getD k 0 = y := ⟨_, rfl⟩
    rw [ey] at edr hy hya ⊢
    have hyn : y < n := by
      rcases List.mem_append.mp hy with e | e
      · exact hm y e
      · rw [List.mem_singleton.mp e]; exact hsn
    rw [edr, wkL, Bool.and_eq_true, decide_eq_true_eq] at hWk
    obtain ⟨S2, eS⟩ : ∃ S2, stpL r rd C0 rdy pc s (og.drop k) x v = stpW rd v (wy r rd C0 x y) ++ S2 := by
      by_cases e : k < og.length
      · rw [drop_cons e, stpL, hya, if_pos e]; exact ⟨_, rfl⟩
      · rw [List.drop_eq_nil_of_le (by omega), stpL, hya, if_neg e]; exact ⟨[], by rw [List.append_nil]⟩
    have hFo : okP (P1 ++ stpW rd v (wy r rd C0 x y)) := okP.l (S := S2) (by rw [List.append_assoc, ← eS, hF]; exact fo)
    have hFc : crs (P1 ++ stpW rd v (wy r rd C0 x y)) ≤ 15 := by
      have e1 := crs_app (P1 ++ stpW rd v (wy r rd C0 x y)) S2
      rw [List.append_assoc, ← eS, hF] at e1
      omega
    have hFt : tmx (P1 ++ stpW rd v (wy r rd C0 x y)) m < 10000 := by
      have e1 := tmx_app (P1 ++ stpW rd v (wy r rd C0 x y)) S2 m
      rw [List.append_assoc, ← eS, hF] at e1
      have e2 := tmx_le S2 (tmx (P1 ++ stpW rd v (wy r rd C0 x y)) m)
      have e3 := ft m
      omega
    refine z_istore (n := 38) (L' := [(7, _), (6, _), (5, _), (4, _), (0, _), (1, _), (2, _), (3, _)]) C dX2_walk_36 rfl (by rw [hnL]; decide) rfl ?_
    refine z_aload_n (n := 39) C 4 dX2_walk_38 rfl rfl ?_
    refine z_aload_n (n := 40) C 5 dX2_walk_39 rfl rfl ?_
    refine z_iload (n := 42) C 2 dX2_walk_40 rfl rfl ?_
    refine z_iload (n := 44) C 0 dX2_walk_42 rfl rfl ?_
    refine z_iload (n := 46) C 3 dX2_walk_44 rfl rfl ?_
    refine z_vv_4 (n := 49) (d' := 2) C K dX2_walk_46 rfl yk_X2_walkWay yv_X2_walkWay kM_RX2_57 (by decide) hR0 rfl rfl sh_49 (by decide) (by decide) ?_
    refine c_X2_walkWay ht hw1 ok hc hW1 hM hx hyn hv hWk.1 rfl hFo hFc (fun I2 J2 hf2 hg2 hM2 => ?_)
    have hG2 : cGt I2 pc rdy og := hG1.fr (fun q q1 q2 => hf2 q (by omega))
    refine z_iload (n := 51) C 0 dX2_walk_49 rfl rfl ?_
    refine z_istore (n := 53) (L' := [(5, _), (7, _), (6, _), (4, _), (0, _), (1, _), (2, _), (3, _)]) C dX2_walk_51 rfl (by rw [hnL]; decide) rfl ?_
    refine z_iload (n := 55) C 2 dX2_walk_53 rfl rfl ?_
    refine z_aload_n (n := 56) C 4 dX2_walk_55 rfl rfl ?_
    refine z_getR (n := 59) (q := 50) C K fF_RX2_12 dX2_walk_56 rfl rfl sh_49 (by decide) rfl ?_
    refine z_getI (n := 62) C K fF_RX2_29 dX2_walk_59 rfl sh_50 (by decide) ?_
    rw [hG2.1]
    refine z_icmp_ge (tgt := 99) (n := 65) C dX2_walk_62 rfl rfl (fun c62 => ?_) (fun c62 => ?_)
    · rw [fa_le, nI_toInt (by omega), nI_toInt (by omega)] at c62
      refine z_iincG (n := 102) (c := 1) (L' := [(6, _), (5, _), (7, _), (4, _), (0, _), (1, _), (2, _), (3, _)]) C 2 dX2_walk_99 rfl rfl rfl (by rw [hnL]; decide) rfl ?_
      refine z_goto (n := 17) C dX2_walk_102 rfl ?_
      refine z_sub (L' := [(6, _), (5, _), (4, _), (0, _), (1, _), (2, _), (3, _)]) [0, 1, 3, 4, 5, 6, 7] rfl ?_
      rw [nI_1]
      have hkl : k = og.length := by omega
      rw [if_neg (by omega)] at hya
      subst hkl
      rw [List.drop_eq_nil_of_le (Nat.le_refl _), stpL] at hF
      rw [hya, hF] at hM2
      refine z_iload (n := 19) C 0 dX2_walk_17 rfl rfl ?_
      refine z_aload_n (n := 20) C 3 dX2_walk_19 rfl rfl ?_
      refine z_getR (n := 23) (q := 50) C K fF_RX2_12 dX2_walk_20 rfl rfl sh_49 (by decide) rfl ?_
      refine z_getI (n := 26) C K fF_RX2_29 dX2_walk_23 rfl sh_50 (by decide) ?_
      rw [hG2.1]
      refine z_icmpT_gt (tgt := 105) C (by rw [fa_lt, nI_toInt (by omega), nI_toInt (by omega)]; omega) dX2_walk_26 rfl ?_
      refine z_vret C E dX2_walk_105 ?_
      exact hQ I2 J2 (fun q hq => by rw [hf2 q hq]; exact hfI q hq) (fun q q1 q2 => by rw [hg2 q q1 q2]; exact hfJ q q1 q2) hM2
    · rw [fa_le, nI_toInt (by omega), nI_toInt (by omega)] at c62
      have hkl : k < og.length := by omega
      rw [if_pos hkl] at hya
      refine z_aload_n (n := 66) C 4 dX2_walk_65 rfl rfl ?_
      refine z_getR (n := 69) (q := 54) C K fF_RX2_21 dX2_walk_66 rfl rfl sh_49 (by decide) rfl ?_
      refine z_aload_n (n := 70) C 4 dX2_walk_69 rfl rfl ?_
      refine z_getR (n := 73) (q := 50) C K fF_RX2_12 dX2_walk_70 rfl rfl sh_49 (by decide) rfl ?_
      refine z_getR (n := 76) (q := 52) C K fF_RX2_61 dX2_walk_73 rfl rfl sh_50 (by decide) rfl ?_
      refine z_iload (n := 78) C 1 dX2_walk_76 rfl rfl ?_
      refine z_ialdN (n := 79) C K y dX2_walk_78 rfl sh_52 (by decide) rfl (by omega) (by decide) ?_
      rw [(hG2.2.1 y (by omega)).1]
      refine z_vv_1 (n := 82) (d' := 1) C K dX2_walk_79 rfl yk_X3_waitUntil yv_X3_waitUntil kM_RX2_64 (by decide) hR0 rfl rfl sh_54 (by decide) (by decide) ?_
      refine c_X3_waitUntil hFc hM2 (hr6 y) hFt (fun I3 J3 hf3 hg3 hM3 => ?_)
      have hG3 : cGt I3 pc rdy og := hG2.fr (fun q q1 q2 => hf3 q (by omega))
      refine z_iload (n := 84) C 3 dX2_walk_82 rfl rfl ?_
      refine z_aload_n (n := 85) C 4 dX2_walk_84 rfl rfl ?_
      refine z_getR (n := 88) (q := 50) C K fF_RX2_12 dX2_walk_85 rfl rfl sh_49 (by decide) rfl ?_
      refine z_getR (n := 91) (q := 53) C K fF_RX2_67 dX2_walk_88 rfl rfl sh_50 (by decide) rfl ?_
      refine z_iload (n := 93) C 1 dX2_walk_91 rfl rfl ?_
      refine z_ialdN (n := 94) C K y dX2_walk_93 rfl sh_53 (by decide) rfl (by omega) (by decide) ?_
      rw [(hG3.2.1 y (by omega)).2]
      refine z_max (n := 97) C dX2_walk_94 rfl kM_RX2_70 (by decide) hR0 rfl ?_
      rw [max_nI (by omega) (by have := hp4 y; omega)]
      refine z_istore (n := 99) (L' := [(4, _), (5, _), (7, _), (6, _), (0, _), (1, _), (2, _), (3, _)]) C dX2_walk_97 rfl (by rw [hnL]; decide) rfl ?_
      refine z_iincG (n := 102) (c := 1) (L' := [(6, _), (4, _), (5, _), (7, _), (0, _), (1, _), (2, _), (3, _)]) C 3 dX2_walk_99 rfl rfl rfl (by rw [hnL]; decide) rfl ?_
      refine z_goto (n := 17) C dX2_walk_102 rfl ?_
      refine z_sub (L' := [(6, _), (5, _), (4, _), (0, _), (1, _), (2, _), (3, _)]) [0, 2, 1, 4, 5, 6, 7] rfl ?_
      rw [nI_1]
      exact ih (k + 1) y (max v (pc y)) _ _ _ (by omega) ⟨by omega, hyn, by have := hp4 y; omega, hWk.2, fun q hq => by rw [hf3 q hq, hf2 q hq]; exact hfI q hq, fun q q1 q2 => by rw [hg3 q q1 q2, hg2 q q1 q2]; exact hfJ q q1 q2, hM3, by rw [← hF, drop_cons hkl, stpL, ← hya]; simp⟩
set_option maxHeartbeats 4000000 in
set_option maxRecDepth 100000 in
theorem c_X2_walk {ad : Nat → Nat} {I : KI} {J : KJ} {t : Nat} (hz : cZs I J) (ht : Tw t) {n r s : Nat} {rd : Nat → Nat → Nat} (hw : cTw t I n r s rd) (ok : okTw n r s rd) {C0 : Nat → Nat → Nat} (hc : okW n r rd C0) (hW : cWy t I n r rd C0) {pc rdy : Nat → Nat} {og : List Nat} (hG : cGt I pc rdy og) (hl7 : og.length ≤ 7) (hm : ∀ x, x ∈ og → x < n) (hp4 : ∀ g, pc g ≤ 4) (hr6 : ∀ g, rdy g ≤ 60) {a m : Nat} (ha : a < n) (hwk : wkB C0 s a og = true) (hm2 : m ≤ 200)  {Q : KI → KJ → KR → Prop} (hQ : ∀ I' J', (∀ q, q ≠ 54 → I' q = I q) → (∀ q, q ≠ 54 → q ≠ 55 → J' q = J q) → cMn I' J' (stpL r rd C0 rdy pc s og a 1) m → Q I' J' (rf t))  : Mv 3 yX2_walk (wm yX2_walk cX2_walk 8 none) [.ref (ad 49), .ref (ad t), .int (nI a), .int (nI m)] ad I J (rf t) Q := by
  refine mv_of (own := RX2) yk_X2_walk rfl (Nat.le_of_ble_eq_true rfl) rfl (fun X hA hnL C K E => ?_)
  subst hA
  refine z_iconst (n := 1) (v := 1) C dX2_walk_0 rfl rfl ?_
  refine z_istore (n := 3) (L' := [(4, _), (0, _), (1, _), (2, _), (3, _)]) C dX2_walk_1 rfl (by rw [hnL]; decide) rfl ?_
  refine z_aload_n (n := 4) C 1 dX2_walk_3 rfl rfl ?_
  refine z_getR (n := 7) (q := 54) C K fF_RX2_21 dX2_walk_4 rfl rfl sh_49 (by decide) rfl ?_
  refine z_iload_n (n := 8) C 4 dX2_walk_7 rfl rfl ?_
  refine z_vv_1 (n := 11) (d' := 1) C K dX2_walk_8 rfl yk_X3_begin yv_X3_begin kM_RX2_53 (by decide) hR0 rfl rfl sh_54 (by decide) (by decide) ?_
  refine c_X3_begin hz (fun I2 J2 hf2 hg2 hM2 => ?_)
  refine z_iload_n (n := 12) C 3 dX2_walk_11 rfl rfl ?_
  refine z_istore (n := 14) (L' := [(5, _), (4, _), (0, _), (1, _), (2, _), (3, _)]) C dX2_walk_12 rfl (by rw [hnL]; decide) rfl ?_
  refine z_iconst (n := 15) (v := 0) C dX2_walk_14 rfl rfl ?_
  refine z_istore (n := 17) (L' := [(6, _), (5, _), (4, _), (0, _), (1, _), (2, _), (3, _)]) C dX2_walk_15 rfl (by rw [hnL]; decide) rfl ?_
  exact l_X2_walk C K hnL E ht hw ok hc hW hG hl7 hm hp4 hr6 ha hwk hm2 hQ (og.length + 2) 0 a 1 I2 J2 [] (by omega) ⟨by omega, ha, by decide, (wkB_t.mp hwk).1, hf2, hg2, hM2, rfl⟩
