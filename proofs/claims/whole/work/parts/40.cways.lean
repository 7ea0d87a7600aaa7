set_option maxHeartbeats 4000000 in
set_option maxRecDepth 100000 in
theorem c_X7_otherEnd {ad : Nat → Nat} {I : KI} {J : KJ} {t : Nat} (ht : Tw t) {n r s : Nat} {rd : Nat → Nat → Nat}(hw : cTw t I n r s rd) (ok : okTw n r s rd) {k a : Nat} (hk : k < r) (ha : a < 2 ^ 31) {Q : Int32 → KI → KJ → KR → Prop} (hQ : Q (nI (othS rd k a)) I J (rf t)) : Mi 1 yX7_otherEnd (wm yX7_otherEnd cX7_otherEnd 3 (some .int)) [.ref (ad t), .int (nI k), .int (nI a)] ad I J (rf t) Q := by
  refine mi_of (own := RX7) yk_X7_otherEnd rfl (Nat.le_of_ble_eq_true rfl) rfl (fun X hA hnL C K E => ?_)
  subst hA
  have hr12 := ok.2.1
  have hn7 := ok.1
  have hz := hw.2.2.2 k hk
  have hb := ok.2.2.2 k hk
  refine z_aload_n (n := 1) C 0 dX7_otherEnd_0 rfl rfl ?_
  refine z_getR (n := 4) (q := (t + 1)) C K fF_RX7_21 dX7_otherEnd_1 rfl rfl (sh_tw ht) (Tw.lt0 ht) (rf_tw3 ht) ?_
  refine z_iload_n (n := 5) C 1 dX7_otherEnd_4 rfl rfl ?_
  refine z_ialdN (n := 6) C K k dX7_otherEnd_5 rfl (sh_tw1 ht) (Tw.lt ht (by decide)) rfl (by omega) (by decide) ?_
  rw [hz.1]
  refine z_iload_n (n := 7) C 2 dX7_otherEnd_6 rfl rfl ?_
  refine z_icmp_ne (tgt := 19) (n := 10) C dX7_otherEnd_7 rfl rfl (fun c7 => ?_) (fun c7 => ?_)
  · refine z_aload_n (n := 20) C 0 dX7_otherEnd_19 rfl rfl ?_
    refine z_getR (n := 23) (q := (t + 1)) C K fF_RX7_21 dX7_otherEnd_20 rfl rfl (sh_tw ht) (Tw.lt0 ht) (rf_tw3 ht) ?_
    refine z_iload_n (n := 24) C 1 dX7_otherEnd_23 rfl rfl ?_
    refine z_ialdN (n := 25) C K k dX7_otherEnd_24 rfl (sh_tw1 ht) (Tw.lt ht (by decide)) rfl (by omega) (by decide) ?_
    refine z_iret C E dX7_otherEnd_25 ?_
    rw [hz.1]
    exact eqQ (by unfold othS; rw [if_neg (fun e => c7 (by rw [e]))]) hQ
  · refine z_aload_n (n := 11) C 0 dX7_otherEnd_10 rfl rfl ?_
    refine z_getR (n := 14) (q := (t + 2)) C K fF_RX7_25 dX7_otherEnd_11 rfl rfl (sh_tw ht) (Tw.lt0 ht) (rf_tw4 ht) ?_
    refine z_iload_n (n := 15) C 1 dX7_otherEnd_14 rfl rfl ?_
    refine z_ialdN (n := 16) C K k dX7_otherEnd_15 rfl (sh_tw2 ht) (Tw.lt ht (by decide)) rfl (by omega) (by decide) ?_
    refine z_goto (n := 25) C dX7_otherEnd_16 rfl ?_
    refine z_iret C E dX7_otherEnd_25 ?_
    rw [hz.2.1]
    exact eqQ (by unfold othS; rw [if_pos (nI_inj c7 (by omega) ha)]) hQ
set_option maxHeartbeats 4000000 in
set_option maxRecDepth 100000 in
theorem c_X7_roadCost {ad : Nat → Nat} {I : KI} {J : KJ} {t : Nat} (ht : Tw t) {n r s : Nat} {rd : Nat → Nat → Nat}(hw : cTw t I n r s rd) (ok : okTw n r s rd) {k : Nat} (hk : k < r) {Q : Int32 → KI → KJ → KR → Prop} (hQ : Q (nI (w16 rd k)) I J (rf t)) : Mi 2 yX7_roadCost (wm yX7_roadCost cX7_roadCost 2 (some .int)) [.ref (ad t), .int (nI k)] ad I J (rf t) Q := by
  refine mi_of (own := RX7) yk_X7_roadCost rfl (Nat.le_of_ble_eq_true rfl) rfl (fun X hA hnL C K E => ?_)
  subst hA
  have hr12 := ok.2.1
  have hz := hw.2.2.2 k hk
  have hb := ok.2.2.2 k hk
  refine z_aload_n (n := 1) C 0 dX7_roadCost_0 rfl rfl ?_
  refine z_getR (n := 4) (q := (t + 3)) C K fF_RX7_28 dX7_roadCost_1 rfl rfl (sh_tw ht) (Tw.lt0 ht) (rf_tw5 ht) ?_
  refine z_iload_n (n := 5) C 1 dX7_roadCost_4 rfl rfl ?_
  refine z_ialdN (n := 6) C K k dX7_roadCost_5 rfl (sh_tw3 ht) (Tw.lt ht (by decide)) rfl (by omega) (by decide) ?_
  rw [hz.2.2.1]
  refine z_bipush (n := 8) (v := 16) C dX7_roadCost_6 rfl rfl ?_
  refine z_imul (n := 9) C dX7_roadCost_8 rfl ?_
  rw [show (16 : Int32) = nI 16 from rfl, mul_nI]
  refine z_aload_n (n := 10) C 0 dX7_roadCost_9 rfl rfl ?_
  refine z_iload_n (n := 11) C 1 dX7_roadCost_10 rfl rfl ?_
  refine z_vi_1 (n := 14) (d' := 1) C K dX7_roadCost_11 rfl yk_X7_isCrossing yv_X7_isCrossing kM_RX7_45 (by decide) hR0 rfl rfl (sh_tw ht) (by decide) (Tw.lt0 ht) ?_
  refine c_X7_isCrossing (u := t) (r := r) ht (by omega) hz.2.2.2.1 (by omega) (fun b11 => ?_) (fun b11 => ?_)
  · refine z_ifF_eq (n := 17) (tgt := 21) C (by decide) dX7_roadCost_14 rfl rfl ?_
    refine z_iconst (n := 18) (v := 1) C dX7_roadCost_17 rfl rfl ?_
    refine z_goto (n := 22) C dX7_roadCost_18 rfl ?_
    refine z_iadd (n := 23) C dX7_roadCost_22 rfl ?_
    refine z_iret C E dX7_roadCost_23 ?_
    exact eqQ (by unfold w16; rw [if_pos b11, nI_1, Nat.mul_comm]) hQ
  · refine z_ifT_eq (tgt := 21) C (by decide) dX7_roadCost_14 rfl ?_
    refine z_iconst (n := 22) (v := 0) C dX7_roadCost_21 rfl rfl ?_
    refine z_iadd (n := 23) C dX7_roadCost_22 rfl ?_
    refine z_iret C E dX7_roadCost_23 ?_
    exact eqQ (by unfold w16; rw [if_neg (by omega), Nat.mul_comm, show (0 : Int32) = nI 0 from rfl, nI_add]) hQ
set_option maxHeartbeats 4000000 in
set_option maxRecDepth 100000 in
theorem c_X7_hasWay {ad : Nat → Nat} {I : KI} {J : KJ} {t : Nat} (ht : Tw t) {n : Nat} (hn7 : n ≤ 7) {C0 : Nat → Nat → Nat} (hg : gC t n I C0) (hc : ∀ x y, x < n → y < n → C0 x y ≤ 1048576) {a b : Nat} (ha : a < n) (hb : b < n) {Q : Int32 → KI → KJ → KR → Prop} (h1 : C0 a b < 1048576 → Q 1 I J (rf t)) (h0 : 1048576 ≤ C0 a b → Q 0 I J (rf t)) : Mi 1 yX7_hasWay (wm yX7_hasWay cX7_hasWay 3 (some .boolean)) [.ref (ad t), .int (nI a), .int (nI b)] ad I J (rf t) Q := by
  refine mi_of (own := RX7) yk_X7_hasWay rfl (Nat.le_of_ble_eq_true rfl) rfl (fun X hA hnL C K E => ?_)
  subst hA
  refine z_aload_n (n := 1) C 0 dX7_hasWay_0 rfl rfl ?_
  refine z_getR (n := 4) (q := (t + 6)) C K fF_RX7_39 dX7_hasWay_1 rfl rfl (sh_tw ht) (Tw.lt0 ht) (rf_tw8 ht) ?_
  refine z_iload_n (n := 5) C 1 dX7_hasWay_4 rfl rfl ?_
  refine z_aaldN (n := 6) (q := (t + 7 + a)) (ci := 2) C K a dX7_hasWay_5 rfl (by decide) (sh_tw6 ht) (Tw.lt ht (by decide)) rfl (by omega) (by decide) (rf_tr7 ht (by omega)) ?_
  refine z_iload_n (n := 7) C 2 dX7_hasWay_6 rfl rfl ?_
  refine z_ialdN (n := 8) C K b dX7_hasWay_7 rfl (sh_tr7 ht (by omega)) (Tw.ltr ht (by decide) (by omega)) rfl (by omega) (by decide) ?_
  rw [hg a b ha hb]
  have hle := hc a b ha hb
  refine z_ldc (n := 10) C dX7_hasWay_8 kK_RX7_61 rfl ?_
  refine z_icmp_ge (tgt := 17) (n := 13) C dX7_hasWay_10 rfl rfl (fun c10 => ?_) (fun c10 => ?_)
  · refine z_iconst (n := 18) (v := 0) C dX7_hasWay_17 rfl rfl ?_
    refine z_zret C E dX7_hasWay_18 (by decide) ?_
    rw [fa_le, nI_toInt (by omega)] at c10
    simp only [Int32.reduceToInt] at c10
    exact h0 (by omega)
  · refine z_iconst (n := 14) (v := 1) C dX7_hasWay_13 rfl rfl ?_
    refine z_goto (n := 18) C dX7_hasWay_14 rfl ?_
    refine z_zret C E dX7_hasWay_18 (by decide) ?_
    rw [fa_le, nI_toInt (by omega)] at c10
    simp only [Int32.reduceToInt] at c10
    exact h1 (by omega)
set_option maxHeartbeats 4000000 in
set_option maxRecDepth 100000 in
theorem c_X7_lengthOfWay {ad : Nat → Nat} {I : KI} {J : KJ} {t : Nat} (ht : Tw t) {n : Nat} (hn7 : n ≤ 7) {C0 : Nat → Nat → Nat} (hg : gC t n I C0) (hc : ∀ x y, x < n → y < n → C0 x y ≤ 1048576) {a b : Nat} (ha : a < n) (hb : b < n) {Q : Int32 → KI → KJ → KR → Prop} (hQ : Q (nI (C0 a b / 16)) I J (rf t)) : Mi 1 yX7_lengthOfWay (wm yX7_lengthOfWay cX7_lengthOfWay 3 (some .int)) [.ref (ad t), .int (nI a), .int (nI b)] ad I J (rf t) Q := by
  refine mi_of (own := RX7) yk_X7_lengthOfWay rfl (Nat.le_of_ble_eq_true rfl) rfl (fun X hA hnL C K E => ?_)
  subst hA
  refine z_aload_n (n := 1) C 0 dX7_lengthOfWay_0 rfl rfl ?_
  refine z_getR (n := 4) (q := (t + 6)) C K fF_RX7_39 dX7_lengthOfWay_1 rfl rfl (sh_tw ht) (Tw.lt0 ht) (rf_tw8 ht) ?_
  refine z_iload_n (n := 5) C 1 dX7_lengthOfWay_4 rfl rfl ?_
  refine z_aaldN (n := 6) (q := (t + 7 + a)) (ci := 2) C K a dX7_lengthOfWay_5 rfl (by decide) (sh_tw6 ht) (Tw.lt ht (by decide)) rfl (by omega) (by decide) (rf_tr7 ht (by omega)) ?_
  refine z_iload_n (n := 7) C 2 dX7_lengthOfWay_6 rfl rfl ?_
  refine z_ialdN (n := 8) C K b dX7_lengthOfWay_7 rfl (sh_tr7 ht (by omega)) (Tw.ltr ht (by decide) (by omega)) rfl (by omega) (by decide) ?_
  rw [hg a b ha hb]
  have hle := hc a b ha hb
  have e16 : (16 : Int32) = nI 16 := rfl
  refine z_bipush (n := 10) (v := 16) C dX7_lengthOfWay_8 rfl rfl ?_
  refine z_idiv (n := 11) C dX7_lengthOfWay_10 rfl (by decide) ?_
  rw [e16, pk_div (by omega) (by decide) (by decide)]
  refine z_iret C E dX7_lengthOfWay_11 ?_
  exact hQ
set_option maxHeartbeats 4000000 in
set_option maxRecDepth 100000 in
theorem c_X7_crossingsOfWay {ad : Nat → Nat} {I : KI} {J : KJ} {t : Nat} (ht : Tw t) {n : Nat} (hn7 : n ≤ 7) {C0 : Nat → Nat → Nat} (hg : gC t n I C0) (hc : ∀ x y, x < n → y < n → C0 x y ≤ 1048576) {a b : Nat} (ha : a < n) (hb : b < n) {Q : Int32 → KI → KJ → KR → Prop} (hQ : Q (nI (C0 a b % 16)) I J (rf t)) : Mi 1 yX7_crossingsOfWay (wm yX7_crossingsOfWay cX7_crossingsOfWay 3 (some .int)) [.ref (ad t), .int (nI a), .int (nI b)] ad I J (rf t) Q := by
  refine mi_of (own := RX7) yk_X7_crossingsOfWay rfl (Nat.le_of_ble_eq_true rfl) rfl (fun X hA hnL C K E => ?_)
  subst hA
  refine z_aload_n (n := 1) C 0 dX7_crossingsOfWay_0 rfl rfl ?_
  refine z_getR (n := 4) (q := (t + 6)) C K fF_RX7_39 dX7_crossingsOfWay_1 rfl rfl (sh_tw ht) (Tw.lt0 ht) (rf_tw8 ht) ?_
  refine z_iload_n (n := 5) C 1 dX7_crossingsOfWay_4 rfl rfl ?_
  refine z_aaldN (n := 6) (q := (t + 7 + a)) (ci := 2) C K a dX7_crossingsOfWay_5 rfl (by decide) (sh_tw6 ht) (Tw.lt ht (by decide)) rfl (by omega) (by decide) (rf_tr7 ht (by omega)) ?_
  refine z_iload_n (n := 7) C 2 dX7_crossingsOfWay_6 rfl rfl ?_
  refine z_ialdN (n := 8) C K b dX7_crossingsOfWay_7 rfl (sh_tr7 ht (by omega)) (Tw.ltr ht (by decide) (by omega)) rfl (by omega) (by decide) ?_
  rw [hg a b ha hb]
  have hle := hc a b ha hb
  have e16 : (16 : Int32) = nI 16 := rfl
  refine z_bipush (n := 10) (v := 16) C dX7_crossingsOfWay_8 rfl rfl ?_
  refine z_irem (n := 11) C dX7_crossingsOfWay_10 rfl (by decide) ?_
  rw [e16, pk_rem (by omega) (by decide) (by decide)]
  refine z_iret C E dX7_crossingsOfWay_11 ?_
  exact hQ
set_option maxHeartbeats 4000000 in
set_option maxRecDepth 100000 in
theorem l_X7_firstRoadOfWay {X : KX} {J : KJ} {t : Nat} (C : Cx X RX7 cX7_firstRoadOfWay 3) (K : Kx X) (hnL : xnL X = 4) {Q : Int32 → KI → KJ → KR → Prop} (E : Ei X .int Q) {I : KI} (ht : Tw t) {n r s : Nat} {rd : Nat → Nat → Nat}(hw : cTw t I n r s rd) (ok : okTw n r s rd) {C0 : Nat → Nat → Nat} (hg : gC t n I C0) (hc : okW n r rd C0) {a b : Nat} (ha : a < n) (hb : b < n) (hab : a ≠ b) (hlt : C0 a b < 1048576) (hQ : Q (nxI r rd C0 a b) I J (rf t)) : ∀ (f : Nat) (k : Nat), r - k < f → (k ≤ r ∧ ∀ j, j < k → ¬ tgS rd C0 a b j) → Z X 0 0 (V X I J (rf t)) 19 [(3, .int (nI k)), (0, .ref (xad X t)), (1, .int (nI a)), (2, .int (nI b))] [] := by
  intro f
  induction f with
  | zero => intro k h; omega
  | succ f ih =>
    intro k hf hi
    obtain ⟨hkr, hno⟩ := hi
    have hr12 := ok.2.1
    have hn7 := ok.1
    have hrd : okRd n r rd := ok.2.2.2
    have enx : nxI r rd C0 a b = nI (nxS rd C0 a b r) := by unfold nxI; rw [if_neg (by omega)]
    refine z_iload_n (n := 20) C 0 dX7_firstRoadOfWay_19 rfl rfl ?_
    refine z_aload_n (n := 21) C 1 dX7_firstRoadOfWay_20 rfl rfl ?_
    refine z_getI (n := 24) C K fF_RX7_15 dX7_firstRoadOfWay_21 rfl (sh_tw ht) (Tw.lt0 ht) ?_
    refine z_icmp_ge (tgt := 85) (n := 27) C dX7_firstRoadOfWay_24 rfl rfl (fun c24 => ?_) (fun c24 => ?_)
    · rw [hw.2.1, fa_le, nI_toInt (by omega), nI_toInt (by omega)] at c24
      exfalso
      have h9 := (hc.next hrd ha hb hab hlt).1
      rw [nxS_none r (fun j hj => hno j (by omega))] at h9
      exact absurd h9 (Nat.lt_irrefl _)
    · rw [hw.2.1, fa_le, nI_toInt (by omega), nI_toInt (by omega)] at c24
      have hk : k < r := by omega
      have hz := hw.2.2.2 k hk
      have hb9 := ok.2.2.2 k hk
      have ho := oth_lt hrd (a := a) hk
      have hw16 := w16_pos hrd hk
      have hle := hc.2.1 a b ha hb
      have hle2 := hc.2.1 _ b ho hb
      refine z_aload_n (n := 28) C 1 dX7_firstRoadOfWay_27 rfl rfl ?_
      refine z_getR (n := 31) (q := (t + 1)) C K fF_RX7_21 dX7_firstRoadOfWay_28 rfl rfl (sh_tw ht) (Tw.lt0 ht) (rf_tw3 ht) ?_
      refine z_iload_n (n := 32) C 0 dX7_firstRoadOfWay_31 rfl rfl ?_
      refine z_ialdN (n := 33) C K k dX7_firstRoadOfWay_32 rfl (sh_tw1 ht) (Tw.lt ht (by decide)) rfl (by omega) (by decide) ?_
      rw [hz.1]
      refine z_iload_n (n := 34) C 2 dX7_firstRoadOfWay_33 rfl rfl ?_
      refine z_icmp_eq (tgt := 47) (n := 37) C dX7_firstRoadOfWay_34 rfl rfl (fun c34 => ?_) (fun c34 => ?_)
      · have hin : incS rd k a := Or.inl (nI_inj c34 (by omega) (by omega))
        refine z_aload_n (n := 48) C 1 dX7_firstRoadOfWay_47 rfl rfl ?_
        refine z_iload_n (n := 49) C 0 dX7_firstRoadOfWay_48 rfl rfl ?_
        refine z_vi_1 (n := 52) (d' := 2) C K dX7_firstRoadOfWay_49 rfl yk_X7_roadCost yv_X7_roadCost kM_RX7_62 (by decide) hR0 rfl rfl (sh_tw ht) (by decide) (Tw.lt0 ht) ?_
        refine c_X7_roadCost ht hw ok hk ?_
        refine z_aload_n (n := 53) C 1 dX7_firstRoadOfWay_52 rfl rfl ?_
        refine z_getR (n := 56) (q := (t + 6)) C K fF_RX7_39 dX7_firstRoadOfWay_53 rfl rfl (sh_tw ht) (Tw.lt0 ht) (rf_tw8 ht) ?_
        refine z_aload_n (n := 57) C 1 dX7_firstRoadOfWay_56 rfl rfl ?_
        refine z_iload_n (n := 58) C 0 dX7_firstRoadOfWay_57 rfl rfl ?_
        refine z_iload_n (n := 59) C 2 dX7_firstRoadOfWay_58 rfl rfl ?_
        refine z_vi_2 (n := 62) (d' := 1) C K dX7_firstRoadOfWay_59 rfl yk_X7_otherEnd yv_X7_otherEnd kM_RX7_70 (by decide) hR0 rfl rfl (sh_tw ht) (by decide) (Tw.lt0 ht) ?_
        refine c_X7_otherEnd ht hw ok hk (by omega) ?_
        refine z_aaldN (n := 63) (q := (t + 7 + (othS rd k a))) (ci := 2) C K (othS rd k a) dX7_firstRoadOfWay_62 rfl (by decide) (sh_tw6 ht) (Tw.lt ht (by decide)) rfl (by omega) (by decide) (rf_tr7 ht (by omega)) ?_
        refine z_iload_n (n := 64) C 3 dX7_firstRoadOfWay_63 rfl rfl ?_
        refine z_ialdN (n := 65) C K b dX7_firstRoadOfWay_64 rfl (sh_tr7 ht (by omega)) (Tw.ltr ht (by decide) (by omega)) rfl (by omega) (by decide) ?_
        rw [hg _ b ho hb]
        refine z_iadd (n := 66) C dX7_firstRoadOfWay_65 rfl ?_
        rw [nI_add]
        refine z_aload_n (n := 67) C 1 dX7_firstRoadOfWay_66 rfl rfl ?_
        refine z_getR (n := 70) (q := (t + 6)) C K fF_RX7_39 dX7_firstRoadOfWay_67 rfl rfl (sh_tw ht) (Tw.lt0 ht) (rf_tw8 ht) ?_
        refine z_iload_n (n := 71) C 2 dX7_firstRoadOfWay_70 rfl rfl ?_
        refine z_aaldN (n := 72) (q := (t + 7 + a)) (ci := 2) C K a dX7_firstRoadOfWay_71 rfl (by decide) (sh_tw6 ht) (Tw.lt ht (by decide)) rfl (by omega) (by decide) (rf_tr7 ht (by omega)) ?_
        refine z_iload_n (n := 73) C 3 dX7_firstRoadOfWay_72 rfl rfl ?_
        refine z_ialdN (n := 74) C K b dX7_firstRoadOfWay_73 rfl (sh_tr7 ht (by omega)) (Tw.ltr ht (by decide) (by omega)) rfl (by omega) (by decide) ?_
        rw [hg a b ha hb]
        refine z_icmp_ne (tgt := 79) (n := 77) C dX7_firstRoadOfWay_74 rfl rfl (fun c74 => ?_) (fun c74 => ?_)
        · refine z_iincG (n := 82) (c := 1) (L' := [(3, _), (0, _), (1, _), (2, _)]) C 0 dX7_firstRoadOfWay_79 rfl rfl rfl (by rw [hnL]; decide) rfl ?_
          refine z_goto (n := 19) C dX7_firstRoadOfWay_82 rfl ?_
          have hnt : ¬ tgS rd C0 a b k := fun q => c74 (by rw [q.2])
          rw [nI_1]
          exact ih (k + 1) (by omega) ⟨by omega, fun j hj => by
            by_cases e : j = k
            · rw [e]; exact hnt
            · exact hno j (by omega)⟩
        · refine z_iload_n (n := 78) C 0 dX7_firstRoadOfWay_77 rfl rfl ?_
          refine z_iret C E dX7_firstRoadOfWay_78 ?_
          exact eqQ (by rw [enx, nxS_first ⟨hin, nI_inj c74 (by omega) (by omega)⟩ hno r hk]) hQ
      · refine z_aload_n (n := 38) C 1 dX7_firstRoadOfWay_37 rfl rfl ?_
        refine z_getR (n := 41) (q := (t + 2)) C K fF_RX7_25 dX7_firstRoadOfWay_38 rfl rfl (sh_tw ht) (Tw.lt0 ht) (rf_tw4 ht) ?_
        refine z_iload_n (n := 42) C 0 dX7_firstRoadOfWay_41 rfl rfl ?_
        refine z_ialdN (n := 43) C K k dX7_firstRoadOfWay_42 rfl (sh_tw2 ht) (Tw.lt ht (by decide)) rfl (by omega) (by decide) ?_
        rw [hz.2.1]
        refine z_iload_n (n := 44) C 2 dX7_firstRoadOfWay_43 rfl rfl ?_
        refine z_icmp_ne (tgt := 79) (n := 47) C dX7_firstRoadOfWay_44 rfl rfl (fun c44 => ?_) (fun c44 => ?_)
        · refine z_iincG (n := 82) (c := 1) (L' := [(3, _), (0, _), (1, _), (2, _)]) C 0 dX7_firstRoadOfWay_79 rfl rfl rfl (by rw [hnL]; decide) rfl ?_
          refine z_goto (n := 19) C dX7_firstRoadOfWay_82 rfl ?_
          have hnt : ¬ tgS rd C0 a b k := fun q => q.1.elim (fun e => c34 (by rw [e])) (fun e => c44 (by rw [e]))
          rw [nI_1]
          exact ih (k + 1) (by omega) ⟨by omega, fun j hj => by
            by_cases e : j = k
            · rw [e]; exact hnt
            · exact hno j (by omega)⟩
        · have hin : incS rd k a := Or.inr (nI_inj c44 (by omega) (by omega))
          refine z_aload_n (n := 48) C 1 dX7_firstRoadOfWay_47 rfl rfl ?_
          refine z_iload_n (n := 49) C 0 dX7_firstRoadOfWay_48 rfl rfl ?_
          refine z_vi_1 (n := 52) (d' := 2) C K dX7_firstRoadOfWay_49 rfl yk_X7_roadCost yv_X7_roadCost kM_RX7_62 (by decide) hR0 rfl rfl (sh_tw ht) (by decide) (Tw.lt0 ht) ?_
          refine c_X7_roadCost ht hw ok hk ?_
          refine z_aload_n (n := 53) C 1 dX7_firstRoadOfWay_52 rfl rfl ?_
          refine z_getR (n := 56) (q := (t + 6)) C K fF_RX7_39 dX7_firstRoadOfWay_53 rfl rfl (sh_tw ht) (Tw.lt0 ht) (rf_tw8 ht) ?_
          refine z_aload_n (n := 57) C 1 dX7_firstRoadOfWay_56 rfl rfl ?_
          refine z_iload_n (n := 58) C 0 dX7_firstRoadOfWay_57 rfl rfl ?_
          refine z_iload_n (n := 59) C 2 dX7_firstRoadOfWay_58 rfl rfl ?_
          refine z_vi_2 (n := 62) (d' := 1) C K dX7_firstRoadOfWay_59 rfl yk_X7_otherEnd yv_X7_otherEnd kM_RX7_70 (by decide) hR0 rfl rfl (sh_tw ht) (by decide) (Tw.lt0 ht) ?_
          refine c_X7_otherEnd ht hw ok hk (by omega) ?_
          refine z_aaldN (n := 63) (q := (t + 7 + (othS rd k a))) (ci := 2) C K (othS rd k a) dX7_firstRoadOfWay_62 rfl (by decide) (sh_tw6 ht) (Tw.lt ht (by decide)) rfl (by omega) (by decide) (rf_tr7 ht (by omega)) ?_
          refine z_iload_n (n := 64) C 3 dX7_firstRoadOfWay_63 rfl rfl ?_
          refine z_ialdN (n := 65) C K b dX7_firstRoadOfWay_64 rfl (sh_tr7 ht (by omega)) (Tw.ltr ht (by decide) (by omega)) rfl (by omega) (by decide) ?_
          rw [hg _ b ho hb]
          refine z_iadd (n := 66) C dX7_firstRoadOfWay_65 rfl ?_
          rw [nI_add]
          refine z_aload_n (n := 67) C 1 dX7_firstRoadOfWay_66 rfl rfl ?_
          refine z_getR (n := 70) (q := (t + 6)) C K fF_RX7_39 dX7_firstRoadOfWay_67 rfl rfl (sh_tw ht) (Tw.lt0 ht) (rf_tw8 ht) ?_
          refine z_iload_n (n := 71) C 2 dX7_firstRoadOfWay_70 rfl rfl ?_
          refine z_aaldN (n := 72) (q := (t + 7 + a)) (ci := 2) C K a dX7_firstRoadOfWay_71 rfl (by decide) (sh_tw6 ht) (Tw.lt ht (by decide)) rfl (by omega) (by decide) (rf_tr7 ht (by omega)) ?_
          refine z_iload_n (n := 73) C 3 dX7_firstRoadOfWay_72 rfl rfl ?_
          refine z_ialdN (n := 74) C K b dX7_firstRoadOfWay_73 rfl (sh_tr7 ht (by omega)) (Tw.ltr ht (by decide) (by omega)) rfl (by omega) (by decide) ?_
          rw [hg a b ha hb]
          refine z_icmp_ne (tgt := 79) (n := 77) C dX7_firstRoadOfWay_74 rfl rfl (fun c74 => ?_) (fun c74 => ?_)
          · refine z_iincG (n := 82) (c := 1) (L' := [(3, _), (0, _), (1, _), (2, _)]) C 0 dX7_firstRoadOfWay_79 rfl rfl rfl (by rw [hnL]; decide) rfl ?_
            refine z_goto (n := 19) C dX7_firstRoadOfWay_82 rfl ?_
            have hnt : ¬ tgS rd C0 a b k := fun q => c74 (by rw [q.2])
            rw [nI_1]
            exact ih (k + 1) (by omega) ⟨by omega, fun j hj => by
              by_cases e : j = k
              · rw [e]; exact hnt
              · exact hno j (by omega)⟩
          · refine z_iload_n (n := 78) C 0 dX7_firstRoadOfWay_77 rfl rfl ?_
            refine z_iret C E dX7_firstRoadOfWay_78 ?_
            exact eqQ (by rw [enx, nxS_first ⟨hin, nI_inj c74 (by omega) (by omega)⟩ hno r hk]) hQ
set_option maxHeartbeats 4000000 in
set_option maxRecDepth 100000 in
theorem c_X7_firstRoadOfWay {ad : Nat → Nat} {I : KI} {J : KJ} {t : Nat} (ht : Tw t) {n r s : Nat} {rd : Nat → Nat → Nat}(hw : cTw t I n r s rd) (ok : okTw n r s rd) {C0 : Nat → Nat → Nat} (hg : gC t n I C0) (hc : okW n r rd C0) {a b : Nat} (ha : a < n) (hb : b < n) {Q : Int32 → KI → KJ → KR → Prop} (hQ : Q (nxI r rd C0 a b) I J (rf t)) : Mi 3 yX7_firstRoadOfWay (wm yX7_firstRoadOfWay cX7_firstRoadOfWay 4 (some .int)) [.ref (ad t), .int (nI a), .int (nI b)] ad I J (rf t) Q := by
  refine mi_of (own := RX7) yk_X7_firstRoadOfWay rfl (Nat.le_of_ble_eq_true rfl) rfl (fun X hA hnL C K E => ?_)
  subst hA
  have hn7 := ok.1
  refine z_iload_n (n := 1) C 1 dX7_firstRoadOfWay_0 rfl rfl ?_
  refine z_iload_n (n := 2) C 2 dX7_firstRoadOfWay_1 rfl rfl ?_
  refine z_icmp_eq (tgt := 14) (n := 5) C dX7_firstRoadOfWay_2 rfl rfl (fun c2 => ?_) (fun c2 => ?_)
  · refine z_bipush (n := 16) (v := (-9)) C dX7_firstRoadOfWay_14 rfl rfl ?_
    refine z_iret C E dX7_firstRoadOfWay_16 ?_
    exact eqQ (by unfold nxI; rw [if_pos (Or.inl (nI_inj c2 (by omega) (by omega)))]) hQ
  · refine z_aload_n (n := 6) C 0 dX7_firstRoadOfWay_5 rfl rfl ?_
    refine z_iload_n (n := 7) C 1 dX7_firstRoadOfWay_6 rfl rfl ?_
    refine z_iload_n (n := 8) C 2 dX7_firstRoadOfWay_7 rfl rfl ?_
    refine z_vi_2 (n := 11) (d' := 1) C K dX7_firstRoadOfWay_8 rfl yk_X7_hasWay yv_X7_hasWay kM_RX7_66 (by decide) hR0 rfl rfl (sh_tw ht) (by decide) (Tw.lt0 ht) ?_
    refine c_X7_hasWay ht hn7 hg hc.2.1 ha hb (fun b8 => ?_) (fun b8 => ?_)
    · refine z_ifT_ne (tgt := 17) C (by decide) dX7_firstRoadOfWay_11 rfl ?_
      refine z_iconst (n := 18) (v := 0) C dX7_firstRoadOfWay_17 rfl rfl ?_
      refine z_istore_n (n := 19) (L' := [(3, _), (0, _), (1, _), (2, _)]) C dX7_firstRoadOfWay_18 rfl (by rw [hnL]; decide) rfl ?_
      exact l_X7_firstRoadOfWay C K hnL E ht hw ok hg hc ha hb (fun e => c2 (by rw [e])) b8 hQ (r + 1) 0 (by omega) ⟨by omega, fun j hj => by omega⟩
    · refine z_ifF_ne (n := 14) (tgt := 17) C (by decide) dX7_firstRoadOfWay_11 rfl rfl ?_
      refine z_bipush (n := 16) (v := (-9)) C dX7_firstRoadOfWay_14 rfl rfl ?_
      refine z_iret C E dX7_firstRoadOfWay_16 ?_
      exact eqQ (by unfold nxI; rw [if_pos (Or.inr b8)]) hQ
def dgG (x y : Nat) : Int32 := if x = y then 0 else 1048576
set_option maxHeartbeats 4000000 in
set_option maxRecDepth 100000 in
theorem la_X7_setRoadCosts {X : KX} {J : KJ} {t : Nat} (C : Cx X RX7 cX7_setRoadCosts 3) (K : Kx X) (hnL : xnL X = 3) (ht : Tw t) {n r s : Nat} {rd : Nat → Nat → Nat} {I : KI} (hw : cTw t I n r s rd) (ok : okTw n r s rd) {a : Nat} (ha : a < n) (hN : ∀ I1, frW t I I1 → lexG t 7 n a n I1 dgG → Z X 0 0 (V X I1 J (rf t)) 45 [(1, .int (nI a)), (0, .ref (xad X t))] []) : ∀ (f b : Nat) (I1 : KI), n - b < f → (b ≤ n ∧ frW t I I1 ∧ lexG t 7 n a b I1 dgG) → Z X 0 0 (V X I1 J (rf t)) 12 [(2, .int (nI b)), (1, .int (nI a)), (0, .ref (xad X t))] [] := by
  intro f
  induction f with
  | zero => intro b I1 h; omega
  | succ f ih =>
    intro b I1 hf hi
    obtain ⟨hbn, hfr, hlx⟩ := hi
    have hn7 := ok.1
    have hw1 := hfr.tw hw
    refine z_iload_n (n := 13) C 0 dX7_setRoadCosts_12 rfl rfl ?_
    refine z_aload_n (n := 14) C 2 dX7_setRoadCosts_13 rfl rfl ?_
    refine z_getI (n := 17) C K fF_RX7_9 dX7_setRoadCosts_14 rfl (sh_tw ht) (Tw.lt0 ht) ?_
    rw [hw1.1]
    refine z_icmp_ge (tgt := 45) (n := 20) C dX7_setRoadCosts_17 rfl rfl (fun c17 => ?_) (fun c17 => ?_)
    · refine z_sub (L' := [(1, _), (0, _)]) [1, 2] rfl ?_
      rw [fa_le, nI_toInt (by omega), nI_toInt (by omega)] at c17
      have e : b = n := by omega
      subst e
      exact hN I1 hfr hlx
    · rw [fa_le, nI_toInt (by omega), nI_toInt (by omega)] at c17
      refine z_aload_n (n := 21) C 2 dX7_setRoadCosts_20 rfl rfl ?_
      refine z_getR (n := 24) (q := (t + 6)) C K fF_RX7_39 dX7_setRoadCosts_21 rfl rfl (sh_tw ht) (Tw.lt0 ht) (rf_tw8 ht) ?_
      refine z_iload_n (n := 25) C 1 dX7_setRoadCosts_24 rfl rfl ?_
      refine z_aaldN (n := 26) (q := (t + 7 + a)) (ci := 2) C K a dX7_setRoadCosts_25 rfl (by decide) (sh_tw6 ht) (Tw.lt ht (by decide)) rfl (by omega) (by decide) (rf_tr7 ht (by omega)) ?_
      refine z_iload_n (n := 27) C 0 dX7_setRoadCosts_26 rfl rfl ?_
      refine z_iload_n (n := 28) C 1 dX7_setRoadCosts_27 rfl rfl ?_
      refine z_iload_n (n := 29) C 0 dX7_setRoadCosts_28 rfl rfl ?_
      refine z_icmp_ne (tgt := 36) (n := 32) C dX7_setRoadCosts_29 rfl rfl (fun c29 => ?_) (fun c29 => ?_)
      · refine z_ldc (n := 38) C dX7_setRoadCosts_36 kK_RX7_61 rfl ?_
        refine z_iastN (n := 39) C K b dX7_setRoadCosts_38 rfl (sh_tr7 ht (by omega)) (Tw.ltr ht (by decide) (by omega)) rfl (by omega) (by decide) ?_
        refine z_iincG (n := 42) (c := 1) (L' := [(2, _), (1, _), (0, _)]) C 0 dX7_setRoadCosts_39 rfl rfl rfl (by rw [hnL]; decide) rfl ?_
        refine z_goto (n := 12) C dX7_setRoadCosts_42 rfl ?_
        rw [nI_1]
        exact ih (b + 1) _ (by omega) ⟨by omega, hfr.u (by omega) (by omega), hlx.step (by unfold dgG; rw [if_neg (fun e => c29 (by rw [e]))])⟩
      · refine z_iconst (n := 33) (v := 0) C dX7_setRoadCosts_32 rfl rfl ?_
        refine z_goto (n := 38) C dX7_setRoadCosts_33 rfl ?_
        refine z_iastN (n := 39) C K b dX7_setRoadCosts_38 rfl (sh_tr7 ht (by omega)) (Tw.ltr ht (by decide) (by omega)) rfl (by omega) (by decide) ?_
        refine z_iincG (n := 42) (c := 1) (L' := [(2, _), (1, _), (0, _)]) C 0 dX7_setRoadCosts_39 rfl rfl rfl (by rw [hnL]; decide) rfl ?_
        refine z_goto (n := 12) C dX7_setRoadCosts_42 rfl ?_
        rw [nI_1]
        exact ih (b + 1) _ (by omega) ⟨by omega, hfr.u (by omega) (by omega), hlx.step (by unfold dgG; rw [if_pos (nI_inj c29 (by omega) (by omega))])⟩
set_option maxHeartbeats 4000000 in
set_option maxRecDepth 100000 in
theorem lb_X7_setRoadCosts {X : KX} {J : KJ} {t : Nat} (C : Cx X RX7 cX7_setRoadCosts 3) (K : Kx X) (hnL : xnL X = 3) (ht : Tw t) {n r s : Nat} {rd : Nat → Nat → Nat} {I : KI} (hw : cTw t I n r s rd) (ok : okTw n r s rd) (hN : ∀ I1, frW t I I1 → lexG t 7 n n 0 I1 dgG → Z X 0 0 (V X I1 J (rf t)) 51 [(0, .ref (xad X t))] []) : ∀ (f a : Nat) (I1 : KI), n - a < f → (a ≤ n ∧ frW t I I1 ∧ lexG t 7 n a 0 I1 dgG) → Z X 0 0 (V X I1 J (rf t)) 2 [(1, .int (nI a)), (0, .ref (xad X t))] [] := by
  intro f
  induction f with
  | zero => intro a I1 h; omega
  | succ f ih =>
    intro a I1 hf hi
    obtain ⟨han, hfr, hlx⟩ := hi
    have hn7 := ok.1
    have hw1 := hfr.tw hw
    refine z_iload_n (n := 3) C 0 dX7_setRoadCosts_2 rfl rfl ?_
    refine z_aload_n (n := 4) C 1 dX7_setRoadCosts_3 rfl rfl ?_
    refine z_getI (n := 7) C K fF_RX7_9 dX7_setRoadCosts_4 rfl (sh_tw ht) (Tw.lt0 ht) ?_
    rw [hw1.1]
    refine z_icmp_ge (tgt := 51) (n := 10) C dX7_setRoadCosts_7 rfl rfl (fun c7 => ?_) (fun c7 => ?_)
    · refine z_sub (L' := [(0, _)]) [1] rfl ?_
      rw [fa_le, nI_toInt (by omega), nI_toInt (by omega)] at c7
      have e : a = n := by omega
      subst e
      exact hN I1 hfr hlx
    · refine z_iconst (n := 11) (v := 0) C dX7_setRoadCosts_10 rfl rfl ?_
      refine z_istore_n (n := 12) (L' := [(2, _), (1, _), (0, _)]) C dX7_setRoadCosts_11 rfl (by rw [hnL]; decide) rfl ?_
      rw [fa_le, nI_toInt (by omega), nI_toInt (by omega)] at c7
      refine la_X7_setRoadCosts C K hnL ht hw1 ok (show a < n by omega) (fun I2 hf2 hl2 => ?_) (n + 1) 0 I1 (by omega) ⟨by omega, frW.rf _ _, hlx⟩
      refine z_iincG (n := 48) (c := 1) (L' := [(1, _), (0, _)]) C 0 dX7_setRoadCosts_45 rfl rfl rfl (by rw [hnL]; decide) rfl ?_
      refine z_goto (n := 2) C dX7_setRoadCosts_48 rfl ?_
      rw [nI_1]
      exact ih (a + 1) I2 (by omega) ⟨by omega, fun q hq => by rw [hf2 q hq, hfr q hq], hl2.row⟩
set_option maxHeartbeats 4000000 in
set_option maxRecDepth 100000 in
theorem lc_X7_setRoadCosts {X : KX} {J : KJ} {t : Nat} (C : Cx X RX7 cX7_setRoadCosts 3) (K : Kx X) (hnL : xnL X = 3) {Q : KI → KJ → KR → Prop} (E : Ev X Q) (ht : Tw t) {n r s : Nat} {rd : Nat → Nat → Nat} {I : KI} (hw : cTw t I n r s rd) (ok : okTw n r s rd) (hQ : ∀ I1 C0, frW t I I1 → gC t n I1 C0 → okE n r rd r C0 → Q I1 J (rf t)) : ∀ (f k : Nat) (I1 : KI) (C0 : Nat → Nat → Nat), r - k < f → (k ≤ r ∧ frW t I I1 ∧ gC t n I1 C0 ∧ okE n r rd k C0) → Z X 0 0 (V X I1 J (rf t)) 53 [(1, .int (nI k)), (0, .ref (xad X t))] [] := by
  intro f
  induction f with
  | zero => intro k I1 C0 h; omega
  | succ f ih =>
    intro k I1 C0 hf hi
    obtain ⟨hkr, hfr, hg, hE⟩ := hi
    have hn7 := ok.1
    have hr12 := ok.2.1
    have hw1 := hfr.tw hw
    refine z_iload_n (n := 54) C 0 dX7_setRoadCosts_53 rfl rfl ?_
    refine z_aload_n (n := 55) C 1 dX7_setRoadCosts_54 rfl rfl ?_
    refine z_getI (n := 58) C K fF_RX7_15 dX7_setRoadCosts_55 rfl (sh_tw ht) (Tw.lt0 ht) ?_
    rw [hw1.2.1]
    refine z_icmp_ge (tgt := 132) (n := 61) C dX7_setRoadCosts_58 rfl rfl (fun c58 => ?_) (fun c58 => ?_)
    · refine z_vret C E dX7_setRoadCosts_132 ?_
      rw [fa_le, nI_toInt (by omega), nI_toInt (by omega)] at c58
      have e : k = r := by omega
      subst e
      exact hQ I1 C0 hfr hg hE
    · rw [fa_le, nI_toInt (by omega), nI_toInt (by omega)] at c58
      have hk : k < r := by omega
      have hz := hw1.2.2.2 k hk
      have hb9 := ok.2.2.2 k hk
      have hle := hE.2.1 _ _ hb9.1 hb9.2.1
      have hw16 := w16_pos (n := n) ok.2.2.2 hk
      refine z_aload_n (n := 62) C 1 dX7_setRoadCosts_61 rfl rfl ?_
      refine z_getR (n := 65) (q := (t + 6)) C K fF_RX7_39 dX7_setRoadCosts_62 rfl rfl (sh_tw ht) (Tw.lt0 ht) (rf_tw8 ht) ?_
      refine z_aload_n (n := 66) C 1 dX7_setRoadCosts_65 rfl rfl ?_
      refine z_getR (n := 69) (q := (t + 1)) C K fF_RX7_21 dX7_setRoadCosts_66 rfl rfl (sh_tw ht) (Tw.lt0 ht) (rf_tw3 ht) ?_
      refine z_iload_n (n := 70) C 0 dX7_setRoadCosts_69 rfl rfl ?_
      refine z_ialdN (n := 71) C K k dX7_setRoadCosts_70 rfl (sh_tw1 ht) (Tw.lt ht (by decide)) rfl (by omega) (by decide) ?_
      rw [hz.1]
      refine z_aaldN (n := 72) (q := (t + 7 + (rd 0 k))) (ci := 2) C K (rd 0 k) dX7_setRoadCosts_71 rfl (by decide) (sh_tw6 ht) (Tw.lt ht (by decide)) rfl (by omega) (by decide) (rf_tr7 ht (by omega)) ?_
      refine z_aload_n (n := 73) C 1 dX7_setRoadCosts_72 rfl rfl ?_
      refine z_getR (n := 76) (q := (t + 2)) C K fF_RX7_25 dX7_setRoadCosts_73 rfl rfl (sh_tw ht) (Tw.lt0 ht) (rf_tw4 ht) ?_
      refine z_iload_n (n := 77) C 0 dX7_setRoadCosts_76 rfl rfl ?_
      refine z_ialdN (n := 78) C K k dX7_setRoadCosts_77 rfl (sh_tw2 ht) (Tw.lt ht (by decide)) rfl (by omega) (by decide) ?_
      rw [hz.2.1]
      refine z_ialdN (n := 79) C K (rd 1 k) dX7_setRoadCosts_78 rfl (sh_tr7 ht (by omega)) (Tw.ltr ht (by decide) (by omega)) rfl (by omega) (by decide) ?_
      rw [hg _ _ hb9.1 hb9.2.1]
      refine z_aload_n (n := 80) C 1 dX7_setRoadCosts_79 rfl rfl ?_
      refine z_iload_n (n := 81) C 0 dX7_setRoadCosts_80 rfl rfl ?_
      refine z_vi_1 (n := 84) (d' := 2) C K dX7_setRoadCosts_81 rfl yk_X7_roadCost yv_X7_roadCost kM_RX7_62 (by decide) hR0 rfl rfl (sh_tw ht) (by decide) (Tw.lt0 ht) ?_
      refine c_X7_roadCost ht hw1 ok hk ?_
      refine z_min (n := 87) C dX7_setRoadCosts_84 rfl kM_RX7_52 (by decide) hR0 rfl ?_
      rw [min_nI (by omega) (by omega)]
      have hz2 := hz
      refine z_istore_n (n := 88) (L' := [(2, _), (1, _), (0, _)]) C dX7_setRoadCosts_87 rfl (by rw [hnL]; decide) rfl ?_
      refine z_aload_n (n := 89) C 2 dX7_setRoadCosts_88 rfl rfl ?_
      refine z_getR (n := 92) (q := (t + 6)) C K fF_RX7_39 dX7_setRoadCosts_89 rfl rfl (sh_tw ht) (Tw.lt0 ht) (rf_tw8 ht) ?_
      refine z_aload_n (n := 93) C 2 dX7_setRoadCosts_92 rfl rfl ?_
      refine z_getR (n := 96) (q := (t + 1)) C K fF_RX7_21 dX7_setRoadCosts_93 rfl rfl (sh_tw ht) (Tw.lt0 ht) (rf_tw3 ht) ?_
      refine z_iload_n (n := 97) C 1 dX7_setRoadCosts_96 rfl rfl ?_
      refine z_ialdN (n := 98) C K k dX7_setRoadCosts_97 rfl (sh_tw1 ht) (Tw.lt ht (by decide)) rfl (by omega) (by decide) ?_
      rw [hz.1]
      refine z_aaldN (n := 99) (q := (t + 7 + (rd 0 k))) (ci := 2) C K (rd 0 k) dX7_setRoadCosts_98 rfl (by decide) (sh_tw6 ht) (Tw.lt ht (by decide)) rfl (by omega) (by decide) (rf_tr7 ht (by omega)) ?_
      refine z_aload_n (n := 100) C 2 dX7_setRoadCosts_99 rfl rfl ?_
      refine z_getR (n := 103) (q := (t + 2)) C K fF_RX7_25 dX7_setRoadCosts_100 rfl rfl (sh_tw ht) (Tw.lt0 ht) (rf_tw4 ht) ?_
      refine z_iload_n (n := 104) C 1 dX7_setRoadCosts_103 rfl rfl ?_
      refine z_ialdN (n := 105) C K k dX7_setRoadCosts_104 rfl (sh_tw2 ht) (Tw.lt ht (by decide)) rfl (by omega) (by decide) ?_
      rw [hz.2.1]
      refine z_iload_n (n := 106) C 0 dX7_setRoadCosts_105 rfl rfl ?_
      refine z_iastN (n := 107) C K (rd 1 k) dX7_setRoadCosts_106 rfl (sh_tr7 ht (by omega)) (Tw.ltr ht (by decide) (by omega)) rfl (by omega) (by decide) ?_
      refine z_aload_n (n := 108) C 2 dX7_setRoadCosts_107 rfl rfl ?_
      refine z_getR (n := 111) (q := (t + 6)) C K fF_RX7_39 dX7_setRoadCosts_108 rfl rfl (sh_tw ht) (Tw.lt0 ht) (rf_tw8 ht) ?_
      refine z_aload_n (n := 112) C 2 dX7_setRoadCosts_111 rfl rfl ?_
      refine z_getR (n := 115) (q := (t + 2)) C K fF_RX7_25 dX7_setRoadCosts_112 rfl rfl (sh_tw ht) (Tw.lt0 ht) (rf_tw4 ht) ?_
      refine z_iload_n (n := 116) C 1 dX7_setRoadCosts_115 rfl rfl ?_
      refine z_ialdN (n := 117) C K k dX7_setRoadCosts_116 rfl (sh_tw2 ht) (Tw.lt ht (by decide)) rfl (by omega) (by decide) ?_
      rw [upI_row _ _ (show t + 2 ≠ t + 7 + rd 0 k by omega), hz.2.1]
      refine z_aaldN (n := 118) (q := (t + 7 + (rd 1 k))) (ci := 2) C K (rd 1 k) dX7_setRoadCosts_117 rfl (by decide) (sh_tw6 ht) (Tw.lt ht (by decide)) rfl (by omega) (by decide) (rf_tr7 ht (by omega)) ?_
      refine z_aload_n (n := 119) C 2 dX7_setRoadCosts_118 rfl rfl ?_
      refine z_getR (n := 122) (q := (t + 1)) C K fF_RX7_21 dX7_setRoadCosts_119 rfl rfl (sh_tw ht) (Tw.lt0 ht) (rf_tw3 ht) ?_
      refine z_iload_n (n := 123) C 1 dX7_setRoadCosts_122 rfl rfl ?_
      refine z_ialdN (n := 124) C K k dX7_setRoadCosts_123 rfl (sh_tw1 ht) (Tw.lt ht (by decide)) rfl (by omega) (by decide) ?_
      rw [upI_row _ _ (show t + 1 ≠ t + 7 + rd 0 k by omega), hz.1]
      refine z_iload_n (n := 125) C 0 dX7_setRoadCosts_124 rfl rfl ?_
      refine z_iastN (n := 126) C K (rd 0 k) dX7_setRoadCosts_125 rfl (sh_tr7 ht (by omega)) (Tw.ltr ht (by decide) (by omega)) rfl (by omega) (by decide) ?_
      refine z_iincG (n := 129) (c := 1) (L' := [(1, _), (2, _), (0, _)]) C 1 dX7_setRoadCosts_126 rfl rfl rfl (by rw [hnL]; decide) rfl ?_
      refine z_goto (n := 53) C dX7_setRoadCosts_129 rfl ?_
      refine z_sub (L' := [(1, _), (0, _)]) [0, 2] rfl ?_
      rw [nI_1]
      exact ih (k + 1) _ _ (by omega) ⟨by omega, (hfr.u (by omega) (by omega)).u (by omega) (by omega), hg.both hb9.2.2.1, hE.step ok.2.2.2 hk⟩
set_option maxHeartbeats 4000000 in
set_option maxRecDepth 100000 in
theorem c_X7_setRoadCosts {ad : Nat → Nat} {I : KI} {J : KJ} {t : Nat} (ht : Tw t) {n r s : Nat} {rd : Nat → Nat → Nat}(hw : cTw t I n r s rd) (ok : okTw n r s rd)  {Q : KI → KJ → KR → Prop} (hQ : ∀ I1 C0, frW t I I1 → gC t n I1 C0 → okE n r rd r C0 → Q I1 J (rf t)) : Mv 3 yX7_setRoadCosts (wm yX7_setRoadCosts cX7_setRoadCosts 3 none) [.ref (ad t)] ad I J (rf t) Q := by
  refine mv_of (own := RX7) yk_X7_setRoadCosts rfl (Nat.le_of_ble_eq_true rfl) rfl (fun X hA hnL C K E => ?_)
  subst hA
  refine z_iconst (n := 1) (v := 0) C dX7_setRoadCosts_0 rfl rfl ?_
  refine z_istore_n (n := 2) (L' := [(1, _), (0, _)]) C dX7_setRoadCosts_1 rfl (by rw [hnL]; decide) rfl ?_
  refine lb_X7_setRoadCosts C K hnL ht hw ok (fun I1 hf1 hl1 => ?_) (n + 1) 0 I (by omega) ⟨by omega, frW.rf _ _, lexG.zero⟩
  refine z_iconst (n := 52) (v := 0) C dX7_setRoadCosts_51 rfl rfl ?_
  refine z_istore_n (n := 53) (L' := [(1, _), (0, _)]) C dX7_setRoadCosts_52 rfl (by rw [hnL]; decide) rfl ?_
  exact lc_X7_setRoadCosts C K hnL E ht (hf1.tw hw) ok (fun I2 C0 hf2 hg hE => hQ I2 C0 (fun q hq => by rw [hf2 q hq, hf1 q hq]) hg hE) (r + 1) 0 I1 _ (by omega) ⟨by omega, frW.rf _ _, fun x y hx hy => by rw [hl1.all x y hx hy]; show dgG x y = nI (if x = y then 0 else 1048576); unfold dgG; split <;> rfl, okE.zero n r rd⟩
