set_option maxHeartbeats 4000000 in
set_option maxRecDepth 100000 in
theorem ln_X7_roadOfWay {X : KX} {J : KJ} {t : Nat} (C : Cx X RX7 cX7_roadOfWay 2) (K : Kx X) (hnL : xnL X = 6) {Q : Int32 → KI → KJ → KR → Prop} (E : Ei X .int Q) {I : KI} (ht : Tw t) {n r s : Nat} {rd : Nat → Nat → Nat} (hw : cTw t I n r s rd) (ok : okTw n r s rd) {C0 : Nat → Nat → Nat} (hc : okW n r rd C0) (hW : cWy t I n r rd C0) {a b : Nat} (ha : a < n) (hb : b < n) (hno : 1048576 ≤ C0 a b) {k : Nat} (hQ : Q (-9) I J (rf t)) : Z X 0 0 (V X I J (rf t)) 6 [(5, .int 0), (4, .int (nI a)), (0, .ref (xad X t)), (1, .int (nI a)), (2, .int (nI b)), (3, .int (nI k))] [] := by
  have hn7 := ok.1
  have enx : nxI r rd C0 a b = -9 := by unfold nxI; rw [if_pos (Or.inr hno)]
  refine z_iload (n := 8) C 0 dX7_roadOfWay_6 rfl rfl ?_
  refine z_bipush (n := 10) (v := 7) C dX7_roadOfWay_8 rfl rfl ?_
  refine z_icmpF_ge (n := 13) (tgt := 66) C (by decide) dX7_roadOfWay_10 rfl rfl ?_
  refine z_aload_n (n := 14) C 2 dX7_roadOfWay_13 rfl rfl ?_
  refine z_getR (n := 17) (q := (t + 14)) C K fF_RX7_42 dX7_roadOfWay_14 rfl rfl (sh_tw ht) (Tw.lt0 ht) (rf_tw9 ht) ?_
  refine z_iload (n := 19) C 1 dX7_roadOfWay_17 rfl rfl ?_
  refine z_aaldN (n := 20) (q := (t + 15 + a)) (ci := 2) C K a dX7_roadOfWay_19 rfl (by decide) (sh_tw14 ht) (Tw.lt ht (by decide)) rfl (by omega) (by decide) (rf_tr15 ht (by omega)) ?_
  refine z_iload_n (n := 21) C 4 dX7_roadOfWay_20 rfl rfl ?_
  refine z_ialdN (n := 22) C K b dX7_roadOfWay_21 rfl (sh_tr15 ht (by omega)) (Tw.ltr ht (by decide) (by omega)) rfl (by omega) (by decide) ?_
  rw [hW.2 a b ha hb, enx]
  refine z_bipush (n := 24) (v := (-9)) C dX7_roadOfWay_22 rfl rfl ?_
  refine z_icmpT_eq (tgt := 66) C rfl dX7_roadOfWay_24 rfl ?_
  refine z_bipush (n := 68) (v := (-9)) C dX7_roadOfWay_66 rfl rfl ?_
  refine z_iret C E dX7_roadOfWay_68 ?_
  exact hQ
set_option maxHeartbeats 4000000 in
set_option maxRecDepth 100000 in
theorem ca_X7_roadOfWay {ad : Nat → Nat} {I : KI} {J : KJ} {t : Nat} (ht : Tw t) {n r s : Nat} {rd : Nat → Nat → Nat} (hw : cTw t I n r s rd) (ok : okTw n r s rd) {C0 : Nat → Nat → Nat} (hc : okW n r rd C0) (hW : cWy t I n r rd C0) {a b : Nat} (ha : a < n) (hb : b < n) {k : Nat} (hk : k < 2 ^ 31) {Q : Int32 → KI → KJ → KR → Prop} (hQ : Q (alS r rd C0 a b (nI k)) I J (rf t)) : Mi 2 yX7_roadOfWay (wm yX7_roadOfWay cX7_roadOfWay 6 (some .int)) [.ref (ad t), .int (nI a), .int (nI b), .int (nI k)] ad I J (rf t) Q := by
  refine mi_of (own := RX7) yk_X7_roadOfWay rfl (Nat.le_of_ble_eq_true rfl) rfl (fun X hA hnL C K E => ?_)
  subst hA
  refine z_iload_n (n := 1) C 1 dX7_roadOfWay_0 rfl rfl ?_
  refine z_istore (n := 3) (L' := [(4, _), (0, _), (1, _), (2, _), (3, _)]) C dX7_roadOfWay_1 rfl (by rw [hnL]; decide) rfl ?_
  refine z_iconst (n := 4) (v := 0) C dX7_roadOfWay_3 rfl rfl ?_
  refine z_istore (n := 6) (L' := [(5, _), (4, _), (0, _), (1, _), (2, _), (3, _)]) C dX7_roadOfWay_4 rfl (by rw [hnL]; decide) rfl ?_
  have h1 := rnk_lt (C := C0) (b := b) ha
  have h2 := ok.1
  by_cases hlt : C0 a b < 1048576
  · unfold alS at hQ
    rw [if_neg (by omega), nI_clamp hk] at hQ
    exact l_X7_roadOfWay C K hnL E ht hw ok hc hW hb hk hQ 8 0 a (by omega) ⟨ha, hlt, by omega, by omega, by rw [Nat.sub_zero]⟩
  · unfold alS at hQ
    rw [if_pos (by omega)] at hQ
    exact ln_X7_roadOfWay C K hnL E ht hw ok hc hW ha hb (by omega) hQ
set_option maxHeartbeats 4000000 in
set_option maxRecDepth 100000 in
theorem c_X9_way {ad : Nat → Nat} {I : KI} {J : KJ} {t : Nat} (ht : Tw t) {n r s : Nat} {rd : Nat → Nat → Nat} (hw : cTw t I n r s rd) (ok : okTw n r s rd) {C0 : Nat → Nat → Nat} (hc : okW n r rd C0) (hW : cWy t I n r rd C0) {av bv w : Int32} {Q : Int32 → KI → KJ → KR → Prop} (hR : ∀ a, wayR n av bv w = some a → Q a I J (rf t)) (hS : wayR n av bv w = none → ∀ a b i : Nat, av = nI a → a < n → bv = nI b → b < n → w = nI i → i < 3 → Q (wayS r rd C0 a b i) I J (rf t)) : Mi 3 yX9_way (wm yX9_way cX9_way 4 (some .int)) [.ref (ad 0), .int (av), .int (bv), .int (w)] ad I J (rf t) Q := by
  refine mi_of (own := RX9) yk_X9_way rfl (Nat.le_of_ble_eq_true rfl) rfl (fun X hA hnL C K E => ?_)
  subst hA
  refine z_aload_n (n := 1) C 0 dX9_way_0 rfl rfl ?_
  refine z_iload_n (n := 2) C 1 dX9_way_1 rfl rfl ?_
  refine z_vi_1 (n := 5) (d' := 1) C K dX9_way_2 rfl yk_X9_isCorner yv_X9_isCorner kM_RX9_128 (by decide) hR0 rfl rfl sh_0 (by decide) (by decide) ?_
  refine c_X9_isCorner ht hw.1 ok.1 (fun b2 => ?_) (fun b2 => ?_)
  · refine z_ifF_eq (n := 8) (tgt := 16) C (by decide) dX9_way_5 rfl rfl ?_
    refine z_aload_n (n := 9) C 0 dX9_way_8 rfl rfl ?_
    refine z_iload_n (n := 10) C 2 dX9_way_9 rfl rfl ?_
    refine z_vi_1 (n := 13) (d' := 1) C K dX9_way_10 rfl yk_X9_isCorner yv_X9_isCorner kM_RX9_128 (by decide) hR0 rfl rfl sh_0 (by decide) (by decide) ?_
    refine c_X9_isCorner ht hw.1 ok.1 (fun b10 => ?_) (fun b10 => ?_)
    · refine z_ifT_ne (tgt := 18) C (by decide) dX9_way_13 rfl ?_
      obtain ⟨a, ha, rfl⟩ := isN_of b2
      obtain ⟨b, hb, rfl⟩ := isN_of b10
      have hn7 := ok.1
      refine z_iload_n (n := 19) C 3 dX9_way_18 rfl rfl ?_
      refine z_iconst (n := 20) (v := 0) C dX9_way_19 rfl rfl ?_
      refine z_iconst (n := 21) (v := 2) C dX9_way_20 rfl rfl ?_
      refine z_si_3 (n := 24) (d' := 1) C K dX9_way_21 rfl yk_X9_isWithin kT_yX9_isWithin kM_RX9_131 (by decide) hR0 rfl ?_
      refine c_inB (lo := 0) (hi := 2) (by decide) (by decide) (fun b21 => ?_) (fun b21 => ?_)
      · refine z_ifT_ne (tgt := 30) C (by decide) dX9_way_24 rfl ?_
        have hnone : wayR n (nI a) (nI b) w = none := by unfold wayR; rw [if_neg (fun q => q ⟨b2, b10⟩), if_neg (fun q => q b21)]
        obtain ⟨i, hi, rfl⟩ := isB_of (h := 2) b21
        refine z_aload_n (n := 31) C 0 dX9_way_30 rfl rfl ?_
        refine z_getR (n := 34) (q := t) C K fF_RX9_27 dX9_way_31 rfl rfl sh_0 (by decide) rfl ?_
        refine z_iload_n (n := 35) C 1 dX9_way_34 rfl rfl ?_
        refine z_iload_n (n := 36) C 2 dX9_way_35 rfl rfl ?_
        refine z_vi_2 (n := 39) (d' := 1) C K dX9_way_36 rfl yk_X7_hasWay yv_X7_hasWay kM_RX9_135 (by decide) hR0 rfl rfl (sh_tw ht) (by decide) (Tw.lt0 ht) ?_
        refine c_X7_hasWay ht hn7 hW.1 hc.2.1 ha hb (fun b36 => ?_) (fun b36 => ?_)
        · refine z_ifT_ne (tgt := 45) C (by decide) dX9_way_39 rfl ?_
          refine z_iload_n (n := 46) C 3 dX9_way_45 rfl rfl ?_
          refine z_if_ne (tgt := 59) (n := 49) C dX9_way_46 rfl rfl (fun c46 => ?_) (fun c46 => ?_)
          · refine z_iload_n (n := 60) C 3 dX9_way_59 rfl rfl ?_
            refine z_iconst (n := 61) (v := 1) C dX9_way_60 rfl rfl ?_
            refine z_icmp_ne (tgt := 76) (n := 64) C dX9_way_61 rfl rfl (fun c61 => ?_) (fun c61 => ?_)
            · refine z_aload_n (n := 77) C 0 dX9_way_76 rfl rfl ?_
              refine z_getR (n := 80) (q := t) C K fF_RX9_27 dX9_way_77 rfl rfl sh_0 (by decide) rfl ?_
              refine z_iload_n (n := 81) C 1 dX9_way_80 rfl rfl ?_
              refine z_iload_n (n := 82) C 2 dX9_way_81 rfl rfl ?_
              refine z_vi_2 (n := 85) (d' := 2) C K dX9_way_82 rfl yk_X7_roadsOfWay yv_X7_roadsOfWay kM_RX9_146 (by decide) hR0 rfl rfl (sh_tw ht) (by decide) (Tw.lt0 ht) ?_
              refine c_X7_roadsOfWay ht hw ok hc hW ha hb b36 ?_
              refine z_iret C E dX9_way_85 ?_
              refine eqQ ?_ (hS hnone a b i rfl ha rfl hb rfl (by omega))
              unfold wayS
              have e0 : ¬ i = 0 := fun e => c46 (by rw [e]; rfl)
              have e1 : ¬ i = 1 := fun e => c61 (by rw [e]; rfl)
              rw [if_neg (by omega), if_neg e0, if_neg e1]
            · refine z_aload_n (n := 65) C 0 dX9_way_64 rfl rfl ?_
              refine z_getR (n := 68) (q := t) C K fF_RX9_27 dX9_way_65 rfl rfl sh_0 (by decide) rfl ?_
              refine z_iload_n (n := 69) C 1 dX9_way_68 rfl rfl ?_
              refine z_iload_n (n := 70) C 2 dX9_way_69 rfl rfl ?_
              refine z_vi_2 (n := 73) (d' := 1) C K dX9_way_70 rfl yk_X7_crossingsOfWay yv_X7_crossingsOfWay kM_RX9_143 (by decide) hR0 rfl rfl (sh_tw ht) (by decide) (Tw.lt0 ht) ?_
              refine c_X7_crossingsOfWay ht hn7 hW.1 hc.2.1 ha hb ?_
              refine z_goto (n := 85) C dX9_way_73 rfl ?_
              refine z_iret C E dX9_way_85 ?_
              refine eqQ ?_ (hS hnone a b i rfl ha rfl hb rfl (by omega))
              unfold wayS
              have e : i = 1 := nI_inj (b := 1) c61 (by omega) (by decide)
              rw [if_neg (by omega), if_neg (by omega), if_pos e]
          · refine z_aload_n (n := 50) C 0 dX9_way_49 rfl rfl ?_
            refine z_getR (n := 53) (q := t) C K fF_RX9_27 dX9_way_50 rfl rfl sh_0 (by decide) rfl ?_
            refine z_iload_n (n := 54) C 1 dX9_way_53 rfl rfl ?_
            refine z_iload_n (n := 55) C 2 dX9_way_54 rfl rfl ?_
            refine z_vi_2 (n := 58) (d' := 1) C K dX9_way_55 rfl yk_X7_lengthOfWay yv_X7_lengthOfWay kM_RX9_139 (by decide) hR0 rfl rfl (sh_tw ht) (by decide) (Tw.lt0 ht) ?_
            refine c_X7_lengthOfWay ht hn7 hW.1 hc.2.1 ha hb ?_
            refine z_iret C E dX9_way_58 ?_
            refine eqQ ?_ (hS hnone a b i rfl ha rfl hb rfl (by omega))
            unfold wayS
            have e : i = 0 := nI_inj (b := 0) c46 (by omega) (by decide)
            rw [if_neg (by omega), if_pos e]
        · refine z_ifF_ne (n := 42) (tgt := 45) C (by decide) dX9_way_39 rfl rfl ?_
          refine z_bipush (n := 44) (v := (-9)) C dX9_way_42 rfl rfl ?_
          refine z_iret C E dX9_way_44 ?_
          refine eqQ ?_ (hS hnone a b i rfl ha rfl hb rfl (by omega))
          unfold wayS
          rw [if_pos b36]
      · refine z_ifF_ne (n := 27) (tgt := 30) C (by decide) dX9_way_24 rfl rfl ?_
        refine z_bipush (n := 29) (v := (-2)) C dX9_way_27 rfl rfl ?_
        refine z_iret C E dX9_way_29 ?_
        exact hR _ (by unfold wayR; rw [if_neg (fun q => q ⟨b2, b10⟩), if_pos b21])
    · refine z_ifF_ne (n := 16) (tgt := 18) C (by decide) dX9_way_13 rfl rfl ?_
      refine z_iconst (n := 17) (v := (-1)) C dX9_way_16 rfl rfl ?_
      refine z_iret C E dX9_way_17 ?_
      exact hR _ (by unfold wayR; rw [if_pos (fun q => b10 q.2)])
  · refine z_ifT_eq (tgt := 16) C (by decide) dX9_way_5 rfl ?_
    refine z_iconst (n := 17) (v := (-1)) C dX9_way_16 rfl rfl ?_
    refine z_iret C E dX9_way_17 ?_
    exact hR _ (by unfold wayR; rw [if_pos (fun q => b2 q.1)])
set_option maxHeartbeats 4000000 in
set_option maxRecDepth 100000 in
theorem c_X9_along {ad : Nat → Nat} {I : KI} {J : KJ} {t : Nat} (ht : Tw t) {n r s : Nat} {rd : Nat → Nat → Nat} (hw : cTw t I n r s rd) (ok : okTw n r s rd) {C0 : Nat → Nat → Nat} (hc : okW n r rd C0) (hW : cWy t I n r rd C0) {av bv kv : Int32} {Q : Int32 → KI → KJ → KR → Prop} (hR : ∀ a, alR n av bv kv = some a → Q a I J (rf t)) (hS : alR n av bv kv = none → ∀ a b : Nat, av = nI a → a < n → bv = nI b → b < n → Q (alS r rd C0 a b kv) I J (rf t)) : Mi 3 yX9_along (wm yX9_along cX9_along 4 (some .int)) [.ref (ad 0), .int (av), .int (bv), .int (kv)] ad I J (rf t) Q := by
  refine mi_of (own := RX9) yk_X9_along rfl (Nat.le_of_ble_eq_true rfl) rfl (fun X hA hnL C K E => ?_)
  subst hA
  refine z_aload_n (n := 1) C 0 dX9_along_0 rfl rfl ?_
  refine z_iload_n (n := 2) C 1 dX9_along_1 rfl rfl ?_
  refine z_vi_1 (n := 5) (d' := 1) C K dX9_along_2 rfl yk_X9_isCorner yv_X9_isCorner kM_RX9_128 (by decide) hR0 rfl rfl sh_0 (by decide) (by decide) ?_
  refine c_X9_isCorner ht hw.1 ok.1 (fun b2 => ?_) (fun b2 => ?_)
  · refine z_ifF_eq (n := 8) (tgt := 16) C (by decide) dX9_along_5 rfl rfl ?_
    refine z_aload_n (n := 9) C 0 dX9_along_8 rfl rfl ?_
    refine z_iload_n (n := 10) C 2 dX9_along_9 rfl rfl ?_
    refine z_vi_1 (n := 13) (d' := 1) C K dX9_along_10 rfl yk_X9_isCorner yv_X9_isCorner kM_RX9_128 (by decide) hR0 rfl rfl sh_0 (by decide) (by decide) ?_
    refine c_X9_isCorner ht hw.1 ok.1 (fun b10 => ?_) (fun b10 => ?_)
    · refine z_ifT_ne (tgt := 18) C (by decide) dX9_along_13 rfl ?_
      obtain ⟨a, ha, rfl⟩ := isN_of b2
      obtain ⟨b, hb, rfl⟩ := isN_of b10
      have hn7 := ok.1
      refine z_iload_n (n := 19) C 3 dX9_along_18 rfl rfl ?_
      refine z_if_ge (tgt := 25) (n := 22) C dX9_along_19 rfl rfl (fun c19 => ?_) (fun c19 => ?_)
      · rw [fa_le] at c19
        simp only [Int32.reduceToInt] at c19
        have hnone : alR n (nI a) (nI b) kv = none := by unfold alR; rw [if_neg (fun q => q ⟨b2, b10⟩), if_neg (by omega)]
        obtain ⟨k, hk, rfl⟩ := i_nat (x := kv) (by omega)
        refine z_aload_n (n := 26) C 0 dX9_along_25 rfl rfl ?_
        refine z_getR (n := 29) (q := t) C K fF_RX9_27 dX9_along_26 rfl rfl sh_0 (by decide) rfl ?_
        refine z_iload_n (n := 30) C 1 dX9_along_29 rfl rfl ?_
        refine z_iload_n (n := 31) C 2 dX9_along_30 rfl rfl ?_
        refine z_iload_n (n := 32) C 3 dX9_along_31 rfl rfl ?_
        refine z_vi_3 (n := 35) (d' := 2) C K dX9_along_32 rfl yk_X7_roadOfWay yv_X7_roadOfWay kM_RX9_149 (by decide) hR0 rfl rfl (sh_tw ht) (by decide) (Tw.lt0 ht) ?_
        refine ca_X7_roadOfWay ht hw ok hc hW ha hb hk ?_
        refine z_iret C E dX9_along_35 ?_
        exact hS hnone a b rfl ha rfl hb
      · refine z_bipush (n := 24) (v := (-2)) C dX9_along_22 rfl rfl ?_
        refine z_iret C E dX9_along_24 ?_
        rw [fa_le] at c19
        simp only [Int32.reduceToInt] at c19
        exact hR _ (by unfold alR; rw [if_neg (fun q => q ⟨b2, b10⟩), if_pos (by omega)])
    · refine z_ifF_ne (n := 16) (tgt := 18) C (by decide) dX9_along_13 rfl rfl ?_
      refine z_iconst (n := 17) (v := (-1)) C dX9_along_16 rfl rfl ?_
      refine z_iret C E dX9_along_17 ?_
      exact hR _ (by unfold alR; rw [if_pos (fun q => b10 q.2)])
  · refine z_ifT_eq (tgt := 16) C (by decide) dX9_along_5 rfl ?_
    refine z_iconst (n := 17) (v := (-1)) C dX9_along_16 rfl rfl ?_
    refine z_iret C E dX9_along_17 ?_
    exact hR _ (by unfold alR; rw [if_pos (fun q => b2 q.1)])
