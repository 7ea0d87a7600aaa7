set_option maxHeartbeats 4000000 in
set_option maxRecDepth 100000 in
theorem c_X10_start {ad : Nat → Nat} {I : KI} {J : KJ} {t : Nat} {n r s : Nat} {rd : Nat → Nat → Nat} (hw : mTw I n r s rd) (ok : okTw n r s rd) {C0 : Nat → Nat → Nat} (hc : okW n r rd C0) (hW : mWy I n C0) {c : Nat} {ki co ag re : Nat → Nat} {T : Nat → Nat → Nat} (hk : mKd I c ki co ag re T) (okk : okKd n c ki co ag re T) {setv cov bv hv : Int32} {Q : Int32 → KI → KJ → KR → Prop} (hR : ∀ v I', stR n c s C0 co ki ag setv cov bv hv = some v → (∀ q, q ≠ 85 → q ≠ 102 → q ≠ 103 → q ≠ 104 → I' q = I q) → (∀ j, j ≠ 27 → j ≠ 28 → j ≠ 29 → I' 85 j = I 85 j) → Q v I' J (rf t)) (hS : ∀ I' J', stR n c s C0 co ki ag setv cov bv hv = none → (∀ q, q ≠ 85 → q ≠ 102 → q ≠ 103 → q ≠ 104 → I' q = I q) → (∀ j, j ≠ 27 → j ≠ 28 → j ≠ 29 → I' 85 j = I 85 j) → (∀ q, q ≠ 101 → J' q = J q) → Q (stI (startS r s rd C0 c co ki ag re setv cov bv hv).1) I' J' (rf t)) : Mi 7 yX10_start (wm yX10_start cX10_start 5 (some .int)) [.ref (ad 85), .int (setv), .int (cov), .int (bv), .int (hv)] ad I J (rf t) Q := by
  refine mi_of (own := RX10) yk_X10_start rfl (Nat.le_of_ble_eq_true rfl) rfl (fun X hA hnL C K E => ?_)
  subst hA
  refine z_aload_n (n := 1) C 0 dX10_start_0 rfl rfl ?_
  refine z_iload_n (n := 2) C 2 dX10_start_1 rfl rfl ?_
  refine z_vi_1 (n := 5) (d' := 1) C K dX10_start_2 rfl yk_X10_isCorner yv_X10_isCorner kM_RX10_159 (by decide) hR0 rfl rfl sh_85 (by decide) (by decide) ?_
  refine c_X10_isCorner hw.1 ok.1 (fun b2 => ?_) (fun b2 => ?_)
  · refine z_ifT_ne (tgt := 10) C (by decide) dX10_start_5 rfl ?_
    refine z_aload_n (n := 11) C 0 dX10_start_10 rfl rfl ?_
    refine z_iload_n (n := 12) C 1 dX10_start_11 rfl rfl ?_
    refine z_iload_n (n := 13) C 3 dX10_start_12 rfl rfl ?_
    refine z_iload (n := 15) C 4 dX10_start_13 rfl rfl ?_
    refine z_vi_3 (n := 18) (d' := 2) C K dX10_start_15 rfl yk_X10_isAsked yv_X10_isAsked kM_RX10_253 (by decide) hR0 rfl rfl sh_85 (by decide) (by decide) ?_
    refine c_X10_isAsked hk okk (fun q1 q2 q3 => ?_) (fun q1 => ?_)
    · refine z_ifT_ne (tgt := 24) C (by decide) dX10_start_18 rfl ?_
      obtain ⟨set, hset0, hset, rfl⟩ := q1
      have hS0 : isS c (nI set) := ⟨set, hset0, hset, rfl⟩
      obtain ⟨a, ha, rfl⟩ := isN_of b2
      obtain ⟨bl, hbl, rfl⟩ := isB_of (h := 200) q2
      obtain ⟨h, hh, rfl⟩ := isB_of (h := 100) q3
      have hn7 := ok.1
      have h1024 : 2 ^ c ≤ 2 ^ 10 := Nat.pow_le_pow_right (by decide) okk.1
      have e1 : (nI set).toNatClampNeg = set := nI_clamp (by omega)
      have e2 : (nI a).toNatClampNeg = a := nI_clamp (by omega)
      have e3 : (nI bl).toNatClampNeg = bl := nI_clamp (by omega)
      have e4 : (nI h).toNatClampNeg = h := nI_clamp (by omega)
      have esv : startS r s rd C0 c co ki ag re (nI set) (nI a) (nI bl) (nI h) = soS r rd C0 (rdG set c co re) (pcG set c co ki ag) s a bl h := by
        unfold startS
        rw [e1, e2, e3, e4]
      have hle := soS_le (r := r) (rd := rd) (C := C0) (rdy := rdG set c co re) (pc := pcG set c co ki ag) (s := s) (a := a) (bell := bl) (h := h)
      refine z_aload_n (n := 25) C 0 dX10_start_24 rfl rfl ?_
      refine z_iload_n (n := 26) C 1 dX10_start_25 rfl rfl ?_
      refine z_iload_n (n := 27) C 2 dX10_start_26 rfl rfl ?_
      refine z_vi_2 (n := 30) (d' := 4) C K dX10_start_27 rfl yk_X10_mayStart yv_X10_mayStart kM_RX10_256 (by decide) hR0 rfl rfl sh_85 (by decide) (by decide) ?_
      refine c_X10_mayStart hw ok hc hW hk okk hset ha (fun I1 hf1 hj1 hst => ?_) (fun I1 hf1 hj1 hst => ?_)
      · refine z_ifT_ne (tgt := 36) C (by decide) dX10_start_30 rfl ?_
        refine z_aload_n (n := 37) C 0 dX10_start_36 rfl rfl ?_
        refine z_iload_n (n := 38) C 1 dX10_start_37 rfl rfl ?_
        refine z_iload_n (n := 39) C 2 dX10_start_38 rfl rfl ?_
        refine z_iload_n (n := 40) C 3 dX10_start_39 rfl rfl ?_
        refine z_iload (n := 42) C 4 dX10_start_40 rfl rfl ?_
        refine z_vv_4 (n := 45) (d' := 6) C K dX10_start_42 rfl yk_X10_findStart yv_X10_findStart kM_RX10_259 (by decide) hR0 rfl rfl sh_85 (by decide) (by decide) ?_
        have hw1 : mTw I1 n r s rd := hw.fr (hj1 5 (by decide)) (hj1 6 (by decide)) (hj1 7 (by decide)) (fun q q1 q2 => hf1 q (by omega) (by omega) (by omega))
        have hW1 : mWy I1 n C0 := hW.fr (hf1 94 (by decide) (by decide) (by decide))
        have hk1 : mKd I1 c ki co ag re T := hk.fr (hj1 19 (by decide)) (fun q q1 q2 => hf1 q (by omega) (by omega) (by omega))
        refine c_X10_findStart hw1 ok hc hW1 hk1 okk hset ha hbl hh hst (fun I2 J2 hf2 hj2 hg2 hcn hbs hbv => ?_)
        refine z_aload_n (n := 46) C 0 dX10_start_45 rfl rfl ?_
        refine z_getI (n := 49) C K fF_RX10_247 dX10_start_46 rfl sh_85 (by decide) ?_
        refine z_iret C E dX10_start_49 ?_
        rw [hbs]
        have hx := hS I2 J2 (by unfold stR; rw [if_neg (fun q => q b2), if_neg (fun q => q ⟨(isSB_t okk.1).mpr hS0, q2, q3⟩), e2, e1, if_neg (fun q => q hst)]) (fun x h1 h2 h3 h4 => by rw [hf2 x h1 h2 h3 h4]; exact hf1 x h1 h2 h4) (fun j h1 h2 h3 => by rw [hj2 j h1 h2 h3]; exact hj1 j h1) hg2
        rw [esv] at hx
        exact hx
      · refine z_ifF_ne (n := 33) (tgt := 36) C (by decide) dX10_start_30 rfl rfl ?_
        refine z_bipush (n := 35) (v := (-3)) C dX10_start_33 rfl rfl ?_
        refine z_iret C E dX10_start_35 ?_
        exact hR _ I1 (by unfold stR; rw [if_neg (fun q => q b2), if_neg (fun q => q ⟨(isSB_t okk.1).mpr hS0, q2, q3⟩), e2, e1, if_pos hst]) (fun x h1 h2 _ h4 => hf1 x h1 h2 h4) (fun j h1 _ _ => hj1 j h1)
    · refine z_ifF_ne (n := 21) (tgt := 24) C (by decide) dX10_start_18 rfl rfl ?_
      refine z_bipush (n := 23) (v := (-2)) C dX10_start_21 rfl rfl ?_
      refine z_iret C E dX10_start_23 ?_
      exact hR _ I (by unfold stR; rw [if_neg (fun q => q b2), if_pos q1]) (fun _ _ _ _ _ => rfl) (fun _ _ _ _ => rfl)
  · refine z_ifF_ne (n := 8) (tgt := 10) C (by decide) dX10_start_5 rfl rfl ?_
    refine z_iconst (n := 9) (v := (-1)) C dX10_start_8 rfl rfl ?_
    refine z_iret C E dX10_start_9 ?_
    exact hR _ I (by unfold stR; rw [if_pos b2]) (fun _ _ _ _ _ => rfl) (fun _ _ _ _ => rfl)
set_option maxHeartbeats 4000000 in
set_option maxRecDepth 100000 in
theorem c_X10_gate {ad : Nat → Nat} {I : KI} {J : KJ} {t : Nat} {n r s : Nat} {rd : Nat → Nat → Nat} (hw : mTw I n r s rd) (ok : okTw n r s rd) {C0 : Nat → Nat → Nat} (hc : okW n r rd C0) (hW : mWy I n C0) {c : Nat} {ki co ag re : Nat → Nat} {T : Nat → Nat → Nat} (hk : mKd I c ki co ag re T) (okk : okKd n c ki co ag re T) {setv cov bv hv kv : Int32} {Q : Int32 → KI → KJ → KR → Prop} (hR : ∀ v I', gtR n c s C0 co ki ag setv cov bv hv kv = some v → (∀ q, q ≠ 85 → q ≠ 102 → q ≠ 103 → q ≠ 104 → I' q = I q) → (∀ j, j ≠ 27 → j ≠ 28 → j ≠ 29 → I' 85 j = I 85 j) → Q v I' J (rf t)) (hS : ∀ I' J', gtR n c s C0 co ki ag setv cov bv hv kv = none → (∀ q, q ≠ 85 → q ≠ 102 → q ≠ 103 → q ≠ 104 → I' q = I q) → (∀ j, j ≠ 27 → j ≠ 28 → j ≠ 29 → I' 85 j = I 85 j) → (∀ q, q ≠ 101 → J' q = J q) → Q (gateV (startS r s rd C0 c co ki ag re setv cov bv hv) (gL (pcG setv.toNatClampNeg c co ki ag) 7).length kv.toNatClampNeg) I' J' (rf t)) : Mi 7 yX10_gate (wm yX10_gate cX10_gate 6 (some .int)) [.ref (ad 85), .int (setv), .int (cov), .int (bv), .int (hv), .int (kv)] ad I J (rf t) Q := by
  refine mi_of (own := RX10) yk_X10_gate rfl (Nat.le_of_ble_eq_true rfl) rfl (fun X hA hnL C K E => ?_)
  subst hA
  refine z_aload_n (n := 1) C 0 dX10_gate_0 rfl rfl ?_
  refine z_iload_n (n := 2) C 2 dX10_gate_1 rfl rfl ?_
  refine z_vi_1 (n := 5) (d' := 1) C K dX10_gate_2 rfl yk_X10_isCorner yv_X10_isCorner kM_RX10_159 (by decide) hR0 rfl rfl sh_85 (by decide) (by decide) ?_
  refine c_X10_isCorner hw.1 ok.1 (fun b2 => ?_) (fun b2 => ?_)
  · refine z_ifF_eq (n := 8) (tgt := 18) C (by decide) dX10_gate_5 rfl rfl ?_
    refine z_iload (n := 10) C 5 dX10_gate_8 rfl rfl ?_
    refine z_iconst (n := 11) (v := 0) C dX10_gate_10 rfl rfl ?_
    refine z_iconst (n := 12) (v := 3) C dX10_gate_11 rfl rfl ?_
    refine z_si_3 (n := 15) (d' := 1) C K dX10_gate_12 rfl yk_X10_within kT_yX10_within kM_RX10_92 (by decide) hR0 rfl ?_
    refine m_inB (lo := 0) (hi := 3) (by decide) (by decide) (fun b12 => ?_) (fun b12 => ?_)
    · refine z_ifT_ne (tgt := 20) C (by decide) dX10_gate_15 rfl ?_
      refine z_aload_n (n := 21) C 0 dX10_gate_20 rfl rfl ?_
      refine z_iload_n (n := 22) C 1 dX10_gate_21 rfl rfl ?_
      refine z_iload_n (n := 23) C 3 dX10_gate_22 rfl rfl ?_
      refine z_iload (n := 25) C 4 dX10_gate_23 rfl rfl ?_
      refine z_vi_3 (n := 28) (d' := 2) C K dX10_gate_25 rfl yk_X10_isAsked yv_X10_isAsked kM_RX10_253 (by decide) hR0 rfl rfl sh_85 (by decide) (by decide) ?_
      refine c_X10_isAsked hk okk (fun q1 q2 q3 => ?_) (fun q1 => ?_)
      · refine z_ifT_ne (tgt := 34) C (by decide) dX10_gate_28 rfl ?_
        obtain ⟨set, hset0, hset, rfl⟩ := q1
        have hS0 : isS c (nI set) := ⟨set, hset0, hset, rfl⟩
        obtain ⟨a, ha, rfl⟩ := isN_of b2
        obtain ⟨bl, hbl, rfl⟩ := isB_of (h := 200) q2
        obtain ⟨h, hh, rfl⟩ := isB_of (h := 100) q3
        have hn7 := ok.1
        have h1024 : 2 ^ c ≤ 2 ^ 10 := Nat.pow_le_pow_right (by decide) okk.1
        have e1 : (nI set).toNatClampNeg = set := nI_clamp (by omega)
        have e2 : (nI a).toNatClampNeg = a := nI_clamp (by omega)
        have e3 : (nI bl).toNatClampNeg = bl := nI_clamp (by omega)
        have e4 : (nI h).toNatClampNeg = h := nI_clamp (by omega)
        have esv : startS r s rd C0 c co ki ag re (nI set) (nI a) (nI bl) (nI h) = soS r rd C0 (rdG set c co re) (pcG set c co ki ag) s a bl h := by
          unfold startS
          rw [e1, e2, e3, e4]
        have hle := soS_le (r := r) (rd := rd) (C := C0) (rdy := rdG set c co re) (pc := pcG set c co ki ag) (s := s) (a := a) (bell := bl) (h := h)
        obtain ⟨k, hk3, rfl⟩ := isB_of (h := 3) b12
        refine z_aload_n (n := 35) C 0 dX10_gate_34 rfl rfl ?_
        refine z_iload_n (n := 36) C 1 dX10_gate_35 rfl rfl ?_
        refine z_iload_n (n := 37) C 2 dX10_gate_36 rfl rfl ?_
        refine z_vi_2 (n := 40) (d' := 4) C K dX10_gate_37 rfl yk_X10_mayStart yv_X10_mayStart kM_RX10_256 (by decide) hR0 rfl rfl sh_85 (by decide) (by decide) ?_
        refine c_X10_mayStart hw ok hc hW hk okk hset ha (fun I1 hf1 hj1 hst => ?_) (fun I1 hf1 hj1 hst => ?_)
        · refine z_ifT_ne (tgt := 46) C (by decide) dX10_gate_40 rfl ?_
          refine z_aload_n (n := 47) C 0 dX10_gate_46 rfl rfl ?_
          refine z_iload_n (n := 48) C 1 dX10_gate_47 rfl rfl ?_
          refine z_iload_n (n := 49) C 2 dX10_gate_48 rfl rfl ?_
          refine z_iload_n (n := 50) C 3 dX10_gate_49 rfl rfl ?_
          refine z_iload (n := 52) C 4 dX10_gate_50 rfl rfl ?_
          refine z_vv_4 (n := 55) (d' := 6) C K dX10_gate_52 rfl yk_X10_findStart yv_X10_findStart kM_RX10_259 (by decide) hR0 rfl rfl sh_85 (by decide) (by decide) ?_
          have hw1 : mTw I1 n r s rd := hw.fr (hj1 5 (by decide)) (hj1 6 (by decide)) (hj1 7 (by decide)) (fun q q1 q2 => hf1 q (by omega) (by omega) (by omega))
          have hW1 : mWy I1 n C0 := hW.fr (hf1 94 (by decide) (by decide) (by decide))
          have hk1 : mKd I1 c ki co ag re T := hk.fr (hj1 19 (by decide)) (fun q q1 q2 => hf1 q (by omega) (by omega) (by omega))
          refine c_X10_findStart hw1 ok hc hW1 hk1 okk hset ha hbl hh hst (fun I2 J2 hf2 hj2 hg2 hcn hbs hbv => ?_)
          refine z_aload_n (n := 56) C 0 dX10_gate_55 rfl rfl ?_
          refine z_getI (n := 59) C K fF_RX10_247 dX10_gate_56 rfl sh_85 (by decide) ?_
          rw [hbs]
          refine z_bipush (n := 61) (v := (-9)) C dX10_gate_59 rfl rfl ?_
          refine z_icmp_eq (tgt := 73) (n := 64) C dX10_gate_61 rfl rfl (fun c61 => ?_) (fun c61 => ?_)
          · refine z_bipush (n := 75) (v := (-9)) C dX10_gate_73 rfl rfl ?_
            refine z_goto (n := 85) C dX10_gate_75 rfl ?_
            refine z_iret C E dX10_gate_85 ?_
            have hx := hS I2 J2 (by unfold gtR; rw [if_neg (fun q => q ⟨b2, b12⟩)]; exact (by unfold stR; rw [if_neg (fun q => q b2), if_neg (fun q => q ⟨(isSB_t okk.1).mpr hS0, q2, q3⟩), e2, e1, if_neg (fun q => q hst)])) (fun x h1 h2 h3 h4 => by rw [hf2 x h1 h2 h3 h4]; exact hf1 x h1 h2 h4) (fun j h1 h2 h3 => by rw [hj2 j h1 h2 h3]; exact hj1 j h1) hg2
            rw [esv, e1, nI_clamp (show k < 2 ^ 31 by omega)] at hx
            unfold gateV at hx
            rw [if_pos (Or.inl ((stI_eq (by omega)).mp c61))] at hx
            exact hx
          · refine z_iload (n := 66) C 5 dX10_gate_64 rfl rfl ?_
            refine z_aload_n (n := 67) C 0 dX10_gate_66 rfl rfl ?_
            refine z_getI (n := 70) C K fF_RX10_181 dX10_gate_67 rfl sh_85 (by decide) ?_
            rw [hcn]
            have hl7 := gL_len (pcG set c co ki ag) 7
            refine z_icmp_lt (tgt := 78) (n := 73) C dX10_gate_70 rfl rfl (fun c70 => ?_) (fun c70 => ?_)
            · rw [fa_lt, nI_toInt (by omega), nI_toInt (by omega)] at c70
              have hne : (soS r rd C0 (rdG set c co re) (pcG set c co ki ag) s a bl h).1 ≠ 0 := fun e => c61 ((stI_eq (by omega)).mpr e)
              refine z_aload_n (n := 79) C 0 dX10_gate_78 rfl rfl ?_
              refine z_getR (n := 82) (q := 103) C K fF_RX10_62 dX10_gate_79 rfl rfl sh_85 (by decide) rfl ?_
              refine z_iload (n := 84) C 5 dX10_gate_82 rfl rfl ?_
              refine z_ialdN (n := 85) C K k dX10_gate_84 rfl sh_103 (by decide) rfl (by omega) (by decide) ?_
              rw [hbv hne k (by omega)]
              refine z_iret C E dX10_gate_85 ?_
              have hx := hS I2 J2 (by unfold gtR; rw [if_neg (fun q => q ⟨b2, b12⟩)]; exact (by unfold stR; rw [if_neg (fun q => q b2), if_neg (fun q => q ⟨(isSB_t okk.1).mpr hS0, q2, q3⟩), e2, e1, if_neg (fun q => q hst)])) (fun x h1 h2 h3 h4 => by rw [hf2 x h1 h2 h3 h4]; exact hf1 x h1 h2 h4) (fun j h1 h2 h3 => by rw [hj2 j h1 h2 h3]; exact hj1 j h1) hg2
              rw [esv, e1, nI_clamp (show k < 2 ^ 31 by omega)] at hx
              unfold gateV at hx
              rw [if_neg (fun q => q.elim hne (fun q => by omega))] at hx
              exact hx
            · refine z_bipush (n := 75) (v := (-9)) C dX10_gate_73 rfl rfl ?_
              refine z_goto (n := 85) C dX10_gate_75 rfl ?_
              refine z_iret C E dX10_gate_85 ?_
              have hx := hS I2 J2 (by unfold gtR; rw [if_neg (fun q => q ⟨b2, b12⟩)]; exact (by unfold stR; rw [if_neg (fun q => q b2), if_neg (fun q => q ⟨(isSB_t okk.1).mpr hS0, q2, q3⟩), e2, e1, if_neg (fun q => q hst)])) (fun x h1 h2 h3 h4 => by rw [hf2 x h1 h2 h3 h4]; exact hf1 x h1 h2 h4) (fun j h1 h2 h3 => by rw [hj2 j h1 h2 h3]; exact hj1 j h1) hg2
              rw [esv, e1, nI_clamp (show k < 2 ^ 31 by omega)] at hx
              unfold gateV at hx
              rw [fa_lt, nI_toInt (by omega), nI_toInt (by omega)] at c70
              rw [if_pos (Or.inr (by omega))] at hx
              exact hx
        · refine z_ifF_ne (n := 43) (tgt := 46) C (by decide) dX10_gate_40 rfl rfl ?_
          refine z_bipush (n := 45) (v := (-3)) C dX10_gate_43 rfl rfl ?_
          refine z_iret C E dX10_gate_45 ?_
          exact hR _ I1 (by unfold gtR; rw [if_neg (fun q => q ⟨b2, b12⟩)]; exact (by unfold stR; rw [if_neg (fun q => q b2), if_neg (fun q => q ⟨(isSB_t okk.1).mpr hS0, q2, q3⟩), e2, e1, if_pos hst])) (fun x h1 h2 _ h4 => hf1 x h1 h2 h4) (fun j h1 _ _ => hj1 j h1)
      · refine z_ifF_ne (n := 31) (tgt := 34) C (by decide) dX10_gate_28 rfl rfl ?_
        refine z_bipush (n := 33) (v := (-2)) C dX10_gate_31 rfl rfl ?_
        refine z_iret C E dX10_gate_33 ?_
        exact hR _ I (by unfold gtR; rw [if_neg (fun q => q ⟨b2, b12⟩)]; exact (by unfold stR; rw [if_neg (fun q => q b2), if_pos q1])) (fun _ _ _ _ _ => rfl) (fun _ _ _ _ => rfl)
    · refine z_ifF_ne (n := 18) (tgt := 20) C (by decide) dX10_gate_15 rfl rfl ?_
      refine z_iconst (n := 19) (v := (-1)) C dX10_gate_18 rfl rfl ?_
      refine z_iret C E dX10_gate_19 ?_
      exact hR _ I (by unfold gtR; rw [if_pos (fun q => b12 q.2)]) (fun _ _ _ _ _ => rfl) (fun _ _ _ _ => rfl)
  · refine z_ifT_eq (tgt := 18) C (by decide) dX10_gate_5 rfl ?_
    refine z_iconst (n := 19) (v := (-1)) C dX10_gate_18 rfl rfl ?_
    refine z_iret C E dX10_gate_19 ?_
    exact hR _ I (by unfold gtR; rw [if_pos (fun q => b2 q.1)]) (fun _ _ _ _ _ => rfl) (fun _ _ _ _ => rfl)
set_option maxHeartbeats 4000000 in
set_option maxRecDepth 100000 in
theorem c_X10_startOf {ad : Nat → Nat} {I : KI} {J : KJ} {t : Nat} {n r s : Nat} {rd : Nat → Nat → Nat} (hw : mTw I n r s rd) (ok : okTw n r s rd) {C0 : Nat → Nat → Nat} (hc : okW n r rd C0) (hW : mWy I n C0) {c : Nat} {ki co ag re : Nat → Nat} {T : Nat → Nat → Nat} (hk : mKd I c ki co ag re T) (okk : okKd n c ki co ag re T) {set a bl h : Nat} (hset : set < 2 ^ c) (ha : a < n) (hbl : bl ≤ 200) (hh : h ≤ 100) {Q : Int32 → KI → KJ → KR → Prop} (hQ : ∀ I' J', (∀ q, q ≠ 85 → q ≠ 102 → q ≠ 103 → q ≠ 104 → I' q = I q) → (∀ j, j ≠ 27 → j ≠ 28 → j ≠ 29 → I' 85 j = I 85 j) → (∀ q, q ≠ 101 → J' q = J q) → Q (stI (soS r rd C0 (rdG set c co re) (pcG set c co ki ag) s a bl h).1) I' J' (rf t)) : Mi 7 yX10_startOf (wm yX10_startOf cX10_startOf 5 (some .int)) [.ref (ad 85), .int (nI set), .int (nI a), .int (nI bl), .int (nI h)] ad I J (rf t) Q := by
  refine mi_of (own := RX10) yk_X10_startOf rfl (Nat.le_of_ble_eq_true rfl) rfl (fun X hA hnL C K E => ?_)
  subst hA
  refine z_aload_n (n := 1) C 0 dX10_startOf_0 rfl rfl ?_
  refine z_iload_n (n := 2) C 1 dX10_startOf_1 rfl rfl ?_
  refine z_iload_n (n := 3) C 2 dX10_startOf_2 rfl rfl ?_
  refine z_vi_2 (n := 6) (d' := 4) C K dX10_startOf_3 rfl yk_X10_mayStart yv_X10_mayStart kM_RX10_256 (by decide) hR0 rfl rfl sh_85 (by decide) (by decide) ?_
  refine c_X10_mayStart hw ok hc hW hk okk hset ha (fun I1 hf1 hj1 hst => ?_) (fun I1 hf1 hj1 hst => ?_)
  · refine z_ifT_ne (tgt := 12) C (by decide) dX10_startOf_6 rfl ?_
    refine z_aload_n (n := 13) C 0 dX10_startOf_12 rfl rfl ?_
    refine z_iload_n (n := 14) C 1 dX10_startOf_13 rfl rfl ?_
    refine z_iload_n (n := 15) C 2 dX10_startOf_14 rfl rfl ?_
    refine z_iload_n (n := 16) C 3 dX10_startOf_15 rfl rfl ?_
    refine z_iload (n := 18) C 4 dX10_startOf_16 rfl rfl ?_
    refine z_vv_4 (n := 21) (d' := 6) C K dX10_startOf_18 rfl yk_X10_findStart yv_X10_findStart kM_RX10_259 (by decide) hR0 rfl rfl sh_85 (by decide) (by decide) ?_
    have hw1 : mTw I1 n r s rd := hw.fr (hj1 5 (by decide)) (hj1 6 (by decide)) (hj1 7 (by decide)) (fun q q1 q2 => hf1 q (by omega) (by omega) (by omega))
    have hW1 : mWy I1 n C0 := hW.fr (hf1 94 (by decide) (by decide) (by decide))
    have hk1 : mKd I1 c ki co ag re T := hk.fr (hj1 19 (by decide)) (fun q q1 q2 => hf1 q (by omega) (by omega) (by omega))
    refine c_X10_findStart hw1 ok hc hW1 hk1 okk hset ha hbl hh hst (fun I2 J2 hf2 hj2 hg2 hcn hbs hbv => ?_)
    refine z_aload_n (n := 22) C 0 dX10_startOf_21 rfl rfl ?_
    refine z_getI (n := 25) C K fF_RX10_247 dX10_startOf_22 rfl sh_85 (by decide) ?_
    refine z_iret C E dX10_startOf_25 ?_
    rw [hbs]
    exact hQ I2 J2 (fun x h1 h2 h3 h4 => by rw [hf2 x h1 h2 h3 h4]; exact hf1 x h1 h2 h4) (fun j h1 h2 h3 => by rw [hj2 j h1 h2 h3]; exact hj1 j h1) hg2
  · refine z_ifF_ne (n := 9) (tgt := 12) C (by decide) dX10_startOf_6 rfl rfl ?_
    refine z_bipush (n := 11) (v := (-9)) C dX10_startOf_9 rfl rfl ?_
    refine z_iret C E dX10_startOf_11 ?_
    have hso : soS r rd C0 (rdG set c co re) (pcG set c co ki ag) s a bl h = (0, []) := by unfold soS; rw [if_neg hst]
    have hx := hQ I1 J (fun x h1 h2 _ h4 => hf1 x h1 h2 h4) (fun j h1 _ _ => hj1 j h1) (fun _ _ => rfl)
    rw [hso] at hx
    exact hx
