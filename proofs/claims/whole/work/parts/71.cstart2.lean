set_option maxHeartbeats 4000000 in
set_option maxRecDepth 100000 in
theorem c_X9_startRefusal {ad : Nat → Nat} {I : KI} {J : KJ} {t : Nat} (ht : Tw t) {n r s : Nat} {rd : Nat → Nat → Nat} (hw : cTw t I n r s rd) (ok : okTw n r s rd) {C0 : Nat → Nat → Nat} (hc : okW n r rd C0) (hW : cWy t I n r rd C0) {c : Nat} {ki co ag re : Nat → Nat} {T : Nat → Nat → Nat} (hk : cKd I c ki co ag re T) (okk : okKd n c ki co ag re T) {setv cov bv hv : Int32} {Q : Int32 → KI → KJ → KR → Prop} (hR : ∀ v I', stR n c s C0 co ki ag setv cov bv hv = some v → (∀ q, ¬ (50 ≤ q ∧ q ≤ 53) → I' q = I q) → Q v I' J (rf t)) (hS : ∀ (set a bl h : Nat) (og : List Nat) I', stR n c s C0 co ki ag setv cov bv hv = none → setv = nI set → 0 < set → set < 2 ^ c → cov = nI a → a < n → bv = nI bl → bl ≤ 200 → hv = nI h → h ≤ 100 → (∀ q, ¬ (50 ≤ q ∧ q ≤ 53) → I' q = I q) → cGt I' (pcG set c co ki ag) (rdG set c co re) og → og.length = (gL (pcG set c co ki ag) 7).length → stB C0 s a (gL (pcG set c co ki ag) 7) = true → Q 0 I' J (rf t)) : Mi 4 yX9_startRefusal (wm yX9_startRefusal cX9_startRefusal 5 (some .int)) [.ref (ad 0), .int (setv), .int (cov), .int (bv), .int (hv)] ad I J (rf t) Q := by
  refine mi_of (own := RX9) yk_X9_startRefusal rfl (Nat.le_of_ble_eq_true rfl) rfl (fun X hA hnL C K E => ?_)
  subst hA
  refine z_aload_n (n := 1) C 0 dX9_startRefusal_0 rfl rfl ?_
  refine z_iload_n (n := 2) C 2 dX9_startRefusal_1 rfl rfl ?_
  refine z_vi_1 (n := 5) (d' := 1) C K dX9_startRefusal_2 rfl yk_X9_isCorner yv_X9_isCorner kM_RX9_128 (by decide) hR0 rfl rfl sh_0 (by decide) (by decide) ?_
  refine c_X9_isCorner ht hw.1 ok.1 (fun b2 => ?_) (fun b2 => ?_)
  · refine z_ifT_ne (tgt := 10) C (by decide) dX9_startRefusal_5 rfl ?_
    refine z_aload_n (n := 11) C 0 dX9_startRefusal_10 rfl rfl ?_
    refine z_iload_n (n := 12) C 1 dX9_startRefusal_11 rfl rfl ?_
    refine z_vi_1 (n := 15) (d' := 1) C K dX9_startRefusal_12 rfl yk_X9_isSet yv_X9_isSet kM_RX9_200 (by decide) hR0 rfl rfl sh_0 (by decide) (by decide) ?_
    refine c_X9_isSet hk.1 okk.1 (fun b12 => ?_) (fun b12 => ?_)
    · refine z_ifF_eq (n := 18) (tgt := 36) C (by decide) dX9_startRefusal_15 rfl rfl ?_
      refine z_iload_n (n := 19) C 3 dX9_startRefusal_18 rfl rfl ?_
      refine z_si_1 (n := 22) (d' := 2) C K dX9_startRefusal_19 rfl yk_X9_isMinute kT_yX9_isMinute kM_RX9_203 (by decide) hR0 rfl ?_
      refine c_X9_isMinute (fun b19 => ?_) (fun b19 => ?_)
      · refine z_ifF_eq (n := 25) (tgt := 36) C (by decide) dX9_startRefusal_22 rfl rfl ?_
        refine z_iload (n := 27) C 4 dX9_startRefusal_25 rfl rfl ?_
        refine z_iconst (n := 28) (v := 0) C dX9_startRefusal_27 rfl rfl ?_
        refine z_bipush (n := 30) (v := 100) C dX9_startRefusal_28 rfl rfl ?_
        refine z_si_3 (n := 33) (d' := 1) C K dX9_startRefusal_30 rfl yk_X9_isWithin kT_yX9_isWithin kM_RX9_131 (by decide) hR0 rfl ?_
        refine c_inB (lo := 0) (hi := 100) (by decide) (by decide) (fun b30 => ?_) (fun b30 => ?_)
        · refine z_ifT_ne (tgt := 39) C (by decide) dX9_startRefusal_33 rfl ?_
          obtain ⟨set, hset0, hset, rfl⟩ := b12
          have hS0 : isS c (nI set) := ⟨set, hset0, hset, rfl⟩
          obtain ⟨a, ha, rfl⟩ := isN_of b2
          obtain ⟨bl, hbl, rfl⟩ := isB_of (h := 200) b19
          obtain ⟨h, hh, rfl⟩ := isB_of (h := 100) b30
          have hn7 := ok.1
          have htq := ht
          unfold Tw at htq
          have h1024 : 2 ^ c ≤ 2 ^ 10 := Nat.pow_le_pow_right (by decide) okk.1
          refine z_aload_n (n := 40) C 0 dX9_startRefusal_39 rfl rfl ?_
          refine z_getR (n := 43) (q := 49) C K fF_RX9_47 dX9_startRefusal_40 rfl rfl sh_0 (by decide) rfl ?_
          refine z_getR (n := 46) (q := 50) C K fF_RX9_240 dX9_startRefusal_43 rfl rfl sh_49 (by decide) rfl ?_
          refine z_aload_n (n := 47) C 0 dX9_startRefusal_46 rfl rfl ?_
          refine z_getR (n := 50) (q := 48) C K fF_RX9_36 dX9_startRefusal_47 rfl rfl sh_0 (by decide) rfl ?_
          refine z_iload_n (n := 51) C 1 dX9_startRefusal_50 rfl rfl ?_
          refine z_vv_2 (n := 54) (d' := 3) C K dX9_startRefusal_51 rfl yk_X1_gather yv_X1_gather kM_RX9_361 (by decide) hR0 rfl rfl sh_50 (by decide) (by decide) ?_
          refine c_X1_gather hk okk hn7 hset (fun I1 hf1 hG1 => ?_)
          have hw1 : cTw t I1 n r s rd := hw.fr (fun q q1 q2 => hf1 q (by omega))
          have hW1 : cWy t I1 n r rd C0 := hW.fr hn7 (fun q q1 q2 => hf1 q (by omega))
          have hgp := gates_pos (co := co) (ki := ki) (ag := ag) hset0 hset (fun x hx => by have := (okk.2.1 x hx).2.1; omega)
          refine z_aload_n (n := 55) C 0 dX9_startRefusal_54 rfl rfl ?_
          refine z_getR (n := 58) (q := 49) C K fF_RX9_47 dX9_startRefusal_55 rfl rfl sh_0 (by decide) rfl ?_
          refine z_aload_n (n := 59) C 0 dX9_startRefusal_58 rfl rfl ?_
          refine z_getR (n := 62) (q := t) C K fF_RX9_27 dX9_startRefusal_59 rfl rfl sh_0 (by decide) rfl ?_
          refine z_iload_n (n := 63) C 2 dX9_startRefusal_62 rfl rfl ?_
          refine z_vi_2 (n := 66) (d' := 3) C K dX9_startRefusal_63 rfl yk_X2_hasStarts yv_X2_hasStarts kM_RX9_377 (by decide) hR0 rfl rfl sh_49 (by decide) (by decide) ?_
          refine c_X2_hasStarts ht hw1 ok hc hW1 hG1 rfl (pcG_le set c co ki ag) (fun x hx => gatesOf_lt okk hx) hgp ha (fun og2 I2 hf2 b63 hG2 hl2 => ?_) (fun og2 I2 hf2 b63 hG2 hl2 => ?_)
          · refine z_ifF_eq (n := 69) (tgt := 73) C (by decide) dX9_startRefusal_66 rfl rfl ?_
            refine z_iconst (n := 70) (v := 0) C dX9_startRefusal_69 rfl rfl ?_
            refine z_goto (n := 75) C dX9_startRefusal_70 rfl ?_
            refine z_iret C E dX9_startRefusal_75 ?_
            exact hS set a bl h og2 I2 (by unfold stR; rw [if_neg (fun q => q b2), if_neg (fun q => q ⟨(isSB_t okk.1).mpr hS0, b19, b30⟩), nI_clamp (show a < 2 ^ 31 by omega), nI_clamp (show set < 2 ^ 31 by omega), if_neg (fun q => q b63)]) rfl hset0 hset rfl ha rfl hbl rfl hh (fun x hx => by rw [hf2 x hx]; exact hf1 x hx) hG2 hl2 b63
          · refine z_ifT_eq (tgt := 73) C (by decide) dX9_startRefusal_66 rfl ?_
            refine z_bipush (n := 75) (v := (-3)) C dX9_startRefusal_73 rfl rfl ?_
            refine z_iret C E dX9_startRefusal_75 ?_
            exact hR _ I2 (by unfold stR; rw [if_neg (fun q => q b2), if_neg (fun q => q ⟨(isSB_t okk.1).mpr hS0, b19, b30⟩), nI_clamp (show a < 2 ^ 31 by omega), nI_clamp (show set < 2 ^ 31 by omega), if_pos b63]) (fun x hx => by rw [hf2 x hx]; exact hf1 x hx)
        · refine z_ifF_ne (n := 36) (tgt := 39) C (by decide) dX9_startRefusal_33 rfl rfl ?_
          refine z_bipush (n := 38) (v := (-2)) C dX9_startRefusal_36 rfl rfl ?_
          refine z_iret C E dX9_startRefusal_38 ?_
          exact hR _ I (by unfold stR; rw [if_neg (fun q => q b2), if_pos (fun q => b30 q.2.2)]) (fun _ _ => rfl)
      · refine z_ifT_eq (tgt := 36) C (by decide) dX9_startRefusal_22 rfl ?_
        refine z_bipush (n := 38) (v := (-2)) C dX9_startRefusal_36 rfl rfl ?_
        refine z_iret C E dX9_startRefusal_38 ?_
        exact hR _ I (by unfold stR; rw [if_neg (fun q => q b2), if_pos (fun q => b19 q.2.1)]) (fun _ _ => rfl)
    · refine z_ifT_eq (tgt := 36) C (by decide) dX9_startRefusal_15 rfl ?_
      refine z_bipush (n := 38) (v := (-2)) C dX9_startRefusal_36 rfl rfl ?_
      refine z_iret C E dX9_startRefusal_38 ?_
      exact hR _ I (by unfold stR; rw [if_neg (fun q => q b2), if_pos (fun q => b12 ((isSB_t okk.1).mp q.1))]) (fun _ _ => rfl)
  · refine z_ifF_ne (n := 8) (tgt := 10) C (by decide) dX9_startRefusal_5 rfl rfl ?_
    refine z_iconst (n := 9) (v := (-1)) C dX9_startRefusal_8 rfl rfl ?_
    refine z_iret C E dX9_startRefusal_9 ?_
    exact hR _ I (by unfold stR; rw [if_pos b2]) (fun _ _ => rfl)
set_option maxHeartbeats 4000000 in
set_option maxRecDepth 100000 in
theorem c_X9_start {ad : Nat → Nat} {I : KI} {J : KJ} {t : Nat} (ht : Tw t) {n r s : Nat} {rd : Nat → Nat → Nat} (hw : cTw t I n r s rd) (ok : okTw n r s rd) {C0 : Nat → Nat → Nat} (hc : okW n r rd C0) (hW : cWy t I n r rd C0) {c : Nat} {ki co ag re : Nat → Nat} {T : Nat → Nat → Nat} (hk : cKd I c ki co ag re T) (okk : okKd n c ki co ag re T) (hz : cZs I J) {setv cov bv hv : Int32} {Q : Int32 → KI → KJ → KR → Prop} (hR : ∀ v I', stR n c s C0 co ki ag setv cov bv hv = some v → (∀ q, ¬ (50 ≤ q ∧ q ≤ 53) → I' q = I q) → Q v I' J (rf t)) (hS : ∀ I' J', stR n c s C0 co ki ag setv cov bv hv = none → (∀ q, ¬ (50 ≤ q ∧ q ≤ 56) → I' q = I q) → (∀ q, q ≠ 54 → q ≠ 55 → J' q = J q) → cZs I' J' → Q (stI (startS r s rd C0 c co ki ag re setv cov bv hv).1) I' J' (rf t)) : Mi 6 yX9_start (wm yX9_start cX9_start 6 (some .int)) [.ref (ad 0), .int (setv), .int (cov), .int (bv), .int (hv)] ad I J (rf t) Q := by
  refine mi_of (own := RX9) yk_X9_start rfl (Nat.le_of_ble_eq_true rfl) rfl (fun X hA hnL C K E => ?_)
  subst hA
  refine z_aload_n (n := 1) C 0 dX9_start_0 rfl rfl ?_
  refine z_iload_n (n := 2) C 1 dX9_start_1 rfl rfl ?_
  refine z_iload_n (n := 3) C 2 dX9_start_2 rfl rfl ?_
  refine z_iload_n (n := 4) C 3 dX9_start_3 rfl rfl ?_
  refine z_iload (n := 6) C 4 dX9_start_4 rfl rfl ?_
  refine z_vi_4 (n := 9) (d' := 4) C K dX9_start_6 rfl yk_X9_startRefusal yv_X9_startRefusal kM_RX9_232 (by decide) hR0 rfl rfl sh_0 (by decide) (by decide) ?_
  refine c_X9_startRefusal ht hw ok hc hW hk okk (fun v I1 hr hf1 => ?_) (fun set a bl h og I1 hn e1 hset0 hset e2 ha e3 hbl e4 hh hf1 hG1 hl1 hst => ?_)
  · refine z_istore (n := 11) (L' := [(5, _), (0, _), (1, _), (2, _), (3, _), (4, _)]) C dX9_start_9 rfl (by rw [hnL]; decide) rfl ?_
    refine z_iload (n := 13) C 0 dX9_start_11 rfl rfl ?_
    refine z_ifF_eq (n := 16) (tgt := 19) C (fun e => by
  unfold stR at hr
  split at hr
  · cases hr; exact absurd e (by decide)
  · split at hr
    · cases hr; exact absurd e (by decide)
    · split at hr
      · cases hr; exact absurd e (by decide)
      · cases hr) dX9_start_13 rfl rfl ?_
    refine z_iload (n := 18) C 0 dX9_start_16 rfl rfl ?_
    refine z_iret C E dX9_start_18 ?_
    exact hR v I1 hr hf1
  · refine z_istore (n := 11) (L' := [(5, _), (0, _), (1, _), (2, _), (3, _), (4, _)]) C dX9_start_9 rfl (by rw [hnL]; decide) rfl ?_
    refine z_iload (n := 13) C 0 dX9_start_11 rfl rfl ?_
    refine z_ifT_eq (tgt := 19) C (by decide) dX9_start_13 rfl ?_
    subst e1
    subst e2
    subst e3
    subst e4
    have hn7 := ok.1
    have htq := ht
    unfold Tw at htq
    have h1024 : 2 ^ c ≤ 2 ^ 10 := Nat.pow_le_pow_right (by decide) okk.1
    have hw1 : cTw t I1 n r s rd := hw.fr (fun q q1 q2 => hf1 q (by omega))
    have hW1 : cWy t I1 n r rd C0 := hW.fr hn7 (fun q q1 q2 => hf1 q (by omega))
    have hgp := gates_pos (co := co) (ki := ki) (ag := ag) hset0 hset (fun x hx => by have := (okk.2.1 x hx).2.1; omega)
    have esv : startS r s rd C0 c co ki ag re (nI set) (nI a) (nI bl) (nI h) = soS r rd C0 (rdG set c co re) (pcG set c co ki ag) s a bl h := by
      unfold startS
      rw [nI_clamp (show a < 2 ^ 31 by omega), nI_clamp (show set < 2 ^ 31 by omega), nI_clamp (show bl < 2 ^ 31 by omega), nI_clamp (show h < 2 ^ 31 by omega)]
    refine z_aload_n (n := 20) C 1 dX9_start_19 rfl rfl ?_
    refine z_getR (n := 23) (q := 49) C K fF_RX9_47 dX9_start_20 rfl rfl sh_0 (by decide) rfl ?_
    refine z_aload_n (n := 24) C 1 dX9_start_23 rfl rfl ?_
    refine z_getR (n := 27) (q := t) C K fF_RX9_27 dX9_start_24 rfl rfl sh_0 (by decide) rfl ?_
    refine z_iload_n (n := 28) C 3 dX9_start_27 rfl rfl ?_
    refine z_iload_n (n := 29) C 4 dX9_start_28 rfl rfl ?_
    refine z_iload (n := 31) C 5 dX9_start_29 rfl rfl ?_
    refine z_vi_4 (n := 34) (d' := 5) C K dX9_start_31 rfl yk_X2_findStart yv_X2_findStart kM_RX9_236 (by decide) hR0 rfl rfl sh_49 (by decide) (by decide) ?_
    refine c_X2_findStart ht hw1 ok hc hW1 hG1 hl1 (pcG_le set c co ki ag) (fun x hx => gatesOf_lt okk hx) hgp ha (fun g => rdG_le (fun x hx => (okk.2.1 x hx).2.2.2.2) g) hbl hh (hz.fr (hf1 54 (by decide)) rfl) (fun og2 I2 J2 hf2 hg2 hz2 hG2 hl2 hbo => ?_)
    have hle := soS_le (r := r) (rd := rd) (C := C0) (rdy := rdG set c co re) (pc := pcG set c co ki ag) (s := s) (a := a) (bell := bl) (h := h)
    refine z_iret C E dX9_start_34 ?_
    have hx := hS I2 J2 hn (fun x hx => by rw [hf2 x hx]; exact hf1 x (by omega)) hg2 hz2
    rw [esv] at hx
    exact hx
set_option maxHeartbeats 4000000 in
set_option maxRecDepth 100000 in
theorem c_X9_gate {ad : Nat → Nat} {I : KI} {J : KJ} {t : Nat} (ht : Tw t) {n r s : Nat} {rd : Nat → Nat → Nat} (hw : cTw t I n r s rd) (ok : okTw n r s rd) {C0 : Nat → Nat → Nat} (hc : okW n r rd C0) (hW : cWy t I n r rd C0) {c : Nat} {ki co ag re : Nat → Nat} {T : Nat → Nat → Nat} (hk : cKd I c ki co ag re T) (okk : okKd n c ki co ag re T) (hz : cZs I J) {setv cov bv hv kv : Int32} {Q : Int32 → KI → KJ → KR → Prop} (hR : ∀ v I', gtR n c s C0 co ki ag setv cov bv hv kv = some v → (∀ q, ¬ (50 ≤ q ∧ q ≤ 53) → I' q = I q) → Q v I' J (rf t)) (hS : ∀ I' J', gtR n c s C0 co ki ag setv cov bv hv kv = none → (∀ q, ¬ (50 ≤ q ∧ q ≤ 56) → I' q = I q) → (∀ q, q ≠ 54 → q ≠ 55 → J' q = J q) → cZs I' J' → Q (gateV (startS r s rd C0 c co ki ag re setv cov bv hv) (gL (pcG setv.toNatClampNeg c co ki ag) 7).length kv.toNatClampNeg) I' J' (rf t)) : Mi 6 yX9_gate (wm yX9_gate cX9_gate 7 (some .int)) [.ref (ad 0), .int (setv), .int (cov), .int (bv), .int (hv), .int (kv)] ad I J (rf t) Q := by
  refine mi_of (own := RX9) yk_X9_gate rfl (Nat.le_of_ble_eq_true rfl) rfl (fun X hA hnL C K E => ?_)
  subst hA
  refine z_aload_n (n := 1) C 0 dX9_gate_0 rfl rfl ?_
  refine z_iload_n (n := 2) C 2 dX9_gate_1 rfl rfl ?_
  refine z_vi_1 (n := 5) (d' := 1) C K dX9_gate_2 rfl yk_X9_isCorner yv_X9_isCorner kM_RX9_128 (by decide) hR0 rfl rfl sh_0 (by decide) (by decide) ?_
  refine c_X9_isCorner ht hw.1 ok.1 (fun b2 => ?_) (fun b2 => ?_)
  · refine z_ifF_eq (n := 8) (tgt := 18) C (by decide) dX9_gate_5 rfl rfl ?_
    refine z_iload (n := 10) C 5 dX9_gate_8 rfl rfl ?_
    refine z_iconst (n := 11) (v := 0) C dX9_gate_10 rfl rfl ?_
    refine z_iconst (n := 12) (v := 3) C dX9_gate_11 rfl rfl ?_
    refine z_si_3 (n := 15) (d' := 1) C K dX9_gate_12 rfl yk_X9_isWithin kT_yX9_isWithin kM_RX9_131 (by decide) hR0 rfl ?_
    refine c_inB (lo := 0) (hi := 3) (by decide) (by decide) (fun b12 => ?_) (fun b12 => ?_)
    · refine z_ifT_ne (tgt := 20) C (by decide) dX9_gate_15 rfl ?_
      refine z_aload_n (n := 21) C 0 dX9_gate_20 rfl rfl ?_
      refine z_iload_n (n := 22) C 1 dX9_gate_21 rfl rfl ?_
      refine z_iload_n (n := 23) C 2 dX9_gate_22 rfl rfl ?_
      refine z_iload_n (n := 24) C 3 dX9_gate_23 rfl rfl ?_
      refine z_iload (n := 26) C 4 dX9_gate_24 rfl rfl ?_
      refine z_vi_4 (n := 29) (d' := 4) C K dX9_gate_26 rfl yk_X9_startRefusal yv_X9_startRefusal kM_RX9_232 (by decide) hR0 rfl rfl sh_0 (by decide) (by decide) ?_
      refine c_X9_startRefusal ht hw ok hc hW hk okk (fun v I1 hr hf1 => ?_) (fun set a bl h og I1 hn e1 hset0 hset e2 ha e3 hbl e4 hh hf1 hG1 hl1 hst => ?_)
      · refine z_istore (n := 31) (L' := [(6, _), (0, _), (1, _), (2, _), (3, _), (4, _), (5, _)]) C dX9_gate_29 rfl (by rw [hnL]; decide) rfl ?_
        refine z_iload (n := 33) C 0 dX9_gate_31 rfl rfl ?_
        refine z_ifF_eq (n := 36) (tgt := 39) C (fun e => by
  unfold stR at hr
  split at hr
  · cases hr; exact absurd e (by decide)
  · split at hr
    · cases hr; exact absurd e (by decide)
    · split at hr
      · cases hr; exact absurd e (by decide)
      · cases hr) dX9_gate_33 rfl rfl ?_
        refine z_iload (n := 38) C 0 dX9_gate_36 rfl rfl ?_
        refine z_iret C E dX9_gate_38 ?_
        exact hR v I1 (by unfold gtR; rw [if_neg (fun q => q ⟨b2, b12⟩)]; exact hr) hf1
      · refine z_istore (n := 31) (L' := [(6, _), (0, _), (1, _), (2, _), (3, _), (4, _), (5, _)]) C dX9_gate_29 rfl (by rw [hnL]; decide) rfl ?_
        refine z_iload (n := 33) C 0 dX9_gate_31 rfl rfl ?_
        refine z_ifT_eq (tgt := 39) C (by decide) dX9_gate_33 rfl ?_
        subst e1
        subst e2
        subst e3
        subst e4
        have hn7 := ok.1
        have htq := ht
        unfold Tw at htq
        have h1024 : 2 ^ c ≤ 2 ^ 10 := Nat.pow_le_pow_right (by decide) okk.1
        have hw1 : cTw t I1 n r s rd := hw.fr (fun q q1 q2 => hf1 q (by omega))
        have hW1 : cWy t I1 n r rd C0 := hW.fr hn7 (fun q q1 q2 => hf1 q (by omega))
        have hgp := gates_pos (co := co) (ki := ki) (ag := ag) hset0 hset (fun x hx => by have := (okk.2.1 x hx).2.1; omega)
        have esv : startS r s rd C0 c co ki ag re (nI set) (nI a) (nI bl) (nI h) = soS r rd C0 (rdG set c co re) (pcG set c co ki ag) s a bl h := by
          unfold startS
          rw [nI_clamp (show a < 2 ^ 31 by omega), nI_clamp (show set < 2 ^ 31 by omega), nI_clamp (show bl < 2 ^ 31 by omega), nI_clamp (show h < 2 ^ 31 by omega)]
        obtain ⟨k, hk3, rfl⟩ := isB_of (h := 3) b12
        refine z_aload_n (n := 40) C 1 dX9_gate_39 rfl rfl ?_
        refine z_getR (n := 43) (q := 49) C K fF_RX9_47 dX9_gate_40 rfl rfl sh_0 (by decide) rfl ?_
        refine z_aload_n (n := 44) C 1 dX9_gate_43 rfl rfl ?_
        refine z_getR (n := 47) (q := t) C K fF_RX9_27 dX9_gate_44 rfl rfl sh_0 (by decide) rfl ?_
        refine z_iload_n (n := 48) C 3 dX9_gate_47 rfl rfl ?_
        refine z_iload_n (n := 49) C 4 dX9_gate_48 rfl rfl ?_
        refine z_iload (n := 51) C 5 dX9_gate_49 rfl rfl ?_
        refine z_vi_4 (n := 54) (d' := 5) C K dX9_gate_51 rfl yk_X2_findStart yv_X2_findStart kM_RX9_236 (by decide) hR0 rfl rfl sh_49 (by decide) (by decide) ?_
        refine c_X2_findStart ht hw1 ok hc hW1 hG1 hl1 (pcG_le set c co ki ag) (fun x hx => gatesOf_lt okk hx) hgp ha (fun g => rdG_le (fun x hx => (okk.2.1 x hx).2.2.2.2) g) hbl hh (hz.fr (hf1 54 (by decide)) rfl) (fun og2 I2 J2 hf2 hg2 hz2 hG2 hl2 hbo => ?_)
        have hle := soS_le (r := r) (rd := rd) (C := C0) (rdy := rdG set c co re) (pc := pcG set c co ki ag) (s := s) (a := a) (bell := bl) (h := h)
        refine z_bipush (n := 56) (v := (-9)) C dX9_gate_54 rfl rfl ?_
        refine z_icmp_eq (tgt := 74) (n := 59) C dX9_gate_56 rfl rfl (fun c56 => ?_) (fun c56 => ?_)
        · refine z_bipush (n := 76) (v := (-9)) C dX9_gate_74 rfl rfl ?_
          refine z_iret C E dX9_gate_76 ?_
          have hx := hS I2 J2 (by unfold gtR; rw [if_neg (fun q => q ⟨b2, b12⟩)]; exact hn) (fun x hx => by rw [hf2 x hx]; exact hf1 x (by omega)) hg2 hz2
          rw [esv, nI_clamp (show set < 2 ^ 31 by omega), nI_clamp (show k < 2 ^ 31 by omega)] at hx
          unfold gateV at hx
          rw [if_pos (Or.inl ((stI_eq (by omega)).mp c56))] at hx
          exact hx
        · refine z_iload (n := 61) C 6 dX9_gate_59 rfl rfl ?_
          refine z_aload_n (n := 62) C 1 dX9_gate_61 rfl rfl ?_
          refine z_getR (n := 65) (q := 49) C K fF_RX9_47 dX9_gate_62 rfl rfl sh_0 (by decide) rfl ?_
          refine z_getR (n := 68) (q := 50) C K fF_RX9_240 dX9_gate_65 rfl rfl sh_49 (by decide) rfl ?_
          refine z_getI (n := 71) C K fF_RX9_244 dX9_gate_68 rfl sh_50 (by decide) ?_
          rw [hG2.1, hl2]
          have hl7 := gL_len (pcG set c co ki ag) 7
          refine z_icmp_lt (tgt := 77) (n := 74) C dX9_gate_71 rfl rfl (fun c71 => ?_) (fun c71 => ?_)
          · rw [fa_lt, nI_toInt (by omega), nI_toInt (by omega)] at c71
            have hne : (soS r rd C0 (rdG set c co re) (pcG set c co ki ag) s a bl h).1 ≠ 0 := fun e => c56 ((stI_eq (by omega)).mpr e)
            refine z_aload_n (n := 78) C 1 dX9_gate_77 rfl rfl ?_
            refine z_getR (n := 81) (q := 49) C K fF_RX9_47 dX9_gate_78 rfl rfl sh_0 (by decide) rfl ?_
            refine z_getR (n := 84) (q := 56) C K fF_RX9_249 dX9_gate_81 rfl rfl sh_49 (by decide) rfl ?_
            refine z_iload (n := 86) C 6 dX9_gate_84 rfl rfl ?_
            refine z_ialdN (n := 87) C K k dX9_gate_86 rfl sh_56 (by decide) rfl (by omega) (by decide) ?_
            rw [hbo hne k (by omega), if_pos (by omega)]
            refine z_iret C E dX9_gate_87 ?_
            have hx := hS I2 J2 (by unfold gtR; rw [if_neg (fun q => q ⟨b2, b12⟩)]; exact hn) (fun x hx => by rw [hf2 x hx]; exact hf1 x (by omega)) hg2 hz2
            rw [esv, nI_clamp (show set < 2 ^ 31 by omega), nI_clamp (show k < 2 ^ 31 by omega)] at hx
            unfold gateV at hx
            rw [if_neg (fun q => q.elim hne (fun q => by omega))] at hx
            exact hx
          · refine z_bipush (n := 76) (v := (-9)) C dX9_gate_74 rfl rfl ?_
            refine z_iret C E dX9_gate_76 ?_
            have hx := hS I2 J2 (by unfold gtR; rw [if_neg (fun q => q ⟨b2, b12⟩)]; exact hn) (fun x hx => by rw [hf2 x hx]; exact hf1 x (by omega)) hg2 hz2
            rw [esv, nI_clamp (show set < 2 ^ 31 by omega), nI_clamp (show k < 2 ^ 31 by omega)] at hx
            unfold gateV at hx
            rw [fa_lt, nI_toInt (by omega), nI_toInt (by omega)] at c71
            rw [if_pos (Or.inr (by omega))] at hx
            exact hx
    · refine z_ifF_ne (n := 18) (tgt := 20) C (by decide) dX9_gate_15 rfl rfl ?_
      refine z_iconst (n := 19) (v := (-1)) C dX9_gate_18 rfl rfl ?_
      refine z_iret C E dX9_gate_19 ?_
      exact hR _ I (by unfold gtR; rw [if_pos (fun q => b12 q.2)]) (fun _ _ => rfl)
  · refine z_ifT_eq (tgt := 18) C (by decide) dX9_gate_5 rfl ?_
    refine z_iconst (n := 19) (v := (-1)) C dX9_gate_18 rfl rfl ?_
    refine z_iret C E dX9_gate_19 ?_
    exact hR _ I (by unfold gtR; rw [if_pos (fun q => b2 q.1)]) (fun _ _ => rfl)
