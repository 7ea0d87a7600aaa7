set_option maxHeartbeats 4000000 in
set_option maxRecDepth 100000 in
theorem c_X10_readStreets {ad : Nat → Nat} {I : KI} {J : KJ} {t : Nat} {b n : Nat} {cd : Nat → Int32} (hc : mcd I b cd n) {Q : Int32 → KI → KJ → KR → Prop} (hE : ∀ p I', txP cd n = .inl p → frM I I' → Q (nI p) I' J (rf t)) (hO : ∀ q I', txP cd n = .inr q → frM I I' → I' 85 15 = nI q.2.1 → I' 85 14 = nI q.1 → I' 85 16 = nI q.2.2.1 → rom I' q.2.1 q.2.2.2 → Q (-9) I' J (rf t)) : Mi 5 yX10_readStreets (wm yX10_readStreets cX10_readStreets 4 (some .int)) [.ref (ad 85), .int (nI b), .int (nI n)] ad I J (rf t) Q := by
  refine mi_of (own := RX10) yk_X10_readStreets rfl (Nat.le_of_ble_eq_true rfl) rfl (fun X hA hnL C K E => ?_)
  subst hA
  have hb := hc.1
  refine z_iload_n (n := 1) C 1 dX10_readStreets_0 rfl rfl ?_
  refine z_iload_n (n := 2) C 2 dX10_readStreets_1 rfl rfl ?_
  refine z_iadd (n := 3) C dX10_readStreets_2 rfl ?_
  rw [nI_add]
  refine z_istore_n (n := 4) (L' := [(3, _), (0, _), (1, _), (2, _)]) C dX10_readStreets_3 rfl (by rw [hnL]; decide) rfl ?_
  refine z_aload_n (n := 5) C 1 dX10_readStreets_4 rfl rfl ?_
  refine z_iconst (n := 6) (v := 0) C dX10_readStreets_5 rfl rfl ?_
  refine z_putI (n := 9) C K fF_RX10_121 dX10_readStreets_6 rfl sh_85 (by decide) ?_
  refine z_iload_n (n := 10) C 3 dX10_readStreets_9 rfl rfl ?_
  refine z_iconst (n := 11) (v := 1) C dX10_readStreets_10 rfl rfl ?_
  refine z_icmp_lt (tgt := 25) (n := 14) C dX10_readStreets_11 rfl rfl (fun c11 => ?_) (fun c11 => ?_)
  · refine z_iconst (n := 26) (v := 0) C dX10_readStreets_25 rfl rfl ?_
    refine z_iret C E dX10_readStreets_26 ?_
    rw [fa_lt, nI_toInt (by omega)] at c11
    simp only [Int32.reduceToInt] at c11
    exact hE 0 _ (by unfold txP; rw [if_pos (isCb_f.mpr (fun q => by have := q.1; omega))]) ((frM.rf I).u (by omega))
  · rw [fa_lt, nI_toInt (by omega)] at c11
    simp only [Int32.reduceToInt] at c11
    refine z_aload_n (n := 15) C 1 dX10_readStreets_14 rfl rfl ?_
    refine z_getR (n := 18) (q := 88) C K fF_RX10_16 dX10_readStreets_15 rfl rfl sh_85 (by decide) rfl ?_
    refine z_iload_n (n := 19) C 2 dX10_readStreets_18 rfl rfl ?_
    refine z_ialdN (n := 20) C K b dX10_readStreets_19 rfl sh_88 (by decide) rfl (by omega) (by decide) ?_
    rw [show upI I 85 15 0 88 b = cd 0 from hc.u.2 0 (by omega)]
    refine z_bipush (n := 22) (v := 110) C dX10_readStreets_20 rfl rfl ?_
    refine z_icmp_eq (tgt := 27) (n := 25) C dX10_readStreets_22 rfl rfl (fun c22 => ?_) (fun c22 => ?_)
    · have i110 : isCb cd n 0 110 = true := isCb_t.mpr ⟨by omega, c22⟩
      refine z_aload_n (n := 28) C 1 dX10_readStreets_27 rfl rfl ?_
      refine z_aload_n (n := 29) C 1 dX10_readStreets_28 rfl rfl ?_
      refine z_iload_n (n := 30) C 2 dX10_readStreets_29 rfl rfl ?_
      refine z_iconst (n := 31) (v := 1) C dX10_readStreets_30 rfl rfl ?_
      refine z_iadd (n := 32) C dX10_readStreets_31 rfl ?_
      refine z_iload_n (n := 33) C 0 dX10_readStreets_32 rfl rfl ?_
      refine z_vi_2 (n := 36) (d' := 2) C K dX10_readStreets_33 rfl yk_X10_digitAt yv_X10_digitAt kM_RX10_139 (by decide) hR0 rfl rfl sh_85 (by decide) (by decide) ?_
      rw [nI_1]
      refine c_X10_digitAt hc.u (a := 1) (by omega) rfl rfl (fun d33 => ?_) (fun d33 => ?_)
      · refine z_putI (n := 39) C K fF_RX10_118 dX10_readStreets_36 rfl sh_85 (by decide) ?_
        refine z_aload_n (n := 40) C 1 dX10_readStreets_39 rfl rfl ?_
        refine z_getI (n := 43) C K fF_RX10_118 dX10_readStreets_40 rfl sh_85 (by decide) ?_
        refine z_iconst (n := 44) (v := 2) C dX10_readStreets_43 rfl rfl ?_
        refine z_bipush (n := 46) (v := 7) C dX10_readStreets_44 rfl rfl ?_
        rw [upI_same]
        refine z_si_3 (n := 49) (d' := 1) C K dX10_readStreets_46 rfl yk_X10_within kT_yX10_within kM_RX10_92 (by decide) hR0 rfl ?_
        refine m_inB (lo := 2) (hi := 7) (by decide) (by decide) (fun b46 => ?_) (fun b46 => ?_)
        · refine z_ifT_ne (tgt := 54) C (by decide) dX10_readStreets_49 rfl ?_
          have v33 := (isDb_t.mp d33).v
          have n33 := (isDb_t.mp d33).1
          have l46 := b46.1
          have u46 := b46.2
          rw [nI_toInt (by omega)] at l46 u46
          have yd : isDb cd n 1 2 7 = true := (isDb_w (by decide)).mpr ⟨d33, by omega, by omega⟩
          refine z_aload_n (n := 55) C 1 dX10_readStreets_54 rfl rfl ?_
          refine z_iload_n (n := 56) C 2 dX10_readStreets_55 rfl rfl ?_
          refine z_iconst (n := 57) (v := 2) C dX10_readStreets_56 rfl rfl ?_
          refine z_iadd (n := 58) C dX10_readStreets_57 rfl ?_
          rw [show (2 : Int32) = nI 2 from rfl, nI_add]
          refine z_putI (n := 61) C K fF_RX10_142 dX10_readStreets_58 rfl sh_85 (by decide) ?_
          refine z_sub (L' := [(0, _), (1, _), (2, _), (3, _)]) [1, 2, 3, 0] rfl ?_
          exact l_X10_readStreets (J := J) (t := t) (I0 := I) (nc := dv cd 1) C K hnL E ⟨by omega, by omega⟩ (fun p I1 hp hf => hE p I1 (by unfold txP; rw [if_neg (by rw [i110]; decide), if_neg (by rw [yd]; decide), hp]) hf) (fun q I1 hp hf g1 g2 g3 g4 => hO (dv cd 1, q) I1 (by unfold txP; rw [if_neg (by rw [i110]; decide), if_neg (by rw [yd]; decide), hp]) hf g1 g2 g3 g4) 13 0 2 (fun _ _ => 0) _ (by omega) (by omega) rfl ((((frM.rf I).u (by omega)).u (by omega)).u (by omega)) hc.u.u.u ⟨upI_same _ _ _ _, by rw [upI_k _ _ (by decide), upI_k _ _ (by decide), upI_same]; rfl, by rw [upI_k _ _ (by decide), upI_same]⟩ (fun k hk => by omega) (by omega)
        · refine z_ifF_ne (n := 52) (tgt := 54) C (by decide) dX10_readStreets_49 rfl rfl ?_
          refine z_iconst (n := 53) (v := 1) C dX10_readStreets_52 rfl rfl ?_
          refine z_iret C E dX10_readStreets_53 ?_
          refine hE 1 _ (by
            unfold txP
            rw [if_neg (by rw [i110]; decide), if_pos ?_]
            cases hq : isDb cd n 1 2 7 with
            | false => rfl
            | true =>
              have h2 := (isDb_w (by decide)).mp hq
              exact absurd ⟨by rw [nI_toInt (by omega)]; omega, by rw [nI_toInt (by omega)]; omega⟩ b46) (((frM.rf I).u (by omega)).u (by omega))
      · refine z_putI (n := 39) C K fF_RX10_118 dX10_readStreets_36 rfl sh_85 (by decide) ?_
        refine z_aload_n (n := 40) C 1 dX10_readStreets_39 rfl rfl ?_
        refine z_getI (n := 43) C K fF_RX10_118 dX10_readStreets_40 rfl sh_85 (by decide) ?_
        refine z_iconst (n := 44) (v := 2) C dX10_readStreets_43 rfl rfl ?_
        refine z_bipush (n := 46) (v := 7) C dX10_readStreets_44 rfl rfl ?_
        rw [upI_same]
        refine z_si_3 (n := 49) (d' := 1) C K dX10_readStreets_46 rfl yk_X10_within kT_yX10_within kM_RX10_92 (by decide) hR0 rfl ?_
        refine m_inB (lo := 2) (hi := 7) (by decide) (by decide) (fun b46 => ?_) (fun b46 => ?_)
        · refine z_ifT_ne (tgt := 54) C (by decide) dX10_readStreets_49 rfl ?_
          exfalso
          have := b46.1
          have e9 : (-9 : Int32).toInt = -9 := by decide
          rw [e9] at this
          omega
        · refine z_ifF_ne (n := 52) (tgt := 54) C (by decide) dX10_readStreets_49 rfl rfl ?_
          refine z_iconst (n := 53) (v := 1) C dX10_readStreets_52 rfl rfl ?_
          refine z_iret C E dX10_readStreets_53 ?_
          refine hE 1 _ (by
            unfold txP
            rw [if_neg (by rw [i110]; decide), if_pos ?_]
            cases hq : isDb cd n 1 2 7 with
            | false => rfl
            | true =>
              have h2 := (isDb_w (by decide)).mp hq
              rw [h2.1] at d33; cases d33) (((frM.rf I).u (by omega)).u (by omega))
    · refine z_iconst (n := 26) (v := 0) C dX10_readStreets_25 rfl rfl ?_
      refine z_iret C E dX10_readStreets_26 ?_
      exact hE 0 _ (by unfold txP; rw [if_pos (isCb_f.mpr (fun q => c22 q.2))]) ((frM.rf I).u (by omega))
