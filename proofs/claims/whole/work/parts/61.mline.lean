set_option maxHeartbeats 4000000 in
set_option maxRecDepth 100000 in
theorem l_X10_cornersOf {X : KX} {t : Nat} (C : Cx X RX10 cX10_cornersOf 2) (K : Kx X) (hnL : xnL X = 4) {Q : Int32 → KI → KJ → KR → Prop} (E : Ei X .int Q) {I : KI} {J : KJ} {n : Nat} {c : Nat} {ki co ag re : Nat → Nat} {T : Nat → Nat → Nat} (hk : mKd I c ki co ag re T) (okk : okKd n c ki co ag re T) (hn7 : n ≤ 7) {set : Nat} (hset : set < 2 ^ 31) (hQ : Q (nI (cmS set co c)) I J (rf t)) : ∀ (f x : Nat), c - x < f → x ≤ c → Z X 0 0 (V X I J (rf t)) 4 [(3, .int (nI x)), (2, .int (nI (cmS set co x))), (0, .ref (xad X 85)), (1, .int (nI set))] [] := by
  intro f
  induction f with
  | zero => intro x h; omega
  | succ f ih =>
    intro x hf hi
    have hc10 := okk.1
    refine z_iload_n (n := 5) C 0 dX10_cornersOf_4 rfl rfl ?_
    refine z_aload_n (n := 6) C 2 dX10_cornersOf_5 rfl rfl ?_
    refine z_getI (n := 9) C K fF_RX10_133 dX10_cornersOf_6 rfl sh_85 (by decide) ?_
    rw [hk.1]
    refine z_icmp_ge (tgt := 41) (n := 12) C dX10_cornersOf_9 rfl rfl (fun c9 => ?_) (fun c9 => ?_)
    · refine z_iload_n (n := 42) C 1 dX10_cornersOf_41 rfl rfl ?_
      refine z_iret C E dX10_cornersOf_42 ?_
      rw [fa_le, nI_toInt (by omega), nI_toInt (by omega)] at c9
      have e : x = c := by omega
      subst e
      exact hQ
    · rw [fa_le, nI_toInt (by omega), nI_toInt (by omega)] at c9
      have hx : x < c := by omega
      have hco := (okk.2.1 x hx).2.1
      refine z_iload_n (n := 13) C 1 dX10_cornersOf_12 rfl rfl ?_
      refine z_iload_n (n := 14) C 3 dX10_cornersOf_13 rfl rfl ?_
      refine z_iload_n (n := 15) C 0 dX10_cornersOf_14 rfl rfl ?_
      refine z_si_2 (n := 18) (d' := 1) C K dX10_cornersOf_15 rfl yk_X10_has kT_yX10_has kM_RX10_178 (by decide) hR0 rfl ?_
      refine c_X10_has (by omega) (by omega) (fun b15 => ?_) (fun b15 => ?_)
      · refine z_ifF_eq (n := 21) (tgt := 32) C (by decide) dX10_cornersOf_18 rfl rfl ?_
        refine z_iconst (n := 22) (v := 1) C dX10_cornersOf_21 rfl rfl ?_
        refine z_aload_n (n := 23) C 2 dX10_cornersOf_22 rfl rfl ?_
        refine z_getR (n := 26) (q := 97) C K fF_RX10_43 dX10_cornersOf_23 rfl rfl sh_85 (by decide) rfl ?_
        refine z_iload_n (n := 27) C 0 dX10_cornersOf_26 rfl rfl ?_
        refine z_ialdN (n := 28) C K x dX10_cornersOf_27 rfl sh_97 (by decide) rfl (by omega) (by decide) ?_
        rw [(hk.2.1 x hx).2.1]
        refine z_ishl (n := 29) C dX10_cornersOf_28 rfl ?_
        rw [one_shl _ (by omega)]
        refine z_goto (n := 33) C dX10_cornersOf_29 rfl ?_
        have ec : cmS set co (x + 1) = cmS set co x ||| 2 ^ co x := by rw [cmS, if_pos b15]
        refine z_ior (n := 34) C dX10_cornersOf_33 rfl ?_
        rw [or_nI, ← ec]
        refine z_istore_n (n := 35) (L' := [(2, _), (3, _), (0, _), (1, _)]) C dX10_cornersOf_34 rfl (by rw [hnL]; decide) rfl ?_
        refine z_iincG (n := 38) (c := 1) (L' := [(3, _), (2, _), (0, _), (1, _)]) C 1 dX10_cornersOf_35 rfl rfl rfl (by rw [hnL]; decide) rfl ?_
        refine z_goto (n := 4) C dX10_cornersOf_38 rfl ?_
        rw [nI_1]
        exact ih (x + 1) (by omega) (by omega)
      · refine z_ifT_eq (tgt := 32) C (by decide) dX10_cornersOf_18 rfl ?_
        refine z_iconst (n := 33) (v := 0) C dX10_cornersOf_32 rfl rfl ?_
        have ec : cmS set co (x + 1) = cmS set co x ||| 0 := by rw [cmS, if_neg (fun q => by rw [b15] at q; cases q)]
        rw [show (0 : Int32) = nI 0 from rfl]
        refine z_ior (n := 34) C dX10_cornersOf_33 rfl ?_
        rw [or_nI, ← ec]
        refine z_istore_n (n := 35) (L' := [(2, _), (3, _), (0, _), (1, _)]) C dX10_cornersOf_34 rfl (by rw [hnL]; decide) rfl ?_
        refine z_iincG (n := 38) (c := 1) (L' := [(3, _), (2, _), (0, _), (1, _)]) C 1 dX10_cornersOf_35 rfl rfl rfl (by rw [hnL]; decide) rfl ?_
        refine z_goto (n := 4) C dX10_cornersOf_38 rfl ?_
        rw [nI_1]
        exact ih (x + 1) (by omega) (by omega)
set_option maxHeartbeats 4000000 in
set_option maxRecDepth 100000 in
theorem c_X10_cornersOf {ad : Nat → Nat} {I : KI} {J : KJ} {t : Nat} {n : Nat} {c : Nat} {ki co ag re : Nat → Nat} {T : Nat → Nat → Nat} (hk : mKd I c ki co ag re T) (okk : okKd n c ki co ag re T) (hn7 : n ≤ 7) {set : Nat} (hset : set < 2 ^ 31)  {Q : Int32 → KI → KJ → KR → Prop} (hQ : Q (nI (cmS set co c)) I J (rf t)) : Mi 2 yX10_cornersOf (wm yX10_cornersOf cX10_cornersOf 4 (some .int)) [.ref (ad 85), .int (nI set)] ad I J (rf t) Q := by
  refine mi_of (own := RX10) yk_X10_cornersOf rfl (Nat.le_of_ble_eq_true rfl) rfl (fun X hA hnL C K E => ?_)
  subst hA
  refine z_iconst (n := 1) (v := 0) C dX10_cornersOf_0 rfl rfl ?_
  refine z_istore_n (n := 2) (L' := [(2, _), (0, _), (1, _)]) C dX10_cornersOf_1 rfl (by rw [hnL]; decide) rfl ?_
  refine z_iconst (n := 3) (v := 0) C dX10_cornersOf_2 rfl rfl ?_
  refine z_istore_n (n := 4) (L' := [(3, _), (2, _), (0, _), (1, _)]) C dX10_cornersOf_3 rfl (by rw [hnL]; decide) rfl ?_
  exact l_X10_cornersOf C K hnL E hk okk hn7 hset hQ (c + 1) 0 (by omega) (by omega)
set_option maxHeartbeats 4000000 in
set_option maxRecDepth 100000 in
theorem l_X10_crossingsOf {X : KX} {t : Nat} (C : Cx X RX10 cX10_crossingsOf 2) (K : Kx X) (hnL : xnL X = 6) {Q : Int32 → KI → KJ → KR → Prop} (E : Ei X .int Q) {I : KI} {J : KJ} {n r s : Nat} {rd : Nat → Nat → Nat} (hw : mTw I n r s rd) (ok : okTw n r s rd) {C0 : Nat → Nat → Nat} (hc : okW n r rd C0) (hW : mWy I n C0) {og : List Nat} (hG : mGt I og) (hl7 : og.length ≤ 7) (hm : ∀ x, x ∈ og → x < n) {a : Nat} (ha : a < n) (h1 : wkL C0 (og ++ [s]) a = true → Q (nI (crL C0 (og ++ [s]) a)) I J (rf t)) (h0 : ¬ wkL C0 (og ++ [s]) a = true → Q (-9) I J (rf t)) : ∀ (f k x v : Nat), og.length + 1 - k < f → (k ≤ og.length + 1 ∧ x < n ∧ wkL C0 (og ++ [s]) a = wkL C0 ((og ++ [s]).drop k) x ∧ crL C0 (og ++ [s]) a = v + crL C0 ((og ++ [s]).drop k) x ∧ v ≤ 6 * k) → Z X 0 0 (V X I J (rf t)) 7 [(4, .int (nI k)), (3, .int (nI x)), (2, .int (nI v)), (0, .ref (xad X 85)), (1, .int (nI a))] [] := by
  intro f
  induction f with
  | zero => intro k x v h; omega
  | succ f ih =>
    intro k x v hf hi
    obtain ⟨hk1, hx, hWk, hCr, hv⟩ := hi
    have hn7 := ok.1
    have hrd : okRd n r rd := ok.2.2.2
    have e7 : (7 : Int32) = nI 7 := rfl
    have hsn : s < n := ok.2.2.1 (by omega)
    refine z_iload (n := 9) C 0 dX10_crossingsOf_7 rfl rfl ?_
    refine z_aload_n (n := 10) C 3 dX10_crossingsOf_9 rfl rfl ?_
    refine z_getI (n := 13) C K fF_RX10_181 dX10_crossingsOf_10 rfl sh_85 (by decide) ?_
    rw [hG.1]
    refine z_icmp_gt (tgt := 81) (n := 16) C dX10_crossingsOf_13 rfl rfl (fun c13 => ?_) (fun c13 => ?_)
    · refine z_iload_n (n := 82) C 2 dX10_crossingsOf_81 rfl rfl ?_
      refine z_iret C E dX10_crossingsOf_82 ?_
      rw [fa_lt, nI_toInt (by omega), nI_toInt (by omega)] at c13
      have ek : (og ++ [s]).drop k = [] := List.drop_eq_nil_of_le (by rw [List.length_append]; show og.length + 1 ≤ k; omega)
      rw [ek] at hWk hCr
      rw [crL] at hCr
      have h1 := h1 hWk
      rw [hCr] at h1
      exact h1
    · rw [fa_lt, nI_toInt (by omega), nI_toInt (by omega)] at c13
      have hk : k ≤ og.length := by omega
      have edr := drop_cons (l := og ++ [s]) (k := k) (by rw [List.length_append]; show k < og.length + 1; omega)
      have hy := getD_mem (l := og ++ [s]) (k := k) (by rw [List.length_append]; show k < og.length + 1; omega)
      have hya := getD_app (l := og) (k := k) (s := s) hk
      obtain ⟨y, ey⟩ : ∃ y, (og ++ [s]).getD k 0 = y := ⟨_, rfl⟩
      rw [ey] at edr hy hya
      have hyn : y < n := by
        rcases List.mem_append.mp hy with e | e
        · exact hm y e
        · rw [List.mem_singleton.mp e]; exact hsn
      refine z_iload (n := 18) C 0 dX10_crossingsOf_16 rfl rfl ?_
      refine z_aload_n (n := 19) C 3 dX10_crossingsOf_18 rfl rfl ?_
      refine z_getI (n := 22) C K fF_RX10_181 dX10_crossingsOf_19 rfl sh_85 (by decide) ?_
      rw [hG.1]
      refine z_icmp_ne (tgt := 32) (n := 25) C dX10_crossingsOf_22 rfl rfl (fun c22 => ?_) (fun c22 => ?_)
      · have ek : k < og.length := by have : k ≠ og.length := fun e => c22 (by rw [e]); omega
        rw [if_pos ek] at hya
        refine z_aload_n (n := 33) C 3 dX10_crossingsOf_32 rfl rfl ?_
        refine z_getR (n := 36) (q := 102) C K fF_RX10_59 dX10_crossingsOf_33 rfl rfl sh_85 (by decide) rfl ?_
        refine z_iload (n := 38) C 0 dX10_crossingsOf_36 rfl rfl ?_
        refine z_ialdN (n := 39) C K k dX10_crossingsOf_38 rfl sh_102 (by decide) rfl (by omega) (by decide) ?_
        rw [hG.2 k ek, ← hya]
        refine z_istore (n := 41) (L' := [(5, _), (4, _), (3, _), (2, _), (0, _), (1, _)]) C dX10_crossingsOf_39 rfl (by rw [hnL]; decide) rfl ?_
        refine z_aload_n (n := 42) C 4 dX10_crossingsOf_41 rfl rfl ?_
        refine z_iload_n (n := 43) C 2 dX10_crossingsOf_42 rfl rfl ?_
        refine z_iload (n := 45) C 0 dX10_crossingsOf_43 rfl rfl ?_
        refine z_vi_2 (n := 48) (d' := 1) C K dX10_crossingsOf_45 rfl yk_X10_isWay yv_X10_isWay kM_RX10_162 (by decide) hR0 rfl rfl sh_85 (by decide) (by decide) ?_
        refine c_X10_isWay hw ok hc hW hx hyn (fun b45 => ?_) (fun b45 => ?_)
        · refine z_ifT_ne (tgt := 54) C (by decide) dX10_crossingsOf_48 rfl ?_
          refine z_iload_n (n := 55) C 3 dX10_crossingsOf_54 rfl rfl ?_
          refine z_aload_n (n := 56) C 4 dX10_crossingsOf_55 rfl rfl ?_
          refine z_getR (n := 59) (q := 94) C K fF_RX10_34 dX10_crossingsOf_56 rfl rfl sh_85 (by decide) rfl ?_
          refine z_bipush (n := 61) (v := 7) C dX10_crossingsOf_59 rfl rfl ?_
          refine z_iload_n (n := 62) C 2 dX10_crossingsOf_61 rfl rfl ?_
          rw [e7]
          refine z_imul (n := 63) C dX10_crossingsOf_62 rfl ?_
          refine z_iload (n := 65) C 0 dX10_crossingsOf_63 rfl rfl ?_
          rw [mul_nI]
          refine z_iadd (n := 66) C dX10_crossingsOf_65 rfl ?_
          rw [nI_add]
          refine z_ialdN (n := 67) C K (7 * x + y) dX10_crossingsOf_66 rfl sh_94 (by decide) rfl (by omega) (by decide) ?_
          rw [hW.at hx hyn]
          refine z_bipush (n := 69) (v := 100) C dX10_crossingsOf_67 rfl rfl ?_
          refine z_irem (n := 70) C dX10_crossingsOf_69 rfl (by decide) ?_
          have g := cvS_way hn7 hrd hc hx hyn b45
          rw [show (100 : Int32) = nI 100 from rfl, pk_rem (by omega) (by decide) (by decide), show cvS (C0 x y) % 100 = C0 x y % 16 by omega]
          have hd6 := (okW_d6 hn7 hrd hc hx hyn b45).1
          refine z_iadd (n := 71) C dX10_crossingsOf_70 rfl ?_
          rw [nI_add]
          refine z_istore_n (n := 72) (L' := [(2, _), (5, _), (4, _), (3, _), (0, _), (1, _)]) C dX10_crossingsOf_71 rfl (by rw [hnL]; decide) rfl ?_
          refine z_iload (n := 74) C 1 dX10_crossingsOf_72 rfl rfl ?_
          refine z_istore_n (n := 75) (L' := [(3, _), (2, _), (5, _), (4, _), (0, _), (1, _)]) C dX10_crossingsOf_74 rfl (by rw [hnL]; decide) rfl ?_
          refine z_iincG (n := 78) (c := 1) (L' := [(4, _), (3, _), (2, _), (5, _), (0, _), (1, _)]) C 3 dX10_crossingsOf_75 rfl rfl rfl (by rw [hnL]; decide) rfl ?_
          refine z_goto (n := 7) C dX10_crossingsOf_78 rfl ?_
          refine z_sub (L' := [(4, _), (3, _), (2, _), (0, _), (1, _)]) [0, 1, 2, 4, 5] rfl ?_
          rw [nI_1]
          refine ih (k + 1) y (v + C0 x y % 16) (by omega) ⟨by omega, hyn, ?_, ?_, by omega⟩
          · rw [hWk, edr, wkL, decide_eq_true b45, Bool.true_and]
          · rw [hCr, edr, crL]; omega
        · refine z_ifF_ne (n := 51) (tgt := 54) C (by decide) dX10_crossingsOf_48 rfl rfl ?_
          refine z_bipush (n := 53) (v := (-9)) C dX10_crossingsOf_51 rfl rfl ?_
          refine z_iret C E dX10_crossingsOf_53 ?_
          exact h0 (fun q1 => by rw [hWk, edr, wkL, Bool.and_eq_true, decide_eq_true_eq] at q1; omega)
      · have ek : k = og.length := nI_inj c22 (by omega) (by omega)
        rw [if_neg (by omega)] at hya
        refine z_aload_n (n := 26) C 3 dX10_crossingsOf_25 rfl rfl ?_
        refine z_getI (n := 29) C K fF_RX10_130 dX10_crossingsOf_26 rfl sh_85 (by decide) ?_
        refine z_goto (n := 39) C dX10_crossingsOf_29 rfl ?_
        rw [hw.2.2.1, ← hya]
        refine z_istore (n := 41) (L' := [(5, _), (4, _), (3, _), (2, _), (0, _), (1, _)]) C dX10_crossingsOf_39 rfl (by rw [hnL]; decide) rfl ?_
        refine z_aload_n (n := 42) C 4 dX10_crossingsOf_41 rfl rfl ?_
        refine z_iload_n (n := 43) C 2 dX10_crossingsOf_42 rfl rfl ?_
        refine z_iload (n := 45) C 0 dX10_crossingsOf_43 rfl rfl ?_
        refine z_vi_2 (n := 48) (d' := 1) C K dX10_crossingsOf_45 rfl yk_X10_isWay yv_X10_isWay kM_RX10_162 (by decide) hR0 rfl rfl sh_85 (by decide) (by decide) ?_
        refine c_X10_isWay hw ok hc hW hx hyn (fun b45 => ?_) (fun b45 => ?_)
        · refine z_ifT_ne (tgt := 54) C (by decide) dX10_crossingsOf_48 rfl ?_
          refine z_iload_n (n := 55) C 3 dX10_crossingsOf_54 rfl rfl ?_
          refine z_aload_n (n := 56) C 4 dX10_crossingsOf_55 rfl rfl ?_
          refine z_getR (n := 59) (q := 94) C K fF_RX10_34 dX10_crossingsOf_56 rfl rfl sh_85 (by decide) rfl ?_
          refine z_bipush (n := 61) (v := 7) C dX10_crossingsOf_59 rfl rfl ?_
          refine z_iload_n (n := 62) C 2 dX10_crossingsOf_61 rfl rfl ?_
          rw [e7]
          refine z_imul (n := 63) C dX10_crossingsOf_62 rfl ?_
          refine z_iload (n := 65) C 0 dX10_crossingsOf_63 rfl rfl ?_
          rw [mul_nI]
          refine z_iadd (n := 66) C dX10_crossingsOf_65 rfl ?_
          rw [nI_add]
          refine z_ialdN (n := 67) C K (7 * x + y) dX10_crossingsOf_66 rfl sh_94 (by decide) rfl (by omega) (by decide) ?_
          rw [hW.at hx hyn]
          refine z_bipush (n := 69) (v := 100) C dX10_crossingsOf_67 rfl rfl ?_
          refine z_irem (n := 70) C dX10_crossingsOf_69 rfl (by decide) ?_
          have g := cvS_way hn7 hrd hc hx hyn b45
          rw [show (100 : Int32) = nI 100 from rfl, pk_rem (by omega) (by decide) (by decide), show cvS (C0 x y) % 100 = C0 x y % 16 by omega]
          have hd6 := (okW_d6 hn7 hrd hc hx hyn b45).1
          refine z_iadd (n := 71) C dX10_crossingsOf_70 rfl ?_
          rw [nI_add]
          refine z_istore_n (n := 72) (L' := [(2, _), (5, _), (4, _), (3, _), (0, _), (1, _)]) C dX10_crossingsOf_71 rfl (by rw [hnL]; decide) rfl ?_
          refine z_iload (n := 74) C 1 dX10_crossingsOf_72 rfl rfl ?_
          refine z_istore_n (n := 75) (L' := [(3, _), (2, _), (5, _), (4, _), (0, _), (1, _)]) C dX10_crossingsOf_74 rfl (by rw [hnL]; decide) rfl ?_
          refine z_iincG (n := 78) (c := 1) (L' := [(4, _), (3, _), (2, _), (5, _), (0, _), (1, _)]) C 3 dX10_crossingsOf_75 rfl rfl rfl (by rw [hnL]; decide) rfl ?_
          refine z_goto (n := 7) C dX10_crossingsOf_78 rfl ?_
          refine z_sub (L' := [(4, _), (3, _), (2, _), (0, _), (1, _)]) [0, 1, 2, 4, 5] rfl ?_
          rw [nI_1]
          refine ih (k + 1) y (v + C0 x y % 16) (by omega) ⟨by omega, hyn, ?_, ?_, by omega⟩
          · rw [hWk, edr, wkL, decide_eq_true b45, Bool.true_and]
          · rw [hCr, edr, crL]; omega
        · refine z_ifF_ne (n := 51) (tgt := 54) C (by decide) dX10_crossingsOf_48 rfl rfl ?_
          refine z_bipush (n := 53) (v := (-9)) C dX10_crossingsOf_51 rfl rfl ?_
          refine z_iret C E dX10_crossingsOf_53 ?_
          exact h0 (fun q1 => by rw [hWk, edr, wkL, Bool.and_eq_true, decide_eq_true_eq] at q1; omega)
set_option maxHeartbeats 4000000 in
set_option maxRecDepth 100000 in
theorem c_X10_crossingsOf {ad : Nat → Nat} {I : KI} {J : KJ} {t : Nat} {n r s : Nat} {rd : Nat → Nat → Nat} (hw : mTw I n r s rd) (ok : okTw n r s rd) {C0 : Nat → Nat → Nat} (hc : okW n r rd C0) (hW : mWy I n C0) {og : List Nat} (hG : mGt I og) (hl7 : og.length ≤ 7) (hm : ∀ x, x ∈ og → x < n) {a : Nat} (ha : a < n)  {Q : Int32 → KI → KJ → KR → Prop} (h1 : wkL C0 (og ++ [s]) a = true → Q (nI (crL C0 (og ++ [s]) a)) I J (rf t)) (h0 : ¬ wkL C0 (og ++ [s]) a = true → Q (-9) I J (rf t))  : Mi 2 yX10_crossingsOf (wm yX10_crossingsOf cX10_crossingsOf 6 (some .int)) [.ref (ad 85), .int (nI a)] ad I J (rf t) Q := by
  refine mi_of (own := RX10) yk_X10_crossingsOf rfl (Nat.le_of_ble_eq_true rfl) rfl (fun X hA hnL C K E => ?_)
  subst hA
  refine z_iconst (n := 1) (v := 0) C dX10_crossingsOf_0 rfl rfl ?_
  refine z_istore_n (n := 2) (L' := [(2, _), (0, _), (1, _)]) C dX10_crossingsOf_1 rfl (by rw [hnL]; decide) rfl ?_
  refine z_iload_n (n := 3) C 2 dX10_crossingsOf_2 rfl rfl ?_
  refine z_istore_n (n := 4) (L' := [(3, _), (2, _), (0, _), (1, _)]) C dX10_crossingsOf_3 rfl (by rw [hnL]; decide) rfl ?_
  refine z_iconst (n := 5) (v := 0) C dX10_crossingsOf_4 rfl rfl ?_
  refine z_istore (n := 7) (L' := [(4, _), (3, _), (2, _), (0, _), (1, _)]) C dX10_crossingsOf_5 rfl (by rw [hnL]; decide) rfl ?_
  exact l_X10_crossingsOf C K hnL E hw ok hc hW hG hl7 hm ha h1 h0 (og.length + 2) 0 a 0 (by omega) ⟨by omega, ha, rfl, by rw [List.drop_zero]; omega, by omega⟩
set_option maxHeartbeats 4000000 in
set_option maxRecDepth 100000 in
theorem la_X10_goLine {X : KX} {t : Nat} (C : Cx X RX10 cX10_goLine 4) (K : Kx X) (hnL : xnL X = 10) {I : KI} {J : KJ} {set a m N : Nat} (hN1 : N ≤ 7000) (hN : ∀ J1, (∀ q, q ≠ 101 → J1 q = J q) → (∀ i, i ≤ N → J1 101 i = 0) → Z X 0 0 (V X I J1 (rf t)) 30 [(0, .ref (xad X 85)), (1, .int (nI set)), (2, .int (nI a)), (3, .int (nI m)), (4, .int (nI N))] []) : ∀ (f d : Nat) (J1 : KJ), N + 1 - d < f → (d ≤ N + 1 ∧ (∀ q, q ≠ 101 → J1 q = J q) ∧ ∀ i, i < d → J1 101 i = 0) → Z X 0 0 (V X I J1 (rf t)) 9 [(5, .int (nI d)), (0, .ref (xad X 85)), (1, .int (nI set)), (2, .int (nI a)), (3, .int (nI m)), (4, .int (nI N))] [] := by
  intro f
  induction f with
  | zero => intro d J1 h; omega
  | succ f ih =>
    intro d J1 hf hi
    obtain ⟨hd, hfr, hz⟩ := hi
    refine z_iload (n := 11) C 0 dX10_goLine_9 rfl rfl ?_
    refine z_iload (n := 13) C 5 dX10_goLine_11 rfl rfl ?_
    refine z_icmp_gt (tgt := 30) (n := 16) C dX10_goLine_13 rfl rfl (fun c13 => ?_) (fun c13 => ?_)
    · refine z_sub (L' := [(0, _), (1, _), (2, _), (3, _), (4, _)]) [1, 2, 3, 4, 5] rfl ?_
      rw [fa_lt, nI_toInt (by omega), nI_toInt (by omega)] at c13
      exact hN J1 hfr (fun i hi => hz i (by omega))
    · rw [fa_lt, nI_toInt (by omega), nI_toInt (by omega)] at c13
      refine z_aload_n (n := 17) C 1 dX10_goLine_16 rfl rfl ?_
      refine z_getR (n := 20) (q := 101) C K fF_RX10_55 dX10_goLine_17 rfl rfl sh_85 (by decide) rfl ?_
      refine z_iload (n := 22) C 0 dX10_goLine_20 rfl rfl ?_
      refine z_lconst (n := 23) (v := 0) C dX10_goLine_22 rfl rfl ?_
      refine z_lastN (n := 24) C K d dX10_goLine_23 rfl sh_101 (by decide) rfl (by omega) (by decide) ?_
      refine z_iincG (n := 27) (c := 1) (L' := [(5, _), (0, _), (1, _), (2, _), (3, _), (4, _)]) C 0 dX10_goLine_24 rfl rfl rfl (by rw [hnL]; decide) rfl ?_
      refine z_goto (n := 9) C dX10_goLine_27 rfl ?_
      rw [nI_1]
      exact ih (d + 1) _ (by omega) ⟨by omega, fun q hq => by rw [upJ_row _ _ hq]; exact hfr q hq, fun i hi => by
        by_cases e : i = d
        · rw [e, upJ_same]
        · rw [upJ_k _ _ e]; exact hz i (by omega)⟩
set_option maxHeartbeats 4000000 in
set_option maxRecDepth 100000 in
theorem lb_X10_goLine {X : KX} {t : Nat} (C : Cx X RX10 cX10_goLine 4) (K : Kx X) (hnL : xnL X = 10) {I : KI} {J : KJ} {n c : Nat} {ki co ag re : Nat → Nat} {T : Nat → Nat → Nat} (hk : mKd I c ki co ag re T) (okk : okKd n c ki co ag re T) (hn7 : n ≤ 7) {set a m N g p k : Nat} (hset : set < 2 ^ 31) (hp : p ≤ 4) (hg : g < 7) (hN : Z X 0 0 (V X I J (rf t)) 185 [(8, .int (nI (rdG set c co re g))), (6, .int (nI (max p (pcG set c co ki ag g)))), (5, .int (nI g)), (7, .int (nI k)), (0, .ref (xad X 85)), (1, .int (nI set)), (2, .int (nI a)), (3, .int (nI m)), (4, .int (nI N))] []) : ∀ (f i rv pv : Nat), c - i < f → (i ≤ c ∧ rv = mxS (atS set co g) re i ∧ pv = max p (mxS (atS set co g) (fun x => paceS (ki x) (ag x)) i)) → Z X 0 0 (V X I J (rf t)) 96 [(9, .int (nI i)), (8, .int (nI rv)), (6, .int (nI pv)), (5, .int (nI g)), (7, .int (nI k)), (0, .ref (xad X 85)), (1, .int (nI set)), (2, .int (nI a)), (3, .int (nI m)), (4, .int (nI N))] [] := by
  intro f
  induction f with
  | zero => intro i rv pv h; omega
  | succ f ih =>
    intro i rv pv hf hi
    obtain ⟨hic, hrv, hpv⟩ := hi
    have hc10 := okk.1
    have hr60 : mxS (atS set co g) re i ≤ 60 := mxS_le i (fun y hy _ => (okk.2.1 y (by omega)).2.2.2.2)
    have hp4 : mxS (atS set co g) (fun x => paceS (ki x) (ag x)) i ≤ 4 := mxS_le i (fun y hy _ => (paceS_b _ _).2)
    refine z_iload (n := 98) C 0 dX10_goLine_96 rfl rfl ?_
    refine z_aload_n (n := 99) C 5 dX10_goLine_98 rfl rfl ?_
    refine z_getI (n := 102) C K fF_RX10_133 dX10_goLine_99 rfl sh_85 (by decide) ?_
    rw [hk.1]
    refine z_icmp_ge (tgt := 185) (n := 105) C dX10_goLine_102 rfl rfl (fun c102 => ?_) (fun c102 => ?_)
    · refine z_sub (L' := [(8, _), (6, _), (5, _), (7, _), (0, _), (1, _), (2, _), (3, _), (4, _)]) [1, 2, 3, 4, 5, 6, 7, 8, 9] rfl ?_
      rw [fa_le, nI_toInt (by omega), nI_toInt (by omega)] at c102
      have e : i = c := by omega
      subst e
      subst hrv
      subst hpv
      exact hN
    · rw [fa_le, nI_toInt (by omega), nI_toInt (by omega)] at c102
      have hi : i < c := by omega
      have hz := hk.2.1 i hi
      have hb := okk.2.1 i hi
      have hb4 := (paceS_b (ki i) (ag i)).2
      refine z_iload_n (n := 106) C 6 dX10_goLine_105 rfl rfl ?_
      refine z_iload (n := 108) C 0 dX10_goLine_106 rfl rfl ?_
      refine z_si_2 (n := 111) (d' := 1) C K dX10_goLine_108 rfl yk_X10_has kT_yX10_has kM_RX10_178 (by decide) hR0 rfl ?_
      refine c_X10_has (by omega) (by omega) (fun b108 => ?_) (fun b108 => ?_)
      · refine z_ifF_eq (n := 114) (tgt := 179) C (by decide) dX10_goLine_111 rfl rfl ?_
        refine z_aload_n (n := 115) C 5 dX10_goLine_114 rfl rfl ?_
        refine z_getR (n := 118) (q := 97) C K fF_RX10_43 dX10_goLine_115 rfl rfl sh_85 (by decide) rfl ?_
        refine z_iload (n := 120) C 0 dX10_goLine_118 rfl rfl ?_
        refine z_ialdN (n := 121) C K i dX10_goLine_120 rfl sh_97 (by decide) rfl (by omega) (by decide) ?_
        rw [hz.2.1]
        refine z_iload (n := 123) C 3 dX10_goLine_121 rfl rfl ?_
        refine z_icmp_eq (tgt := 129) (n := 126) C dX10_goLine_123 rfl rfl (fun c123 => ?_) (fun c123 => ?_)
        · have hat : atS set co g i = true := atS_t b108 (nI_inj c123 (by omega) (by omega))
          refine z_aload_n (n := 130) C 5 dX10_goLine_129 rfl rfl ?_
          refine z_getR (n := 133) (q := 99) C K fF_RX10_49 dX10_goLine_130 rfl rfl sh_85 (by decide) rfl ?_
          refine z_iload (n := 135) C 0 dX10_goLine_133 rfl rfl ?_
          refine z_ialdN (n := 136) C K i dX10_goLine_135 rfl sh_99 (by decide) rfl (by omega) (by decide) ?_
          rw [hz.2.2.2]
          refine z_iload (n := 138) C 1 dX10_goLine_136 rfl rfl ?_
          refine z_icmp_le (tgt := 151) (n := 141) C dX10_goLine_138 rfl rfl (fun c138 => ?_) (fun c138 => ?_)
          · rw [fa_le, nI_toInt (by omega), nI_toInt (by omega)] at c138
            refine z_iload (n := 153) C 1 dX10_goLine_151 rfl rfl ?_
            refine z_istore (n := 155) (L' := [(8, _), (9, _), (6, _), (5, _), (7, _), (0, _), (1, _), (2, _), (3, _), (4, _)]) C dX10_goLine_153 rfl (by rw [hnL]; decide) rfl ?_
            refine z_aload_n (n := 156) C 5 dX10_goLine_155 rfl rfl ?_
            refine z_iload (n := 158) C 1 dX10_goLine_156 rfl rfl ?_
            refine z_vi_1 (n := 161) (d' := 1) C K dX10_goLine_158 rfl yk_X10_paceOf yv_X10_paceOf kM_RX10_172 (by decide) hR0 rfl rfl sh_85 (by decide) (by decide) ?_
            refine c_X10_paceOf (by omega) hz.1 hz.2.2.1 hb.1 (by omega) ?_
            refine z_iload (n := 163) C 2 dX10_goLine_161 rfl rfl ?_
            refine z_icmp_le (tgt := 175) (n := 166) C dX10_goLine_163 rfl rfl (fun c163 => ?_) (fun c163 => ?_)
            · rw [fa_le, nI_toInt (by omega), nI_toInt (by omega)] at c163
              refine z_iload (n := 177) C 2 dX10_goLine_175 rfl rfl ?_
              refine z_istore (n := 179) (L' := [(6, _), (8, _), (9, _), (5, _), (7, _), (0, _), (1, _), (2, _), (3, _), (4, _)]) C dX10_goLine_177 rfl (by rw [hnL]; decide) rfl ?_
              refine z_iincG (n := 182) (c := 1) (L' := [(9, _), (6, _), (8, _), (5, _), (7, _), (0, _), (1, _), (2, _), (3, _), (4, _)]) C 2 dX10_goLine_179 rfl rfl rfl (by rw [hnL]; decide) rfl ?_
              refine z_goto (n := 96) C dX10_goLine_182 rfl ?_
              refine z_sub (L' := [(9, _), (8, _), (6, _), (5, _), (7, _), (0, _), (1, _), (2, _), (3, _), (4, _)]) [0, 2, 1, 3, 4, 5, 6, 7, 8, 9] rfl ?_
              rw [nI_1]
              have e1 : mxS (atS set co g) re (i + 1) = max (mxS (atS set co g) re i) (re i) := mxS_max hat
              have e2 : mxS (atS set co g) (fun x => paceS (ki x) (ag x)) (i + 1) = max (mxS (atS set co g) (fun x => paceS (ki x) (ag x)) i) (paceS (ki i) (ag i)) := mxS_max hat
              refine ih (i + 1) _ _ (by omega) ⟨by omega, ?_, ?_⟩
              · rw [e1]; omega
              · rw [e2]; omega
            · rw [fa_le, nI_toInt (by omega), nI_toInt (by omega)] at c163
              refine z_aload_n (n := 167) C 5 dX10_goLine_166 rfl rfl ?_
              refine z_iload (n := 169) C 1 dX10_goLine_167 rfl rfl ?_
              refine z_vi_1 (n := 172) (d' := 1) C K dX10_goLine_169 rfl yk_X10_paceOf yv_X10_paceOf kM_RX10_172 (by decide) hR0 rfl rfl sh_85 (by decide) (by decide) ?_
              refine c_X10_paceOf (by omega) hz.1 hz.2.2.1 hb.1 (by omega) ?_
              refine z_goto (n := 177) C dX10_goLine_172 rfl ?_
              refine z_istore (n := 179) (L' := [(6, _), (8, _), (9, _), (5, _), (7, _), (0, _), (1, _), (2, _), (3, _), (4, _)]) C dX10_goLine_177 rfl (by rw [hnL]; decide) rfl ?_
              refine z_iincG (n := 182) (c := 1) (L' := [(9, _), (6, _), (8, _), (5, _), (7, _), (0, _), (1, _), (2, _), (3, _), (4, _)]) C 2 dX10_goLine_179 rfl rfl rfl (by rw [hnL]; decide) rfl ?_
              refine z_goto (n := 96) C dX10_goLine_182 rfl ?_
              refine z_sub (L' := [(9, _), (8, _), (6, _), (5, _), (7, _), (0, _), (1, _), (2, _), (3, _), (4, _)]) [0, 2, 1, 3, 4, 5, 6, 7, 8, 9] rfl ?_
              rw [nI_1]
              have e1 : mxS (atS set co g) re (i + 1) = max (mxS (atS set co g) re i) (re i) := mxS_max hat
              have e2 : mxS (atS set co g) (fun x => paceS (ki x) (ag x)) (i + 1) = max (mxS (atS set co g) (fun x => paceS (ki x) (ag x)) i) (paceS (ki i) (ag i)) := mxS_max hat
              refine ih (i + 1) _ _ (by omega) ⟨by omega, ?_, ?_⟩
              · rw [e1]; omega
              · rw [e2]; omega
          · rw [fa_le, nI_toInt (by omega), nI_toInt (by omega)] at c138
            refine z_aload_n (n := 142) C 5 dX10_goLine_141 rfl rfl ?_
            refine z_getR (n := 145) (q := 99) C K fF_RX10_49 dX10_goLine_142 rfl rfl sh_85 (by decide) rfl ?_
            refine z_iload (n := 147) C 0 dX10_goLine_145 rfl rfl ?_
            refine z_ialdN (n := 148) C K i dX10_goLine_147 rfl sh_99 (by decide) rfl (by omega) (by decide) ?_
            rw [hz.2.2.2]
            refine z_goto (n := 153) C dX10_goLine_148 rfl ?_
            refine z_istore (n := 155) (L' := [(8, _), (9, _), (6, _), (5, _), (7, _), (0, _), (1, _), (2, _), (3, _), (4, _)]) C dX10_goLine_153 rfl (by rw [hnL]; decide) rfl ?_
            refine z_aload_n (n := 156) C 5 dX10_goLine_155 rfl rfl ?_
            refine z_iload (n := 158) C 1 dX10_goLine_156 rfl rfl ?_
            refine z_vi_1 (n := 161) (d' := 1) C K dX10_goLine_158 rfl yk_X10_paceOf yv_X10_paceOf kM_RX10_172 (by decide) hR0 rfl rfl sh_85 (by decide) (by decide) ?_
            refine c_X10_paceOf (by omega) hz.1 hz.2.2.1 hb.1 (by omega) ?_
            refine z_iload (n := 163) C 2 dX10_goLine_161 rfl rfl ?_
            refine z_icmp_le (tgt := 175) (n := 166) C dX10_goLine_163 rfl rfl (fun c163 => ?_) (fun c163 => ?_)
            · rw [fa_le, nI_toInt (by omega), nI_toInt (by omega)] at c163
              refine z_iload (n := 177) C 2 dX10_goLine_175 rfl rfl ?_
              refine z_istore (n := 179) (L' := [(6, _), (8, _), (9, _), (5, _), (7, _), (0, _), (1, _), (2, _), (3, _), (4, _)]) C dX10_goLine_177 rfl (by rw [hnL]; decide) rfl ?_
              refine z_iincG (n := 182) (c := 1) (L' := [(9, _), (6, _), (8, _), (5, _), (7, _), (0, _), (1, _), (2, _), (3, _), (4, _)]) C 2 dX10_goLine_179 rfl rfl rfl (by rw [hnL]; decide) rfl ?_
              refine z_goto (n := 96) C dX10_goLine_182 rfl ?_
              refine z_sub (L' := [(9, _), (8, _), (6, _), (5, _), (7, _), (0, _), (1, _), (2, _), (3, _), (4, _)]) [0, 2, 1, 3, 4, 5, 6, 7, 8, 9] rfl ?_
              rw [nI_1]
              have e1 : mxS (atS set co g) re (i + 1) = max (mxS (atS set co g) re i) (re i) := mxS_max hat
              have e2 : mxS (atS set co g) (fun x => paceS (ki x) (ag x)) (i + 1) = max (mxS (atS set co g) (fun x => paceS (ki x) (ag x)) i) (paceS (ki i) (ag i)) := mxS_max hat
              refine ih (i + 1) _ _ (by omega) ⟨by omega, ?_, ?_⟩
              · rw [e1]; omega
              · rw [e2]; omega
            · rw [fa_le, nI_toInt (by omega), nI_toInt (by omega)] at c163
              refine z_aload_n (n := 167) C 5 dX10_goLine_166 rfl rfl ?_
              refine z_iload (n := 169) C 1 dX10_goLine_167 rfl rfl ?_
              refine z_vi_1 (n := 172) (d' := 1) C K dX10_goLine_169 rfl yk_X10_paceOf yv_X10_paceOf kM_RX10_172 (by decide) hR0 rfl rfl sh_85 (by decide) (by decide) ?_
              refine c_X10_paceOf (by omega) hz.1 hz.2.2.1 hb.1 (by omega) ?_
              refine z_goto (n := 177) C dX10_goLine_172 rfl ?_
              refine z_istore (n := 179) (L' := [(6, _), (8, _), (9, _), (5, _), (7, _), (0, _), (1, _), (2, _), (3, _), (4, _)]) C dX10_goLine_177 rfl (by rw [hnL]; decide) rfl ?_
              refine z_iincG (n := 182) (c := 1) (L' := [(9, _), (6, _), (8, _), (5, _), (7, _), (0, _), (1, _), (2, _), (3, _), (4, _)]) C 2 dX10_goLine_179 rfl rfl rfl (by rw [hnL]; decide) rfl ?_
              refine z_goto (n := 96) C dX10_goLine_182 rfl ?_
              refine z_sub (L' := [(9, _), (8, _), (6, _), (5, _), (7, _), (0, _), (1, _), (2, _), (3, _), (4, _)]) [0, 2, 1, 3, 4, 5, 6, 7, 8, 9] rfl ?_
              rw [nI_1]
              have e1 : mxS (atS set co g) re (i + 1) = max (mxS (atS set co g) re i) (re i) := mxS_max hat
              have e2 : mxS (atS set co g) (fun x => paceS (ki x) (ag x)) (i + 1) = max (mxS (atS set co g) (fun x => paceS (ki x) (ag x)) i) (paceS (ki i) (ag i)) := mxS_max hat
              refine ih (i + 1) _ _ (by omega) ⟨by omega, ?_, ?_⟩
              · rw [e1]; omega
              · rw [e2]; omega
        · refine z_goto (n := 179) C dX10_goLine_126 rfl ?_
          refine z_iincG (n := 182) (c := 1) (L' := [(9, _), (8, _), (6, _), (5, _), (7, _), (0, _), (1, _), (2, _), (3, _), (4, _)]) C 0 dX10_goLine_179 rfl rfl rfl (by rw [hnL]; decide) rfl ?_
          refine z_goto (n := 96) C dX10_goLine_182 rfl ?_
          rw [nI_1]
          exact ih (i + 1) _ _ (by omega) ⟨by omega, by rw [mxS_skip (atS_f (Or.inr (fun e => c123 (by rw [e]))))]; exact hrv, by rw [mxS_skip (atS_f (Or.inr (fun e => c123 (by rw [e]))))]; exact hpv⟩
      · refine z_ifT_eq (tgt := 179) C (by decide) dX10_goLine_111 rfl ?_
        refine z_iincG (n := 182) (c := 1) (L' := [(9, _), (8, _), (6, _), (5, _), (7, _), (0, _), (1, _), (2, _), (3, _), (4, _)]) C 0 dX10_goLine_179 rfl rfl rfl (by rw [hnL]; decide) rfl ?_
        refine z_goto (n := 96) C dX10_goLine_182 rfl ?_
        rw [nI_1]
        exact ih (i + 1) _ _ (by omega) ⟨by omega, by rw [mxS_skip (atS_f (Or.inl b108))]; exact hrv, by rw [mxS_skip (atS_f (Or.inl b108))]; exact hpv⟩
set_option maxHeartbeats 4000000 in
set_option maxRecDepth 100000 in
theorem lc_X10_goLine {X : KX} {t : Nat} (C : Cx X RX10 cX10_goLine 4) (K : Kx X) (hnL : xnL X = 10) {Q : KI → KJ → KR → Prop} (E : Ev X Q) {I : KI} {J : KJ} {n r s : Nat} {rd : Nat → Nat → Nat} (hw : mTw I n r s rd) (ok : okTw n r s rd) {C0 : Nat → Nat → Nat} (hc : okW n r rd C0) (hW : mWy I n C0) {c : Nat} {ki co ag re : Nat → Nat} {T : Nat → Nat → Nat} (hk : mKd I c ki co ag re T) (okk : okKd n c ki co ag re T) {og : List Nat} (hG : mGt I og) (hl7 : og.length ≤ 7) (hm : ∀ x, x ∈ og → x < n) {set a m N : Nat} (hN : I 85 28 = nI N) (hset : set < 2 ^ 31) (ha : a < n) (hwk : wkL C0 (og ++ [s]) a = true) (hN1 : N ≤ 7000) (hm2 : m ≤ 200) (hQ : ∀ J', (∀ q, q ≠ 101 → J' q = J q) → mCh J' N (stpL r rd C0 (rdG set c co re) (pcG set c co ki ag) s og a 1) m → Q I J' (rf t)) : ∀ (f k x v : Nat) (J1 : KJ) (P1 : List St), og.length + 1 - k < f → (k ≤ og.length ∧ x < n ∧ 1 ≤ v ∧ v ≤ 4 ∧ wkL C0 ((og ++ [s]).drop k) x = true ∧ (∀ q, q ≠ 101 → J1 q = J q) ∧ mCh J1 N P1 m ∧ P1 ++ stpL r rd C0 (rdG set c co re) (pcG set c co ki ag) s (og.drop k) x v = stpL r rd C0 (rdG set c co re) (pcG set c co ki ag) s og a 1) → Z X 0 0 (V X I J1 (rf t)) 57 [(7, .int (nI k)), (6, .int (nI v)), (5, .int (nI x)), (0, .ref (xad X 85)), (1, .int (nI set)), (2, .int (nI a)), (3, .int (nI m)), (4, .int (nI N))] [] := by
  intro f
  induction f with
  | zero => intro k x v J1 P1 h; omega
  | succ f ih =>
    intro k x v J1 P1 hf hi

    obtain ⟨hk1, hx, hv1, hv, hWk, hfJ, hM, hF⟩ := hi
    have hn7 := ok.1
    have hsn : s < n := ok.2.2.1 (by omega)
    have hrG := rdG_le (set := set) (c := c) (co := co) (re := re) (fun x hx => (okk.2.1 x hx).2.2.2.2)
    have hpG := pcG_le set c co ki ag
    refine z_iload (n := 59) C 0 dX10_goLine_57 rfl rfl ?_
    refine z_aload_n (n := 60) C 3 dX10_goLine_59 rfl rfl ?_
    refine z_getI (n := 63) C K fF_RX10_181 dX10_goLine_60 rfl sh_85 (by decide) ?_
    rw [hG.1]
    have edr := drop_cons (l := og ++ [s]) (k := k) (by rw [List.length_append]; show k < og.length + 1; omega)
    have hya := getD_app (l := og) (k := k) (s := s) hk1
    refine z_icmp_ge (tgt := 197) (n := 66) C dX10_goLine_63 rfl rfl (fun c63 => ?_) (fun c63 => ?_)
    · rw [fa_le, nI_toInt (by omega), nI_toInt (by omega)] at c63
      have hkl : k = og.length := by omega
      subst hkl
      rw [if_neg (by omega)] at hya
      rw [List.drop_eq_nil_of_le (Nat.le_refl _), stpL] at hF
      rw [edr, hya, wkL, Bool.and_eq_true, decide_eq_true_eq] at hWk
      refine z_aload_n (n := 198) C 3 dX10_goLine_197 rfl rfl ?_
      refine z_iload (n := 200) C 2 dX10_goLine_198 rfl rfl ?_
      refine z_aload_n (n := 201) C 3 dX10_goLine_200 rfl rfl ?_
      refine z_getI (n := 204) C K fF_RX10_130 dX10_goLine_201 rfl sh_85 (by decide) ?_
      rw [hw.2.2.1]
      refine z_iload (n := 206) C 1 dX10_goLine_204 rfl rfl ?_
      refine z_vv_3 (n := 209) (d' := 3) C K dX10_goLine_206 rfl yk_X10_goWay yv_X10_goWay kM_RX10_197 (by decide) hR0 rfl rfl sh_85 (by decide) (by decide) ?_
      refine c_X10_goWay hw ok hc hW hsn hv1 hv hN hN1 hM hx hWk.1 hF (fun J2 hg2 hM2 => ?_)
      refine z_vret C E dX10_goLine_209 ?_
      exact hQ J2 (fun q q1 => by rw [hg2 q q1]; exact hfJ q q1) hM2
    · rw [fa_le, nI_toInt (by omega), nI_toInt (by omega)] at c63
      have hkl : k < og.length := by omega
      have hgn := hm _ (getD_mem hkl)
      rw [if_pos hkl] at hya
      obtain ⟨g, eg⟩ : ∃ g, og.getD k 0 = g := ⟨_, rfl⟩
      rw [drop_cons hkl, stpL, eg] at hF
      rw [hya, eg] at edr
      rw [edr, wkL, Bool.and_eq_true, decide_eq_true_eq] at hWk
      rw [eg] at hgn
      refine z_aload_n (n := 67) C 3 dX10_goLine_66 rfl rfl ?_
      refine z_iload (n := 69) C 2 dX10_goLine_67 rfl rfl ?_
      refine z_aload_n (n := 70) C 3 dX10_goLine_69 rfl rfl ?_
      refine z_getR (n := 73) (q := 102) C K fF_RX10_59 dX10_goLine_70 rfl rfl sh_85 (by decide) rfl ?_
      refine z_iload (n := 75) C 0 dX10_goLine_73 rfl rfl ?_
      refine z_ialdN (n := 76) C K k dX10_goLine_75 rfl sh_102 (by decide) rfl (by omega) (by decide) ?_
      rw [hG.2 k hkl, eg]
      refine z_iload (n := 78) C 1 dX10_goLine_76 rfl rfl ?_
      refine z_vv_3 (n := 81) (d' := 3) C K dX10_goLine_78 rfl yk_X10_goWay yv_X10_goWay kM_RX10_197 (by decide) hR0 rfl rfl sh_85 (by decide) (by decide) ?_
      refine c_X10_goWay hw ok hc hW hgn hv1 hv hN hN1 hM hx hWk.1 rfl (fun J2 hg2 hM2 => ?_)
      refine z_aload_n (n := 82) C 3 dX10_goLine_81 rfl rfl ?_
      refine z_getR (n := 85) (q := 102) C K fF_RX10_59 dX10_goLine_82 rfl rfl sh_85 (by decide) rfl ?_
      refine z_iload (n := 87) C 0 dX10_goLine_85 rfl rfl ?_
      refine z_ialdN (n := 88) C K k dX10_goLine_87 rfl sh_102 (by decide) rfl (by omega) (by decide) ?_
      rw [hG.2 k hkl, eg]
      refine z_istore (n := 90) (L' := [(5, _), (7, _), (6, _), (0, _), (1, _), (2, _), (3, _), (4, _)]) C dX10_goLine_88 rfl (by rw [hnL]; decide) rfl ?_
      refine z_iconst (n := 91) (v := 0) C dX10_goLine_90 rfl rfl ?_
      refine z_istore (n := 93) (L' := [(8, _), (5, _), (7, _), (6, _), (0, _), (1, _), (2, _), (3, _), (4, _)]) C dX10_goLine_91 rfl (by rw [hnL]; decide) rfl ?_
      refine z_iconst (n := 94) (v := 0) C dX10_goLine_93 rfl rfl ?_
      refine z_istore (n := 96) (L' := [(9, _), (8, _), (5, _), (7, _), (6, _), (0, _), (1, _), (2, _), (3, _), (4, _)]) C dX10_goLine_94 rfl (by rw [hnL]; decide) rfl ?_
      refine z_sub (L' := [(9, _), (8, _), (6, _), (5, _), (7, _), (0, _), (1, _), (2, _), (3, _), (4, _)]) [0, 1, 4, 2, 3, 5, 6, 7, 8, 9] rfl ?_
      refine lb_X10_goLine C K hnL hk okk hn7 hset hv (by omega) ?_ (c + 1) 0 0 v (by omega) ⟨by omega, rfl, by show v = max v 0; omega⟩
      refine z_aload_n (n := 186) C 4 dX10_goLine_185 rfl rfl ?_
      refine z_iload (n := 188) C 0 dX10_goLine_186 rfl rfl ?_
      refine z_vv_1 (n := 191) (d' := 1) C K dX10_goLine_188 rfl yk_X10_waitTill yv_X10_waitTill kM_RX10_201 (by decide) hR0 rfl rfl sh_85 (by decide) (by decide) ?_
      have hp4 := hpG g
      refine c_X10_waitTill hM2 hN hN1 (hrG g) (fun J3 hg3 hM3 => ?_)
      refine z_iincG (n := 194) (c := 1) (L' := [(7, _), (8, _), (6, _), (5, _), (0, _), (1, _), (2, _), (3, _), (4, _)]) C 3 dX10_goLine_191 rfl rfl rfl (by rw [hnL]; decide) rfl ?_
      refine z_goto (n := 57) C dX10_goLine_194 rfl ?_
      refine z_sub (L' := [(7, _), (6, _), (5, _), (0, _), (1, _), (2, _), (3, _), (4, _)]) [0, 2, 3, 4, 5, 6, 7, 8] rfl ?_
      rw [nI_1]
      exact ih (k + 1) g (max v (pcG set c co ki ag g)) _ _ (by omega) ⟨by omega, hgn, by omega, by omega, hWk.2, fun q q1 => by rw [hg3 q q1, hg2 q q1]; exact hfJ q q1, hM3, by rw [← hF]; simp⟩
set_option maxHeartbeats 4000000 in
set_option maxRecDepth 100000 in
theorem c_X10_goLine {ad : Nat → Nat} {I : KI} {J : KJ} {t : Nat} {n r s : Nat} {rd : Nat → Nat → Nat} (hw : mTw I n r s rd) (ok : okTw n r s rd) {C0 : Nat → Nat → Nat} (hc : okW n r rd C0) (hW : mWy I n C0) {c : Nat} {ki co ag re : Nat → Nat} {T : Nat → Nat → Nat} (hk : mKd I c ki co ag re T) (okk : okKd n c ki co ag re T) {og : List Nat} (hG : mGt I og) (hl7 : og.length ≤ 7) (hm : ∀ x, x ∈ og → x < n) {set a m N : Nat} (hset : set < 2 ^ 31) (ha : a < n) (hwk : wkL C0 (og ++ [s]) a = true) (hN1 : N ≤ 7000) (hm2 : m ≤ 200)  {Q : KI → KJ → KR → Prop} (hQ : ∀ I' J', (∀ q, q ≠ 85 → I' q = I q) → (∀ j, j ≠ 28 → I' 85 j = I 85 j) → (∀ q, q ≠ 101 → J' q = J q) → mCh J' N (stpL r rd C0 (rdG set c co re) (pcG set c co ki ag) s og a 1) m → Q I' J' (rf t))  : Mv 4 yX10_goLine (wm yX10_goLine cX10_goLine 10 none) [.ref (ad 85), .int (nI set), .int (nI a), .int (nI m), .int (nI N)] ad I J (rf t) Q := by
  refine mv_of (own := RX10) yk_X10_goLine rfl (Nat.le_of_ble_eq_true rfl) rfl (fun X hA hnL C K E => ?_)
  subst hA
  refine z_aload_n (n := 1) C 0 dX10_goLine_0 rfl rfl ?_
  refine z_iload (n := 3) C 4 dX10_goLine_1 rfl rfl ?_
  refine z_putI (n := 6) C K fF_RX10_184 dX10_goLine_3 rfl sh_85 (by decide) ?_
  refine z_iconst (n := 7) (v := 0) C dX10_goLine_6 rfl rfl ?_
  refine z_istore (n := 9) (L' := [(5, _), (0, _), (1, _), (2, _), (3, _), (4, _)]) C dX10_goLine_7 rfl (by rw [hnL]; decide) rfl ?_
  refine la_X10_goLine C K hnL (I := upI I 85 28 (nI N)) (J := J) hN1 (fun J1 hf1 hz1 => ?_) (N + 2) 0 J (by omega) ⟨by omega, fun _ _ => rfl, fun i hi => by omega⟩
  refine z_aload_n (n := 31) C 0 dX10_goLine_30 rfl rfl ?_
  refine z_getR (n := 34) (q := 101) C K fF_RX10_55 dX10_goLine_31 rfl rfl sh_85 (by decide) rfl ?_
  refine z_iload_n (n := 35) C 3 dX10_goLine_34 rfl rfl ?_
  refine z_iload (n := 37) C 4 dX10_goLine_35 rfl rfl ?_
  refine z_icmp_ge (tgt := 44) (n := 40) C dX10_goLine_37 rfl rfl (fun c37 => ?_) (fun c37 => ?_)
  · rw [fa_le, nI_toInt (by omega), nI_toInt (by omega)] at c37
    refine z_iload (n := 46) C 4 dX10_goLine_44 rfl rfl ?_
    refine z_lconst (n := 47) (v := 1) C dX10_goLine_46 rfl rfl ?_
    rw [show (1 : Int64) = lN 1 from rfl]
    refine z_lastN (n := 48) C K (min m N) dX10_goLine_47 rfl sh_101 (by decide) (by congr 1; omega) (by omega) (by decide) ?_
    refine z_iload_n (n := 49) C 2 dX10_goLine_48 rfl rfl ?_
    refine z_istore (n := 51) (L' := [(5, _), (0, _), (1, _), (2, _), (3, _), (4, _)]) C dX10_goLine_49 rfl (by rw [hnL]; decide) rfl ?_
    refine z_iconst (n := 52) (v := 1) C dX10_goLine_51 rfl rfl ?_
    refine z_istore (n := 54) (L' := [(6, _), (5, _), (0, _), (1, _), (2, _), (3, _), (4, _)]) C dX10_goLine_52 rfl (by rw [hnL]; decide) rfl ?_
    refine z_iconst (n := 55) (v := 0) C dX10_goLine_54 rfl rfl ?_
    refine z_istore (n := 57) (L' := [(7, _), (6, _), (5, _), (0, _), (1, _), (2, _), (3, _), (4, _)]) C dX10_goLine_55 rfl (by rw [hnL]; decide) rfl ?_
    refine lc_X10_goLine C K hnL E (hw.fr (upI_k _ _ (by decide)) (upI_k _ _ (by decide)) (upI_k _ _ (by decide)) (fun q q1 q2 => upI_row _ _ (by omega))) ok hc (hW.fr (upI_row _ _ (by decide))) (hk.fr (upI_k _ _ (by decide)) (fun q q1 q2 => upI_row _ _ (by omega))) okk (hG.fr (upI_k _ _ (by decide)) (upI_row _ _ (by decide))) hl7 hm (upI_same _ _ _ _) hset ha hwk hN1 hm2 (fun J2 hg2 hM2 => hQ _ J2 (fun q hq => upI_row _ _ hq) (fun j hj => upI_k _ _ hj) (fun q hq => by rw [hg2 q hq, upJ_row _ _ hq]; exact hf1 q hq) hM2) (og.length + 2) 0 a 1 _ [] (by omega) ⟨by omega, ha, by decide, by decide, hwk, fun _ _ => rfl, mCh_nil (fun i hi => ?_), rfl⟩
    by_cases e : i = min m N
    · rw [e, upJ_same, if_pos rfl]
    · rw [upJ_k _ _ e, if_neg e]; exact hz1 i hi
  · rw [fa_le, nI_toInt (by omega), nI_toInt (by omega)] at c37
    refine z_iload_n (n := 41) C 3 dX10_goLine_40 rfl rfl ?_
    refine z_goto (n := 46) C dX10_goLine_41 rfl ?_
    refine z_lconst (n := 47) (v := 1) C dX10_goLine_46 rfl rfl ?_
    rw [show (1 : Int64) = lN 1 from rfl]
    refine z_lastN (n := 48) C K (min m N) dX10_goLine_47 rfl sh_101 (by decide) (by congr 1; omega) (by omega) (by decide) ?_
    refine z_iload_n (n := 49) C 2 dX10_goLine_48 rfl rfl ?_
    refine z_istore (n := 51) (L' := [(5, _), (0, _), (1, _), (2, _), (3, _), (4, _)]) C dX10_goLine_49 rfl (by rw [hnL]; decide) rfl ?_
    refine z_iconst (n := 52) (v := 1) C dX10_goLine_51 rfl rfl ?_
    refine z_istore (n := 54) (L' := [(6, _), (5, _), (0, _), (1, _), (2, _), (3, _), (4, _)]) C dX10_goLine_52 rfl (by rw [hnL]; decide) rfl ?_
    refine z_iconst (n := 55) (v := 0) C dX10_goLine_54 rfl rfl ?_
    refine z_istore (n := 57) (L' := [(7, _), (6, _), (5, _), (0, _), (1, _), (2, _), (3, _), (4, _)]) C dX10_goLine_55 rfl (by rw [hnL]; decide) rfl ?_
    refine lc_X10_goLine C K hnL E (hw.fr (upI_k _ _ (by decide)) (upI_k _ _ (by decide)) (upI_k _ _ (by decide)) (fun q q1 q2 => upI_row _ _ (by omega))) ok hc (hW.fr (upI_row _ _ (by decide))) (hk.fr (upI_k _ _ (by decide)) (fun q q1 q2 => upI_row _ _ (by omega))) okk (hG.fr (upI_k _ _ (by decide)) (upI_row _ _ (by decide))) hl7 hm (upI_same _ _ _ _) hset ha hwk hN1 hm2 (fun J2 hg2 hM2 => hQ _ J2 (fun q hq => upI_row _ _ hq) (fun j hj => upI_k _ _ hj) (fun q hq => by rw [hg2 q hq, upJ_row _ _ hq]; exact hf1 q hq) hM2) (og.length + 2) 0 a 1 _ [] (by omega) ⟨by omega, ha, by decide, by decide, hwk, fun _ _ => rfl, mCh_nil (fun i hi => ?_), rfl⟩
    by_cases e : i = min m N
    · rw [e, upJ_same, if_pos rfl]
    · rw [upJ_k _ _ e, if_neg e]; exact hz1 i hi
