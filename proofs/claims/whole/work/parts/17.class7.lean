theorem cellR_rf {th : Nat → Bool} {so ct : Nat → Nat} {k : Nat} {iv sv : Int32} (hb : isB 0 3 (nI k) ∧ isB 0 2 sv) (hkc : (nI k).toNatClampNeg = k) : cellR th so ct (nI k) iv sv = (if rfS (th k) (so k) (ct k) sv iv 1 = 0 then none else some (rfS (th k) (so k) (ct k) sv iv 1)) := by
  have h1 : (1 : Int32).toInt = 1 := by decide
  have e : (0 ≤ iv.toInt ∧ iv.toInt + (1 : Int32).toInt ≤ (ct k : Int)) ↔ isN (ct k) iv := by unfold isN; rw [h1]; omega
  have h0 : ¬ ((1 : Int32).toInt < 0) := by rw [h1]; omega
  unfold cellR rfS
  rw [if_neg (fun q => q hb), hkc]
  cases hth : th k with
  | false => simp
  | true =>
    by_cases h2 : nI (so k) = sv
    · by_cases h3 : isN (ct k) iv
      · simp [h2, h3, e, h0]; unfold isN at h3; omega
      · simp [h2, h3, e, h0]; unfold isN at h3; omega
    · simp [h2]
set_option maxHeartbeats 4000000 in
set_option maxRecDepth 100000 in
theorem c_X9_sheet {ad : Nat → Nat} {I : KI} {J : KJ} {t : Nat} {th : Nat → Bool} {so ct : Nat → Nat} {ce : Nat → Nat → Int32} (hs : cSh I th so ct ce) (ok : okSh so ct){kv sv nv : Int32} {Q : Int32 → KI → KJ → KR → Prop} (hR : ∀ a f, sheetR kv sv nv = some (a, f) → Q a (upI I 0 13 (nI f)) J (rf t)) (hS : sheetR kv sv nv = none → ∀ k s n : Nat, kv = nI k → k < 4 → sv = nI s → s < 3 → nv = nI n → n ≤ 100 → ∀ I', (∀ q, q ≠ 0 → ¬ (67 ≤ q ∧ q ≤ 74) → I' q = I q) → (∀ j, j ≠ 13 → I' 0 j = I 0 j) → I' 0 13 = nI 0 → cSh I' (fu th k true) (fu so k s) (fu ct k n) (fu ce k (fun _ => 0)) → Q 1 I' J (rf t)) : Mi 3 yX9_sheet (wm yX9_sheet cX9_sheet 4 (some .int)) [.ref (ad 0), .int (kv), .int (sv), .int (nv)] ad I J (rf t) Q := by
  refine mi_of (own := RX9) yk_X9_sheet rfl (Nat.le_of_ble_eq_true rfl) rfl (fun X hA hnL C K E => ?_)
  subst hA
  refine z_aload_n (n := 1) C 0 dX9_sheet_0 rfl rfl ?_
  refine z_iconst (n := 2) (v := 0) C dX9_sheet_1 rfl rfl ?_
  refine z_putI (n := 5) C K fF_RX9_78 dX9_sheet_2 rfl sh_0 (by decide) ?_
  refine z_iload_n (n := 6) C 1 dX9_sheet_5 rfl rfl ?_
  refine z_si_1 (n := 9) (d' := 2) C K dX9_sheet_6 rfl yk_X9_isSheet kT_yX9_isSheet kM_RX9_92 (by decide) hR0 rfl ?_
  refine c_X9_isSheet (fun b6 => ?_) (fun b6 => ?_)
  · refine z_ifT_ne (tgt := 14) C (by decide) dX9_sheet_9 rfl ?_
    refine z_iload_n (n := 15) C 2 dX9_sheet_14 rfl rfl ?_
    refine z_si_1 (n := 18) (d' := 2) C K dX9_sheet_15 rfl yk_X9_isSort kT_yX9_isSort kM_RX9_96 (by decide) hR0 rfl ?_
    refine c_X9_isSort (fun b15 => ?_) (fun b15 => ?_)
    · refine z_ifF_eq (n := 21) (tgt := 27) C (by decide) dX9_sheet_18 rfl rfl ?_
      refine z_iload_n (n := 22) C 3 dX9_sheet_21 rfl rfl ?_
      refine z_bipush (n := 24) (v := 100) C dX9_sheet_22 rfl rfl ?_
      refine z_icmp_le (tgt := 30) (n := 27) C dX9_sheet_24 rfl rfl (fun c24 => ?_) (fun c24 => ?_)
      · refine z_iload_n (n := 31) C 3 dX9_sheet_30 rfl rfl ?_
        refine z_if_ge (tgt := 40) (n := 34) C dX9_sheet_31 rfl rfl (fun c31 => ?_) (fun c31 => ?_)
        · rw [fa_le] at c24
          rw [fa_le] at c31
          simp only [Int32.reduceToInt] at c24 c31
          have hnone : sheetR kv sv nv = none := by
            unfold sheetR
            rw [if_neg (fun q => q b6), if_neg (fun q => q.elim (fun q => q b15) (fun q => by omega)), if_neg (by omega)]
          obtain ⟨k, hk3, rfl⟩ := isB_of (h := 3) b6
          obtain ⟨s, hs2, rfl⟩ := isB_of (h := 2) b15
          obtain ⟨n, hn, rfl⟩ := i_natlt (n := 101) (x := nv) (by omega) (by omega)
          have hk : k < 4 := by omega
          refine z_aload_n (n := 41) C 0 dX9_sheet_40 rfl rfl ?_
          refine z_getR (n := 44) (q := 1) C K fF_RX9_13 dX9_sheet_41 rfl rfl sh_0 (by decide) rfl ?_
          refine z_iload_n (n := 45) C 1 dX9_sheet_44 rfl rfl ?_
          refine z_aaldN (n := 46) (q := (67 + 2 * k)) (ci := 1) C K k dX9_sheet_45 rfl (by decide) sh_1 (by decide) rfl hk (by decide) (rf_sheets hk) ?_
          refine z_iload_n (n := 47) C 2 dX9_sheet_46 rfl rfl ?_
          refine z_iload_n (n := 48) C 3 dX9_sheet_47 rfl rfl ?_
          refine z_vv_2 (n := 51) (d' := 1) C K dX9_sheet_48 rfl yk_X6_begin yv_X6_begin kM_RX9_306 (by decide) hR0 rfl rfl (sh_sheet hk) (by decide) (lt_sheet hk) ?_
          refine c_X6_begin hk (by omega) ?_
          refine z_iconst (n := 52) (v := 1) C dX9_sheet_51 rfl rfl ?_
          refine z_iret C E dX9_sheet_52 ?_
          refine hS hnone k s n rfl hk rfl (by omega) rfl (by omega) _ (fun q h0 h1 => ?_) (fun j hj => ?_) ?_ (fun z hz => ?_)
          · rw [clrI_p _ _ (by omega), upI_row _ _ (by omega), upI_row _ _ (by omega), upI_row _ _ (by omega), upI_row _ _ h0]
          · rw [clrI_p _ _ (by omega), upI_p _ _ (by omega), upI_p _ _ (by omega), upI_p _ _ (by omega), upI_k _ _ hj]
          · rw [clrI_p _ _ (by omega), upI_p _ _ (by omega), upI_p _ _ (by omega), upI_p _ _ (by omega), upI_same]; rfl
          · by_cases hzk : z = k
            · subst hzk
              rw [clrI_p _ _ (by omega), fu_same, fu_same, fu_same, fu_same]
              exact ⟨by simp [upI, b2i], by simp [upI], by simp [upI], fun i hi => clrI_at _ hi⟩
            · rw [clrI_p _ _ (by omega), clrI_p _ _ (by omega), upI_row _ _ (by omega), upI_row _ _ (by omega), upI_row _ _ (by omega), upI_row _ _ (by omega), upI_row _ _ (by omega), upI_row _ _ (by omega), upI_row _ _ (by omega), upI_row _ _ (by omega), fu_ne _ _ hzk, fu_ne _ _ hzk, fu_ne _ _ hzk, fu_ne _ _ hzk]
              exact hs z hz
        · refine z_aload_n (n := 35) C 0 dX9_sheet_34 rfl rfl ?_
          refine z_iconst (n := 36) (v := 4) C dX9_sheet_35 rfl rfl ?_
          refine z_vi_1 (n := 39) (d' := 1) C K dX9_sheet_36 rfl yk_X9_fail yv_X9_fail kM_RX9_303 (by decide) hR0 rfl rfl sh_0 (by decide) (by decide) ?_
          refine c_X9_fail ?_
          refine z_iret C E dX9_sheet_39 ?_
          rw [fa_le] at c24
          rw [fa_le] at c31
          simp only [Int32.reduceToInt] at c24 c31
          rw [upI_upI]
          exact hR (-14) 4 (by unfold sheetR; rw [if_neg (fun q => q b6), if_neg (fun q => q.elim (fun q => q b15) (fun q => by omega)), if_pos (by omega)])
      · refine z_bipush (n := 29) (v := (-2)) C dX9_sheet_27 rfl rfl ?_
        refine z_iret C E dX9_sheet_29 ?_
        rw [fa_le] at c24
        simp only [Int32.reduceToInt] at c24
        exact hR (-2) 0 (by unfold sheetR; rw [if_neg (fun q => q b6), if_pos (Or.inr (by omega))])
    · refine z_ifT_eq (tgt := 27) C (by decide) dX9_sheet_18 rfl ?_
      refine z_bipush (n := 29) (v := (-2)) C dX9_sheet_27 rfl rfl ?_
      refine z_iret C E dX9_sheet_29 ?_
      exact hR (-2) 0 (by unfold sheetR; rw [if_neg (fun q => q b6), if_pos (Or.inl b15)])
  · refine z_ifF_ne (n := 12) (tgt := 14) C (by decide) dX9_sheet_9 rfl rfl ?_
    refine z_iconst (n := 13) (v := (-1)) C dX9_sheet_12 rfl rfl ?_
    refine z_iret C E dX9_sheet_13 ?_
    exact hR (-1) 0 (by unfold sheetR; rw [if_pos b6])
set_option maxHeartbeats 4000000 in
set_option maxRecDepth 100000 in
theorem c_X9_lose {ad : Nat → Nat} {I : KI} {J : KJ} {t : Nat} {th : Nat → Bool} {so ct : Nat → Nat} {ce : Nat → Nat → Int32} (hs : cSh I th so ct ce) (ok : okSh so ct){kv : Int32} {Q : Int32 → KI → KJ → KR → Prop} (hR : ¬ isB 0 3 kv → Q (-1) I J (rf t)) (hS : ∀ k, kv = nI k → k < 4 → ∀ I', (∀ q, ¬ (67 ≤ q ∧ q ≤ 74) → I' q = I q) → cSh I' (fu th k false) so ct ce → Q (b2i (th k)) I' J (rf t)) : Mi 3 yX9_lose (wm yX9_lose cX9_lose 3 (some .int)) [.ref (ad 0), .int (kv)] ad I J (rf t) Q := by
  refine mi_of (own := RX9) yk_X9_lose rfl (Nat.le_of_ble_eq_true rfl) rfl (fun X hA hnL C K E => ?_)
  subst hA
  refine z_iload_n (n := 1) C 1 dX9_lose_0 rfl rfl ?_
  refine z_si_1 (n := 4) (d' := 2) C K dX9_lose_1 rfl yk_X9_isSheet kT_yX9_isSheet kM_RX9_92 (by decide) hR0 rfl ?_
  refine c_X9_isSheet (fun b1 => ?_) (fun b1 => ?_)
  · refine z_ifT_ne (tgt := 9) C (by decide) dX9_lose_4 rfl ?_
    obtain ⟨k, hk3, rfl⟩ := isB_of (h := 3) b1
    have hk : k < 4 := by omega
    have hz := hs k hk
    refine z_aload_n (n := 10) C 0 dX9_lose_9 rfl rfl ?_
    refine z_getR (n := 13) (q := 1) C K fF_RX9_13 dX9_lose_10 rfl rfl sh_0 (by decide) rfl ?_
    refine z_iload_n (n := 14) C 1 dX9_lose_13 rfl rfl ?_
    refine z_aaldN (n := 15) (q := (67 + 2 * k)) (ci := 1) C K k dX9_lose_14 rfl (by decide) sh_1 (by decide) rfl hk (by decide) (rf_sheets hk) ?_
    refine z_getB (n := 18) C K fF_RX9_309 dX9_lose_15 rfl (sh_sheet hk) (lt_sheet hk) ?_
    rw [hz.1]
    refine z_if_eq (tgt := 25) (n := 21) C dX9_lose_18 rfl rfl (fun c18 => ?_) (fun c18 => ?_)
    · refine z_iconst (n := 26) (v := 0) C dX9_lose_25 rfl rfl ?_
      refine z_istore_n (n := 27) (L' := [(2, _), (0, _), (1, _)]) C dX9_lose_26 rfl (by rw [hnL]; decide) rfl ?_
      refine z_aload_n (n := 28) C 1 dX9_lose_27 rfl rfl ?_
      refine z_getR (n := 31) (q := 1) C K fF_RX9_13 dX9_lose_28 rfl rfl sh_0 (by decide) rfl ?_
      refine z_iload_n (n := 32) C 2 dX9_lose_31 rfl rfl ?_
      refine z_aaldN (n := 33) (q := (67 + 2 * k)) (ci := 1) C K k dX9_lose_32 rfl (by decide) sh_1 (by decide) rfl hk (by decide) (rf_sheets hk) ?_
      refine z_iconst (n := 34) (v := 0) C dX9_lose_33 rfl rfl ?_
      refine z_putB (n := 37) C K fF_RX9_309 dX9_lose_34 rfl (sh_sheet hk) (lt_sheet hk) (by decide) ?_
      refine z_iload_n (n := 38) C 0 dX9_lose_37 rfl rfl ?_
      refine z_iret C E dX9_lose_38 ?_
      rw [b2i_0] at c18
      refine eqQ (by rw [c18]; rfl) (hS k rfl hk _ (fun q h => upI_row _ _ (by omega)) (fun z hz2 => ?_))
      by_cases hzk : z = k
      · subst hzk
        rw [fu_same, upI_same, upI_k _ _ (by decide), upI_k _ _ (by decide), upI_row _ _ (by omega)]
        exact ⟨rfl, hz.2⟩
      · rw [fu_ne _ _ hzk, upI_row _ _ (by omega), upI_row _ _ (by omega)]
        exact hs z hz2
    · refine z_iconst (n := 22) (v := 1) C dX9_lose_21 rfl rfl ?_
      refine z_goto (n := 26) C dX9_lose_22 rfl ?_
      refine z_istore_n (n := 27) (L' := [(2, _), (0, _), (1, _)]) C dX9_lose_26 rfl (by rw [hnL]; decide) rfl ?_
      refine z_aload_n (n := 28) C 1 dX9_lose_27 rfl rfl ?_
      refine z_getR (n := 31) (q := 1) C K fF_RX9_13 dX9_lose_28 rfl rfl sh_0 (by decide) rfl ?_
      refine z_iload_n (n := 32) C 2 dX9_lose_31 rfl rfl ?_
      refine z_aaldN (n := 33) (q := (67 + 2 * k)) (ci := 1) C K k dX9_lose_32 rfl (by decide) sh_1 (by decide) rfl hk (by decide) (rf_sheets hk) ?_
      refine z_iconst (n := 34) (v := 0) C dX9_lose_33 rfl rfl ?_
      refine z_putB (n := 37) C K fF_RX9_309 dX9_lose_34 rfl (sh_sheet hk) (lt_sheet hk) (by decide) ?_
      refine z_iload_n (n := 38) C 0 dX9_lose_37 rfl rfl ?_
      refine z_iret C E dX9_lose_38 ?_
      rw [b2i_n0] at c18
      refine eqQ (by rw [c18]; rfl) (hS k rfl hk _ (fun q h => upI_row _ _ (by omega)) (fun z hz2 => ?_))
      by_cases hzk : z = k
      · subst hzk
        rw [fu_same, upI_same, upI_k _ _ (by decide), upI_k _ _ (by decide), upI_row _ _ (by omega)]
        exact ⟨rfl, hz.2⟩
      · rw [fu_ne _ _ hzk, upI_row _ _ (by omega), upI_row _ _ (by omega)]
        exact hs z hz2
  · refine z_ifF_ne (n := 7) (tgt := 9) C (by decide) dX9_lose_4 rfl rfl ?_
    refine z_iconst (n := 8) (v := (-1)) C dX9_lose_7 rfl rfl ?_
    refine z_iret C E dX9_lose_8 ?_
    exact hR b1
set_option maxHeartbeats 4000000 in
set_option maxRecDepth 100000 in
theorem c_X9_put {ad : Nat → Nat} {I : KI} {J : KJ} {t : Nat} {th : Nat → Bool} {so ct : Nat → Nat} {ce : Nat → Nat → Int32} (hs : cSh I th so ct ce) (ok : okSh so ct){kv iv v : Int32} {Q : Int32 → KI → KJ → KR → Prop} (hR : ∀ a f, putR th ct kv iv = some (a, f) → Q a (upI I 0 13 (nI f)) J (rf t)) (hS : putR th ct kv iv = none → ∀ k i : Nat, kv = nI k → k < 4 → iv = nI i → i < 100 → ∀ I', (∀ q, q ≠ 0 → ¬ (67 ≤ q ∧ q ≤ 74) → I' q = I q) → (∀ j, j ≠ 13 → I' 0 j = I 0 j) → I' 0 13 = nI 0 → cSh I' th so ct (fu ce k (fu (ce k) i (cutS (so k) v))) → Q 1 I' J (rf t)) : Mi 3 yX9_put (wm yX9_put cX9_put 4 (some .int)) [.ref (ad 0), .int (kv), .int (iv), .int (v)] ad I J (rf t) Q := by
  refine mi_of (own := RX9) yk_X9_put rfl (Nat.le_of_ble_eq_true rfl) rfl (fun X hA hnL C K E => ?_)
  subst hA
  refine z_aload_n (n := 1) C 0 dX9_put_0 rfl rfl ?_
  refine z_iconst (n := 2) (v := 0) C dX9_put_1 rfl rfl ?_
  refine z_putI (n := 5) C K fF_RX9_78 dX9_put_2 rfl sh_0 (by decide) ?_
  refine z_iload_n (n := 6) C 1 dX9_put_5 rfl rfl ?_
  refine z_si_1 (n := 9) (d' := 2) C K dX9_put_6 rfl yk_X9_isSheet kT_yX9_isSheet kM_RX9_92 (by decide) hR0 rfl ?_
  refine c_X9_isSheet (fun b6 => ?_) (fun b6 => ?_)
  · refine z_ifT_ne (tgt := 14) C (by decide) dX9_put_9 rfl ?_
    obtain ⟨k, hk3, rfl⟩ := isB_of (h := 3) b6
    have hk : k < 4 := by omega
    have hz := hs.fa (j := 13) (v := 0) k hk
    have hkc : (nI k).toNatClampNeg = k := nI_clamp (by omega)
    have hok := ok k hk
    refine z_aload_n (n := 15) C 0 dX9_put_14 rfl rfl ?_
    refine z_getR (n := 18) (q := 1) C K fF_RX9_13 dX9_put_15 rfl rfl sh_0 (by decide) rfl ?_
    refine z_iload_n (n := 19) C 1 dX9_put_18 rfl rfl ?_
    refine z_aaldN (n := 20) (q := (67 + 2 * k)) (ci := 1) C K k dX9_put_19 rfl (by decide) sh_1 (by decide) rfl hk (by decide) (rf_sheets hk) ?_
    refine z_getB (n := 23) C K fF_RX9_309 dX9_put_20 rfl (sh_sheet hk) (lt_sheet hk) ?_
    rw [hz.1]
    refine z_if_ne (tgt := 32) (n := 26) C dX9_put_23 rfl rfl (fun c23 => ?_) (fun c23 => ?_)
    · refine z_aload_n (n := 33) C 0 dX9_put_32 rfl rfl ?_
      refine z_getR (n := 36) (q := 1) C K fF_RX9_13 dX9_put_33 rfl rfl sh_0 (by decide) rfl ?_
      refine z_iload_n (n := 37) C 1 dX9_put_36 rfl rfl ?_
      refine z_aaldN (n := 38) (q := (67 + 2 * k)) (ci := 1) C K k dX9_put_37 rfl (by decide) sh_1 (by decide) rfl hk (by decide) (rf_sheets hk) ?_
      refine z_iload_n (n := 39) C 2 dX9_put_38 rfl rfl ?_
      refine z_iconst (n := 40) (v := 1) C dX9_put_39 rfl rfl ?_
      refine z_vi_2 (n := 43) (d' := 1) C K dX9_put_40 rfl yk_X6_reaches yv_X6_reaches kM_RX9_313 (by decide) hR0 rfl rfl (sh_sheet hk) (by decide) (lt_sheet hk) ?_
      refine c_X6_reaches hk hok.2 hz.2.2.1 (fun b40 => ?_) (fun b40 => ?_)
      · refine z_ifT_ne (tgt := 52) C (by decide) dX9_put_43 rfl ?_
        obtain ⟨i, hi, rfl⟩ := i_natlt (n := ct k) (x := iv) b40.1 (by have := b40.2.2; simp only [Int32.reduceToInt] at this; omega)
        refine z_aload_n (n := 53) C 0 dX9_put_52 rfl rfl ?_
        refine z_getR (n := 56) (q := 1) C K fF_RX9_13 dX9_put_53 rfl rfl sh_0 (by decide) rfl ?_
        refine z_iload_n (n := 57) C 1 dX9_put_56 rfl rfl ?_
        refine z_aaldN (n := 58) (q := (67 + 2 * k)) (ci := 1) C K k dX9_put_57 rfl (by decide) sh_1 (by decide) rfl hk (by decide) (rf_sheets hk) ?_
        refine z_iload_n (n := 59) C 2 dX9_put_58 rfl rfl ?_
        refine z_iload_n (n := 60) C 3 dX9_put_59 rfl rfl ?_
        refine z_vv_2 (n := 63) (d' := 2) C K dX9_put_60 rfl yk_X6_change yv_X6_change kM_RX9_316 (by decide) hR0 rfl rfl (sh_sheet hk) (by decide) (lt_sheet hk) ?_
        refine c_X6_change hk hz.2.1 hok.1 hok.2 hz.2.2.1 hi ?_
        refine z_iconst (n := 64) (v := 1) C dX9_put_63 rfl rfl ?_
        refine z_iret C E dX9_put_64 ?_
        rw [b2i_n0] at c23
        refine hS (by unfold putR; rw [if_neg (fun q => q b6), hkc, if_neg (by rw [c23]; decide), if_neg (fun q => q (isN_nI hi (by omega)))]) k i rfl hk rfl (by omega) _ (fun q h0 h1 => ?_) (fun j hj => ?_) ?_ (fun z hz2 => ?_)
        · rw [upI_row _ _ (by omega), upI_row _ _ h0]
        · rw [upI_p _ _ (by omega), upI_k _ _ hj]
        · rw [upI_p _ _ (by omega), upI_same]; rfl
        · have hz3 := hs.fa (j := 13) (v := 0) z hz2
          rw [upI_row _ _ (show 67 + 2 * z ≠ 68 + 2 * k by omega)]
          refine ⟨hz3.1, hz3.2.1, hz3.2.2.1, fun a ha => ?_⟩
          by_cases hzk : z = k
          · subst hzk
            rw [fu_same]
            by_cases hai : a = i
            · subst hai; rw [upI_same, fu_same]
            · rw [upI_k _ _ hai, fu_ne _ _ hai]; exact hz3.2.2.2 a ha
          · rw [upI_row _ _ (by omega), fu_ne _ _ hzk]; exact hz3.2.2.2 a ha
      · refine z_ifF_ne (n := 46) (tgt := 52) C (by decide) dX9_put_43 rfl rfl ?_
        refine z_aload_n (n := 47) C 0 dX9_put_46 rfl rfl ?_
        refine z_iconst (n := 48) (v := 3) C dX9_put_47 rfl rfl ?_
        refine z_vi_1 (n := 51) (d' := 1) C K dX9_put_48 rfl yk_X9_fail yv_X9_fail kM_RX9_303 (by decide) hR0 rfl rfl sh_0 (by decide) (by decide) ?_
        refine c_X9_fail ?_
        refine z_iret C E dX9_put_51 ?_
        rw [b2i_n0] at c23
        rw [upI_upI]
        exact hR (-13) 3 (by unfold putR; rw [if_neg (fun q => q b6), hkc, if_neg (by rw [c23]; decide), if_pos (fun q => b40 ⟨q.1, by decide, by have := q.2; simp only [Int32.reduceToInt]; omega⟩)])
    · refine z_aload_n (n := 27) C 0 dX9_put_26 rfl rfl ?_
      refine z_iconst (n := 28) (v := 1) C dX9_put_27 rfl rfl ?_
      refine z_vi_1 (n := 31) (d' := 1) C K dX9_put_28 rfl yk_X9_fail yv_X9_fail kM_RX9_303 (by decide) hR0 rfl rfl sh_0 (by decide) (by decide) ?_
      refine c_X9_fail ?_
      refine z_iret C E dX9_put_31 ?_
      rw [b2i_0] at c23
      rw [upI_upI]
      exact hR (-11) 1 (by unfold putR; rw [if_neg (fun q => q b6), hkc, if_pos c23])
  · refine z_ifF_ne (n := 12) (tgt := 14) C (by decide) dX9_put_9 rfl rfl ?_
    refine z_iconst (n := 13) (v := (-1)) C dX9_put_12 rfl rfl ?_
    refine z_iret C E dX9_put_13 ?_
    exact hR (-1) 0 (by unfold putR; rw [if_pos b6])
set_option maxHeartbeats 4000000 in
set_option maxRecDepth 100000 in
theorem c_X9_cell {ad : Nat → Nat} {I : KI} {J : KJ} {t : Nat} {th : Nat → Bool} {so ct : Nat → Nat} {ce : Nat → Nat → Int32} (hs : cSh I th so ct ce) (ok : okSh so ct){kv iv sv : Int32} {Q : Int64 → KI → KJ → KR → Prop} (hR : ∀ f, cellR th so ct kv iv sv = some f → Q (-9223372036854775808) (upI I 0 13 (nI f)) J (rf t)) (hS : cellR th so ct kv iv sv = none → ∀ k i : Nat, kv = nI k → k < 4 → iv = nI i → i < 100 → Q (ce k i).toInt64 (upI I 0 13 (nI 0)) J (rf t)) : Ml 3 yX9_cell (wm yX9_cell cX9_cell 4 (some .long)) [.ref (ad 0), .int (kv), .int (iv), .int (sv)] ad I J (rf t) Q := by
  refine ml_of (own := RX9) yk_X9_cell rfl (Nat.le_of_ble_eq_true rfl) rfl (fun X hA hnL C K E => ?_)
  subst hA
  refine z_aload_n (n := 1) C 0 dX9_cell_0 rfl rfl ?_
  refine z_iconst (n := 2) (v := 0) C dX9_cell_1 rfl rfl ?_
  refine z_putI (n := 5) C K fF_RX9_78 dX9_cell_2 rfl sh_0 (by decide) ?_
  refine z_iload_n (n := 6) C 1 dX9_cell_5 rfl rfl ?_
  refine z_si_1 (n := 9) (d' := 2) C K dX9_cell_6 rfl yk_X9_isSheet kT_yX9_isSheet kM_RX9_92 (by decide) hR0 rfl ?_
  refine c_X9_isSheet (fun b6 => ?_) (fun b6 => ?_)
  · refine z_ifF_eq (n := 12) (tgt := 19) C (by decide) dX9_cell_9 rfl rfl ?_
    refine z_iload_n (n := 13) C 3 dX9_cell_12 rfl rfl ?_
    refine z_si_1 (n := 16) (d' := 2) C K dX9_cell_13 rfl yk_X9_isSort kT_yX9_isSort kM_RX9_96 (by decide) hR0 rfl ?_
    refine c_X9_isSort (fun b13 => ?_) (fun b13 => ?_)
    · refine z_ifT_ne (tgt := 23) C (by decide) dX9_cell_16 rfl ?_
      obtain ⟨k, hk3, rfl⟩ := isB_of (h := 3) b6
      have hk : k < 4 := by omega
      have hz := hs.fa (j := 13) (v := 0) k hk
      have hkc : (nI k).toNatClampNeg = k := nI_clamp (by omega)
      have hok := ok k hk
      refine z_aload_n (n := 24) C 0 dX9_cell_23 rfl rfl ?_
      refine z_aload_n (n := 25) C 0 dX9_cell_24 rfl rfl ?_
      refine z_getR (n := 28) (q := 1) C K fF_RX9_13 dX9_cell_25 rfl rfl sh_0 (by decide) rfl ?_
      refine z_iload_n (n := 29) C 1 dX9_cell_28 rfl rfl ?_
      refine z_aaldN (n := 30) (q := (67 + 2 * k)) (ci := 1) C K k dX9_cell_29 rfl (by decide) sh_1 (by decide) rfl hk (by decide) (rf_sheets hk) ?_
      refine z_iload_n (n := 31) C 3 dX9_cell_30 rfl rfl ?_
      refine z_iload_n (n := 32) C 2 dX9_cell_31 rfl rfl ?_
      refine z_iconst (n := 33) (v := 1) C dX9_cell_32 rfl rfl ?_
      refine z_vi_3 (n := 36) (d' := 2) C K dX9_cell_33 rfl yk_X6_rowFault yv_X6_rowFault kM_RX9_99 (by decide) hR0 rfl rfl (sh_sheet hk) (by decide) (lt_sheet hk) ?_
      refine c_X6_rowFault hk hz.1 hz.2.1 hok.2 hz.2.2.1 ?_
      refine z_putI (n := 39) C K fF_RX9_78 dX9_cell_36 rfl sh_0 (by decide) ?_
      refine z_aload_n (n := 40) C 0 dX9_cell_39 rfl rfl ?_
      refine z_getI (n := 43) C K fF_RX9_78 dX9_cell_40 rfl sh_0 (by decide) ?_
      rw [upI_same]
      refine z_if_ne (tgt := 60) (n := 46) C dX9_cell_43 rfl rfl (fun c43 => ?_) (fun c43 => ?_)
      · refine z_ldc2 (n := 63) C dX9_cell_60 kK_RX9_198 rfl ?_
        refine z_lret C E dX9_cell_63 ?_
        rw [upI_upI]
        have hne : ¬ rfS (th k) (so k) (ct k) sv iv 1 = 0 := fun e => c43 (by rw [e]; rfl)
        refine hR (rfS (th k) (so k) (ct k) sv iv 1) ?_
        rw [cellR_rf ⟨b6, b13⟩ hkc, if_neg hne]
      · refine z_aload_n (n := 47) C 0 dX9_cell_46 rfl rfl ?_
        refine z_getR (n := 50) (q := 1) C K fF_RX9_13 dX9_cell_47 rfl rfl sh_0 (by decide) rfl ?_
        refine z_iload_n (n := 51) C 1 dX9_cell_50 rfl rfl ?_
        refine z_aaldN (n := 52) (q := (67 + 2 * k)) (ci := 1) C K k dX9_cell_51 rfl (by decide) sh_1 (by decide) rfl hk (by decide) (rf_sheets hk) ?_
        refine z_iload_n (n := 53) C 2 dX9_cell_52 rfl rfl ?_
        refine z_vi_1 (n := 56) (d' := 2) C K dX9_cell_53 rfl yk_X6_at yv_X6_at kM_RX9_319 (by decide) hR0 rfl rfl (sh_sheet hk) (by decide) (lt_sheet hk) ?_
        rw [upI_upI]
        have hr : rfS (th k) (so k) (ct k) sv iv 1 = 0 := nI_inj (b := 0) c43 (by have := rfS_le (th k) (so k) (ct k) sv iv 1; omega) (by decide)
        rw [hr]
        refine c_X6_at hk hok.2 (hs.fa k hk).2.2.1 (fun i hi1 hi2 => ?_) (fun hh => ?_)
        rotate_left
        · exfalso
          unfold rfS at hr
          revert hr
          repeat' split
          all_goals first | (intro hr; omega) | skip
          rename_i h4
          intro _
          exact hh ⟨h4.1, by have := h4.2; simp only [Int32.reduceToInt] at this; omega⟩
        refine z_i2l (n := 57) C dX9_cell_56 rfl ?_
        refine z_goto (n := 63) C dX9_cell_57 rfl ?_
        refine z_lret C E dX9_cell_63 ?_
        subst hi1
        refine eqQ ?_ (hS ?_ k i rfl hk rfl (by omega))
        · rw [(hs.fa k hk).2.2.2 i (by omega)]
        · rw [cellR_rf ⟨b6, b13⟩ hkc, if_pos hr]
    · refine z_ifF_ne (n := 19) (tgt := 23) C (by decide) dX9_cell_16 rfl rfl ?_
      refine z_ldc2 (n := 22) C dX9_cell_19 kK_RX9_198 rfl ?_
      refine z_lret C E dX9_cell_22 ?_
      exact hR 0 (by unfold cellR; rw [if_pos (fun q => b13 q.2)])
  · refine z_ifT_eq (tgt := 19) C (by decide) dX9_cell_9 rfl ?_
    refine z_ldc2 (n := 22) C dX9_cell_19 kK_RX9_198 rfl ?_
    refine z_lret C E dX9_cell_22 ?_
    exact hR 0 (by unfold cellR; rw [if_pos (fun q => b6 q.1)])
