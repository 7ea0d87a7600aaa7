def mclr (I : KI) (k i : Nat) : KI := fun q j => if q = 88 ∧ 100 * k ≤ j ∧ j < 100 * k + i then 0 else I q j
theorem mclr_0 (I : KI) (k : Nat) : mclr I k 0 = I := by funext q j; unfold mclr; rw [if_neg]; omega
theorem mclr_s (I : KI) (k i : Nat) : upI (mclr I k i) 88 (100 * k + i) 0 = mclr I k (i + 1) := by
  funext q j; unfold upI mclr
  by_cases h : q = 88 ∧ j = 100 * k + i
  · rw [if_pos h, if_pos ⟨h.1, by omega⟩]
  · rw [if_neg h]
    by_cases h3 : q = 88 ∧ 100 * k ≤ j ∧ j < 100 * k + i
    · rw [if_pos h3, if_pos ⟨h3.1, by omega⟩]
    · rw [if_neg h3, if_neg (fun e => h3 ⟨e.1, e.2.1, by have : j ≠ 100 * k + i := fun z => h ⟨e.1, z⟩; omega⟩)]
theorem mclr_p (I : KI) {k i q : Nat} (h : q ≠ 88) : mclr I k i q = I q := by funext j; unfold mclr; simp [h]
set_option maxHeartbeats 4000000 in
set_option maxRecDepth 100000 in
theorem l_X10_sheet {X : KX} {J : KJ} {t : Nat} (C : Cx X RX10 cX10_sheet 3) (K : Kx X) (hnL : xnL X = 5) {Q : Int32 → KI → KJ → KR → Prop} (E : Ei X .int Q) {I : KI} {k : Nat} (hk : k < 4) {a2 a3 : Int32} (hQ : Q 1 (mclr I k 100) J (rf t)) : ∀ (f : Nat) (i : Nat), 100 - i < f → i ≤ 100 → Z X 0 0 (V X (mclr I k i) J (rf t)) 57 [(4, .int (nI i)), (0, .ref (xad X 85)), (1, .int (nI k)), (2, .int a2), (3, .int a3)] [] := by
  intro f
  induction f with
  | zero => intro i h; omega
  | succ f ih =>
    intro i hf hi
    refine z_iload (n := 59) C 0 dX10_sheet_57 rfl rfl ?_
    refine z_bipush (n := 61) (v := 100) C dX10_sheet_59 rfl rfl ?_
    refine z_icmp_ge (tgt := 83) (n := 64) C dX10_sheet_61 rfl rfl (fun c61 => ?_) (fun c61 => ?_)
    · rw [fa_le, nI_toInt (by omega)] at c61
      simp only [Int32.reduceToInt] at c61
      have e : i = 100 := by omega
      subst e
      refine z_iconst (n := 84) (v := 1) C dX10_sheet_83 rfl rfl ?_
      refine z_iret C E dX10_sheet_84 ?_
      exact hQ
    · rw [fa_le, nI_toInt (by omega)] at c61
      simp only [Int32.reduceToInt] at c61
      refine z_aload_n (n := 65) C 1 dX10_sheet_64 rfl rfl ?_
      refine z_getR (n := 68) (q := 88) C K fF_RX10_16 dX10_sheet_65 rfl rfl sh_85 (by decide) rfl ?_
      refine z_bipush (n := 70) (v := 100) C dX10_sheet_68 rfl rfl ?_
      refine z_iload_n (n := 71) C 2 dX10_sheet_70 rfl rfl ?_
      refine z_imul (n := 72) C dX10_sheet_71 rfl ?_
      refine z_iload (n := 74) C 0 dX10_sheet_72 rfl rfl ?_
      refine z_iadd (n := 75) C dX10_sheet_74 rfl ?_
      refine z_iconst (n := 76) (v := 0) C dX10_sheet_75 rfl rfl ?_
      refine z_iastN (n := 77) C K (100 * k + i) dX10_sheet_76 rfl sh_88 (by decide) (by rw [show (100 : Int32) = nI 100 from rfl, mul_nI, nI_add]) (by omega) (by decide) ?_
      refine z_iincG (n := 80) (c := 1) (L' := [(4, _), (0, _), (1, _), (2, _), (3, _)]) C 0 dX10_sheet_77 rfl rfl rfl (by rw [hnL]; decide) rfl ?_
      refine z_goto (n := 57) C dX10_sheet_80 rfl ?_
      rw [nI_1, mclr_s]
      exact ih (i + 1) (by omega) (by omega)
set_option maxHeartbeats 4000000 in
set_option maxRecDepth 100000 in
theorem c_X10_sheet {ad : Nat → Nat} {I : KI} {J : KJ} {t : Nat} {th : Nat → Bool} {so ct : Nat → Nat} {ce : Nat → Nat → Int32} (hs : mSh I th so ct ce) (ok : okSh so ct){kv sv nv : Int32} {Q : Int32 → KI → KJ → KR → Prop} (hR : ∀ a f, sheetR kv sv nv = some (a, f) → Q a (upI I 85 0 (nI f)) J (rf t)) (hS : sheetR kv sv nv = none → ∀ k s n : Nat, kv = nI k → k < 4 → sv = nI s → s < 3 → nv = nI n → n ≤ 100 → ∀ I', (∀ q, q ≠ 85 → ¬ (86 ≤ q ∧ q ≤ 88) → I' q = I q) → (∀ j, j ≠ 0 → I' 85 j = I 85 j) → I' 85 0 = nI 0 → mSh I' (fu th k true) (fu so k s) (fu ct k n) (fu ce k (fun _ => 0)) → Q 1 I' J (rf t)) : Mi 3 yX10_sheet (wm yX10_sheet cX10_sheet 5 (some .int)) [.ref (ad 85), .int (kv), .int (sv), .int (nv)] ad I J (rf t) Q := by
  refine mi_of (own := RX10) yk_X10_sheet rfl (Nat.le_of_ble_eq_true rfl) rfl (fun X hA hnL C K E => ?_)
  subst hA
  refine z_aload_n (n := 1) C 0 dX10_sheet_0 rfl rfl ?_
  refine z_iconst (n := 2) (v := 0) C dX10_sheet_1 rfl rfl ?_
  refine z_putI (n := 5) C K fF_RX10_87 dX10_sheet_2 rfl sh_85 (by decide) ?_
  refine z_iload_n (n := 6) C 1 dX10_sheet_5 rfl rfl ?_
  refine z_si_1 (n := 9) (d' := 2) C K dX10_sheet_6 rfl yk_X10_isSheet kT_yX10_isSheet kM_RX10_99 (by decide) hR0 rfl ?_
  refine c_X10_isSheet (fun b6 => ?_) (fun b6 => ?_)
  · refine z_ifT_ne (tgt := 14) C (by decide) dX10_sheet_9 rfl ?_
    refine z_iload_n (n := 15) C 2 dX10_sheet_14 rfl rfl ?_
    refine z_si_1 (n := 18) (d' := 2) C K dX10_sheet_15 rfl yk_X10_isSort kT_yX10_isSort kM_RX10_103 (by decide) hR0 rfl ?_
    refine c_X10_isSort (fun b15 => ?_) (fun b15 => ?_)
    · refine z_ifF_eq (n := 21) (tgt := 27) C (by decide) dX10_sheet_18 rfl rfl ?_
      refine z_iload_n (n := 22) C 3 dX10_sheet_21 rfl rfl ?_
      refine z_bipush (n := 24) (v := 100) C dX10_sheet_22 rfl rfl ?_
      refine z_icmp_le (tgt := 30) (n := 27) C dX10_sheet_24 rfl rfl (fun c24 => ?_) (fun c24 => ?_)
      · refine z_iload_n (n := 31) C 3 dX10_sheet_30 rfl rfl ?_
        refine z_if_ge (tgt := 40) (n := 34) C dX10_sheet_31 rfl rfl (fun c31 => ?_) (fun c31 => ?_)
        · rw [fa_le] at c24
          rw [fa_le] at c31
          simp only [Int32.reduceToInt] at c24 c31
          have hnone : sheetR kv sv nv = none := by
            unfold sheetR
            rw [if_neg (fun q => q b6), if_neg (fun q => q.elim (fun q => q b15) (fun q => by omega)), if_neg (by omega)]
          obtain ⟨k, hk3, rfl⟩ := isB_of (h := 3) b6
          obtain ⟨s, hs2, rfl⟩ := isB_of (h := 2) b15
          obtain ⟨n, hn, rfl⟩ := i_natlt (n := 101) (x := nv) (by omega) (by omega)
          have hk : k < 4 := by omega
          refine z_aload_n (n := 41) C 0 dX10_sheet_40 rfl rfl ?_
          refine z_getR (n := 44) (q := 86) C K fF_RX10_9 dX10_sheet_41 rfl rfl sh_85 (by decide) rfl ?_
          refine z_iload_n (n := 45) C 1 dX10_sheet_44 rfl rfl ?_
          refine z_iload_n (n := 46) C 2 dX10_sheet_45 rfl rfl ?_
          refine z_iastN (n := 47) C K k dX10_sheet_46 rfl sh_86 (by decide) rfl hk (by decide) ?_
          refine z_aload_n (n := 48) C 0 dX10_sheet_47 rfl rfl ?_
          refine z_getR (n := 51) (q := 87) C K fF_RX10_13 dX10_sheet_48 rfl rfl sh_85 (by decide) rfl ?_
          refine z_iload_n (n := 52) C 1 dX10_sheet_51 rfl rfl ?_
          refine z_iload_n (n := 53) C 3 dX10_sheet_52 rfl rfl ?_
          refine z_iastN (n := 54) C K k dX10_sheet_53 rfl sh_87 (by decide) rfl hk (by decide) ?_
          refine z_iconst (n := 55) (v := 0) C dX10_sheet_54 rfl rfl ?_
          refine z_istore (n := 57) (L' := [(4, _), (0, _), (1, _), (2, _), (3, _)]) C dX10_sheet_55 rfl (by rw [hnL]; decide) rfl ?_
          have h1 := l_X10_sheet (J := J) (t := t) (I := upI (upI (upI I 85 0 0) 86 k (nI s)) 87 k (nI n)) (k := k) (a2 := nI s) (a3 := nI n) C K hnL E hk ?_ 101 0 (by omega) (by omega)
          · rw [mclr_0] at h1
            exact h1
          refine hS hnone k s n rfl hk rfl (by omega) rfl (by omega) _ (fun q h0 h1 => ?_) (fun j hj => ?_) ?_ (fun z hz => ?_)
          · rw [mclr_p _ (by omega), upI_row _ _ (by omega), upI_row _ _ (by omega), upI_row _ _ h0]
          · rw [mclr_p _ (by omega), upI_p _ _ (by omega), upI_p _ _ (by omega), upI_k _ _ hj]
          · rw [mclr_p _ (by omega), upI_p _ _ (by omega), upI_p _ _ (by omega), upI_same]; rfl
          · have h3 := hs z hz
            rw [mclr_p _ (show 86 ≠ 88 by omega), mclr_p _ (show 87 ≠ 88 by omega), upI_row _ _ (show 86 ≠ 87 by omega)]
            by_cases hzk : z = k
            · subst hzk
              rw [upI_same, upI_same, fu_same, fu_same, fu_same, fu_same]
              refine ⟨rfl, rfl, fun i hi => ?_⟩
              unfold mclr; rw [if_pos ⟨rfl, by omega⟩]
            · rw [upI_k _ _ hzk, upI_k _ _ hzk, upI_row _ _ (show 87 ≠ 86 by omega), upI_row _ _ (show 87 ≠ 85 by omega), upI_row _ _ (show 86 ≠ 85 by omega), fu_ne _ _ hzk, fu_ne _ _ hzk, fu_ne _ _ hzk, fu_ne _ _ hzk]
              refine ⟨h3.1, h3.2.1, fun i hi => ?_⟩
              unfold mclr
              rw [if_neg (by omega), upI_row _ _ (by omega), upI_row _ _ (by omega), upI_row _ _ (by omega)]
              exact h3.2.2 i hi
        · refine z_aload_n (n := 35) C 0 dX10_sheet_34 rfl rfl ?_
          refine z_iconst (n := 36) (v := 4) C dX10_sheet_35 rfl rfl ?_
          refine z_vi_1 (n := 39) (d' := 1) C K dX10_sheet_36 rfl yk_X10_fails yv_X10_fails kM_RX10_110 (by decide) hR0 rfl rfl sh_85 (by decide) (by decide) ?_
          refine c_X10_fails ?_
          refine z_iret C E dX10_sheet_39 ?_
          rw [fa_le] at c24
          rw [fa_le] at c31
          simp only [Int32.reduceToInt] at c24 c31
          rw [upI_upI]
          exact hR (-14) 4 (by unfold sheetR; rw [if_neg (fun q => q b6), if_neg (fun q => q.elim (fun q => q b15) (fun q => by omega)), if_pos (by omega)])
      · refine z_bipush (n := 29) (v := (-2)) C dX10_sheet_27 rfl rfl ?_
        refine z_iret C E dX10_sheet_29 ?_
        rw [fa_le] at c24
        simp only [Int32.reduceToInt] at c24
        exact hR (-2) 0 (by unfold sheetR; rw [if_neg (fun q => q b6), if_pos (Or.inr (by omega))])
    · refine z_ifT_eq (tgt := 27) C (by decide) dX10_sheet_18 rfl ?_
      refine z_bipush (n := 29) (v := (-2)) C dX10_sheet_27 rfl rfl ?_
      refine z_iret C E dX10_sheet_29 ?_
      exact hR (-2) 0 (by unfold sheetR; rw [if_neg (fun q => q b6), if_pos (Or.inl b15)])
  · refine z_ifF_ne (n := 12) (tgt := 14) C (by decide) dX10_sheet_9 rfl rfl ?_
    refine z_iconst (n := 13) (v := (-1)) C dX10_sheet_12 rfl rfl ?_
    refine z_iret C E dX10_sheet_13 ?_
    exact hR (-1) 0 (by unfold sheetR; rw [if_pos b6])
set_option maxHeartbeats 4000000 in
set_option maxRecDepth 100000 in
theorem c_X10_lose {ad : Nat → Nat} {I : KI} {J : KJ} {t : Nat} {th : Nat → Bool} {so ct : Nat → Nat} {ce : Nat → Nat → Int32} (hs : mSh I th so ct ce) (ok : okSh so ct){kv : Int32} {Q : Int32 → KI → KJ → KR → Prop} (hR : ¬ isB 0 3 kv → Q (-1) I J (rf t)) (hS : ∀ k, kv = nI k → k < 4 → ∀ I', (∀ q, q ≠ 86 → I' q = I q) → mSh I' (fu th k false) so ct ce → Q (b2i (th k)) I' J (rf t)) : Mi 3 yX10_lose (wm yX10_lose cX10_lose 3 (some .int)) [.ref (ad 85), .int (kv)] ad I J (rf t) Q := by
  refine mi_of (own := RX10) yk_X10_lose rfl (Nat.le_of_ble_eq_true rfl) rfl (fun X hA hnL C K E => ?_)
  subst hA
  refine z_iload_n (n := 1) C 1 dX10_lose_0 rfl rfl ?_
  refine z_si_1 (n := 4) (d' := 2) C K dX10_lose_1 rfl yk_X10_isSheet kT_yX10_isSheet kM_RX10_99 (by decide) hR0 rfl ?_
  refine c_X10_isSheet (fun b1 => ?_) (fun b1 => ?_)
  · refine z_ifT_ne (tgt := 9) C (by decide) dX10_lose_4 rfl ?_
    obtain ⟨k, hk3, rfl⟩ := isB_of (h := 3) b1
    have hk : k < 4 := by omega
    have hz := hs k hk
    have hok := ok k hk
    refine z_aload_n (n := 10) C 0 dX10_lose_9 rfl rfl ?_
    refine z_getR (n := 13) (q := 86) C K fF_RX10_9 dX10_lose_10 rfl rfl sh_85 (by decide) rfl ?_
    refine z_iload_n (n := 14) C 1 dX10_lose_13 rfl rfl ?_
    refine z_ialdN (n := 15) C K k dX10_lose_14 rfl sh_86 (by decide) rfl hk (by decide) ?_
    refine z_bipush (n := 17) (v := (-9)) C dX10_lose_15 rfl rfl ?_
    rw [hz.1]
    refine z_icmp_ne (tgt := 24) (n := 20) C dX10_lose_17 rfl rfl (fun c17 => ?_) (fun c17 => ?_)
    · refine z_iconst (n := 25) (v := 1) C dX10_lose_24 rfl rfl ?_
      refine z_istore_n (n := 26) (L' := [(2, _), (0, _), (1, _)]) C dX10_lose_25 rfl (by rw [hnL]; decide) rfl ?_
      refine z_aload_n (n := 27) C 1 dX10_lose_26 rfl rfl ?_
      refine z_getR (n := 30) (q := 86) C K fF_RX10_9 dX10_lose_27 rfl rfl sh_85 (by decide) rfl ?_
      refine z_iload_n (n := 31) C 2 dX10_lose_30 rfl rfl ?_
      refine z_bipush (n := 33) (v := (-9)) C dX10_lose_31 rfl rfl ?_
      refine z_iastN (n := 34) C K k dX10_lose_33 rfl sh_86 (by decide) rfl hk (by decide) ?_
      refine z_iload_n (n := 35) C 0 dX10_lose_34 rfl rfl ?_
      refine z_iret C E dX10_lose_35 ?_
      rw [so_n9 hok.1] at c17
      have c17 : th k = true := by cases h : th k with | true => rfl | false => exact absurd h c17
      refine eqQ (by rw [c17]; rfl) (hS k rfl hk _ (fun q h => upI_row _ _ h) (fun z hz2 => ?_))
      rw [upI_row _ _ (show 87 ≠ 86 by omega), upI_row _ _ (show 88 ≠ 86 by omega)]
      by_cases hzk : z = k
      · subst hzk
        rw [fu_same, upI_same]
        exact ⟨rfl, hz.2⟩
      · rw [fu_ne _ _ hzk, upI_k _ _ hzk]
        exact hs z hz2
    · refine z_iconst (n := 21) (v := 0) C dX10_lose_20 rfl rfl ?_
      refine z_goto (n := 25) C dX10_lose_21 rfl ?_
      refine z_istore_n (n := 26) (L' := [(2, _), (0, _), (1, _)]) C dX10_lose_25 rfl (by rw [hnL]; decide) rfl ?_
      refine z_aload_n (n := 27) C 1 dX10_lose_26 rfl rfl ?_
      refine z_getR (n := 30) (q := 86) C K fF_RX10_9 dX10_lose_27 rfl rfl sh_85 (by decide) rfl ?_
      refine z_iload_n (n := 31) C 2 dX10_lose_30 rfl rfl ?_
      refine z_bipush (n := 33) (v := (-9)) C dX10_lose_31 rfl rfl ?_
      refine z_iastN (n := 34) C K k dX10_lose_33 rfl sh_86 (by decide) rfl hk (by decide) ?_
      refine z_iload_n (n := 35) C 0 dX10_lose_34 rfl rfl ?_
      refine z_iret C E dX10_lose_35 ?_
      rw [so_n9 hok.1] at c17
      refine eqQ (by rw [c17]; rfl) (hS k rfl hk _ (fun q h => upI_row _ _ h) (fun z hz2 => ?_))
      rw [upI_row _ _ (show 87 ≠ 86 by omega), upI_row _ _ (show 88 ≠ 86 by omega)]
      by_cases hzk : z = k
      · subst hzk
        rw [fu_same, upI_same]
        exact ⟨rfl, hz.2⟩
      · rw [fu_ne _ _ hzk, upI_k _ _ hzk]
        exact hs z hz2
  · refine z_ifF_ne (n := 7) (tgt := 9) C (by decide) dX10_lose_4 rfl rfl ?_
    refine z_iconst (n := 8) (v := (-1)) C dX10_lose_7 rfl rfl ?_
    refine z_iret C E dX10_lose_8 ?_
    exact hR b1
set_option maxHeartbeats 4000000 in
set_option maxRecDepth 100000 in
theorem c_X10_put {ad : Nat → Nat} {I : KI} {J : KJ} {t : Nat} {th : Nat → Bool} {so ct : Nat → Nat} {ce : Nat → Nat → Int32} (hs : mSh I th so ct ce) (ok : okSh so ct){kv iv v : Int32} {Q : Int32 → KI → KJ → KR → Prop} (hR : ∀ a f, putR th ct kv iv = some (a, f) → Q a (upI I 85 0 (nI f)) J (rf t)) (hS : putR th ct kv iv = none → ∀ k i : Nat, kv = nI k → k < 4 → iv = nI i → i < 100 → ∀ I', (∀ q, q ≠ 85 → ¬ (86 ≤ q ∧ q ≤ 88) → I' q = I q) → (∀ j, j ≠ 0 → I' 85 j = I 85 j) → I' 85 0 = nI 0 → mSh I' th so ct (fu ce k (fu (ce k) i (cutS (so k) v))) → Q 1 I' J (rf t)) : Mi 3 yX10_put (wm yX10_put cX10_put 4 (some .int)) [.ref (ad 85), .int (kv), .int (iv), .int (v)] ad I J (rf t) Q := by
  refine mi_of (own := RX10) yk_X10_put rfl (Nat.le_of_ble_eq_true rfl) rfl (fun X hA hnL C K E => ?_)
  subst hA
  refine z_aload_n (n := 1) C 0 dX10_put_0 rfl rfl ?_
  refine z_iconst (n := 2) (v := 0) C dX10_put_1 rfl rfl ?_
  refine z_putI (n := 5) C K fF_RX10_87 dX10_put_2 rfl sh_85 (by decide) ?_
  refine z_iload_n (n := 6) C 1 dX10_put_5 rfl rfl ?_
  refine z_si_1 (n := 9) (d' := 2) C K dX10_put_6 rfl yk_X10_isSheet kT_yX10_isSheet kM_RX10_99 (by decide) hR0 rfl ?_
  refine c_X10_isSheet (fun b6 => ?_) (fun b6 => ?_)
  · refine z_ifT_ne (tgt := 14) C (by decide) dX10_put_9 rfl ?_
    obtain ⟨k, hk3, rfl⟩ := isB_of (h := 3) b6
    have hk : k < 4 := by omega
    have hz := hs.fa (j := 0) (v := 0) k hk
    have hkc : (nI k).toNatClampNeg = k := nI_clamp (by omega)
    have hok := ok k hk
    refine z_aload_n (n := 15) C 0 dX10_put_14 rfl rfl ?_
    refine z_getR (n := 18) (q := 86) C K fF_RX10_9 dX10_put_15 rfl rfl sh_85 (by decide) rfl ?_
    refine z_iload_n (n := 19) C 1 dX10_put_18 rfl rfl ?_
    refine z_ialdN (n := 20) C K k dX10_put_19 rfl sh_86 (by decide) rfl hk (by decide) ?_
    refine z_bipush (n := 22) (v := (-9)) C dX10_put_20 rfl rfl ?_
    rw [hz.1]
    refine z_icmp_ne (tgt := 31) (n := 25) C dX10_put_22 rfl rfl (fun c22 => ?_) (fun c22 => ?_)
    · refine z_iload_n (n := 32) C 2 dX10_put_31 rfl rfl ?_
      refine z_iconst (n := 33) (v := 0) C dX10_put_32 rfl rfl ?_
      refine z_aload_n (n := 34) C 0 dX10_put_33 rfl rfl ?_
      refine z_getR (n := 37) (q := 87) C K fF_RX10_13 dX10_put_34 rfl rfl sh_85 (by decide) rfl ?_
      refine z_iload_n (n := 38) C 1 dX10_put_37 rfl rfl ?_
      refine z_ialdN (n := 39) C K k dX10_put_38 rfl sh_87 (by decide) rfl hk (by decide) ?_
      refine z_iconst (n := 40) (v := 1) C dX10_put_39 rfl rfl ?_
      refine z_isub (n := 41) C dX10_put_40 rfl ?_
      refine z_si_3 (n := 44) (d' := 1) C K dX10_put_41 rfl yk_X10_within kT_yX10_within kM_RX10_92 (by decide) hR0 rfl ?_
      refine m_inB (lo := 0) (hi := (ct k : Int) - 1) (by decide) (by rw [hz.2.1, fb_subI (by rw [nI_toInt (by omega)]; simp only [Int32.reduceToInt]; omega) (by rw [nI_toInt (by omega)]; simp only [Int32.reduceToInt]; omega), nI_toInt (by omega)]; rfl) (fun b41 => ?_) (fun b41 => ?_)
      · refine z_ifT_ne (tgt := 53) C (by decide) dX10_put_44 rfl ?_
        obtain ⟨i, hi, rfl⟩ := i_natlt (n := ct k) (x := iv) b41.1 (by have := b41.2; omega)
        have hth : th k = true := by cases h : th k with | true => rfl | false => rw [h] at c22; exact absurd rfl c22
        refine z_aload_n (n := 54) C 0 dX10_put_53 rfl rfl ?_
        refine z_getR (n := 57) (q := 88) C K fF_RX10_16 dX10_put_54 rfl rfl sh_85 (by decide) rfl ?_
        refine z_bipush (n := 59) (v := 100) C dX10_put_57 rfl rfl ?_
        refine z_iload_n (n := 60) C 1 dX10_put_59 rfl rfl ?_
        refine z_imul (n := 61) C dX10_put_60 rfl ?_
        refine z_iload_n (n := 62) C 2 dX10_put_61 rfl rfl ?_
        refine z_iadd (n := 63) C dX10_put_62 rfl ?_
        refine z_aload_n (n := 64) C 0 dX10_put_63 rfl rfl ?_
        refine z_getR (n := 67) (q := 86) C K fF_RX10_9 dX10_put_64 rfl rfl sh_85 (by decide) rfl ?_
        refine z_iload_n (n := 68) C 1 dX10_put_67 rfl rfl ?_
        refine z_ialdN (n := 69) C K k dX10_put_68 rfl sh_86 (by decide) rfl hk (by decide) ?_
        rw [hz.1, hth]
        refine z_if_ne (tgt := 77) (n := 72) C dX10_put_69 rfl rfl (fun c69 => ?_) (fun c69 => ?_)
        · refine z_aload_n (n := 78) C 0 dX10_put_77 rfl rfl ?_
          refine z_getR (n := 81) (q := 86) C K fF_RX10_9 dX10_put_78 rfl rfl sh_85 (by decide) rfl ?_
          refine z_iload_n (n := 82) C 1 dX10_put_81 rfl rfl ?_
          refine z_ialdN (n := 83) C K k dX10_put_82 rfl sh_86 (by decide) rfl hk (by decide) ?_
          refine z_iconst (n := 84) (v := 1) C dX10_put_83 rfl rfl ?_
          rw [hz.1, hth]
          refine z_icmp_ne (tgt := 92) (n := 87) C dX10_put_84 rfl rfl (fun c84 => ?_) (fun c84 => ?_)
          · refine z_iload_n (n := 93) C 3 dX10_put_92 rfl rfl ?_
            refine z_iastN (n := 94) C K (100 * k + i) dX10_put_93 rfl sh_88 (by decide) (by rw [show (100 : Int32) = nI 100 from rfl, mul_nI, nI_add]) (by omega) (by decide) ?_
            refine z_iconst (n := 95) (v := 1) C dX10_put_94 rfl rfl ?_
            refine z_iret C E dX10_put_95 ?_
            have hcut : cutS (so k) v = v := by
              have e : so k = 0 ∨ so k = 1 ∨ so k = 2 := by omega
              rcases e with e | e | e <;> rw [e] at c69 c84 ⊢ <;> first | rfl | (exfalso; simp at c69; done) | (exfalso; revert c69; decide) | (exfalso; revert c84; decide)
            refine hS (by unfold putR; rw [if_neg (fun q => q b6), hkc, if_neg (by rw [hth]; decide), if_neg (fun q => q (isN_nI hi (by omega)))]) k i rfl hk rfl (by omega) _ (fun q h0 h1 => ?_) (fun j hj => ?_) ?_ (fun z hz2 => ?_)
            · rw [upI_row _ _ (by omega), upI_row _ _ h0]
            · rw [upI_p _ _ (by omega), upI_k _ _ hj]
            · rw [upI_p _ _ (by omega), upI_same]; rfl
            · have hz3 := hs.fa (j := 0) (v := 0) z hz2
              rw [upI_row _ _ (show 86 ≠ 88 by omega), upI_row _ _ (show 87 ≠ 88 by omega)]
              refine ⟨hz3.1, hz3.2.1, fun a ha => ?_⟩
              by_cases hzk : z = k
              · subst hzk
                rw [fu_same]
                by_cases hai : a = i
                · subst hai; rw [upI_same, fu_same, hcut]
                · rw [upI_k _ _ (by omega), fu_ne _ _ hai]; exact hz3.2.2 a ha
              · rw [upI_k _ _ (by omega), fu_ne _ _ hzk]; exact hz3.2.2 a ha
          · refine z_iload_n (n := 88) C 3 dX10_put_87 rfl rfl ?_
            refine z_i2s (n := 89) C dX10_put_88 rfl ?_
            refine z_goto (n := 93) C dX10_put_89 rfl ?_
            refine z_iastN (n := 94) C K (100 * k + i) dX10_put_93 rfl sh_88 (by decide) (by rw [show (100 : Int32) = nI 100 from rfl, mul_nI, nI_add]) (by omega) (by decide) ?_
            refine z_iconst (n := 95) (v := 1) C dX10_put_94 rfl rfl ?_
            refine z_iret C E dX10_put_95 ?_
            have hcut : cutS (so k) v = v.toInt16.toInt32 := by
              have e : so k = 0 ∨ so k = 1 ∨ so k = 2 := by omega
              rcases e with e | e | e <;> rw [e] at c69 c84 ⊢ <;> first | rfl | (exfalso; simp at c69; done) | (exfalso; revert c69; decide) | (exfalso; revert c84; decide)
            refine hS (by unfold putR; rw [if_neg (fun q => q b6), hkc, if_neg (by rw [hth]; decide), if_neg (fun q => q (isN_nI hi (by omega)))]) k i rfl hk rfl (by omega) _ (fun q h0 h1 => ?_) (fun j hj => ?_) ?_ (fun z hz2 => ?_)
            · rw [upI_row _ _ (by omega), upI_row _ _ h0]
            · rw [upI_p _ _ (by omega), upI_k _ _ hj]
            · rw [upI_p _ _ (by omega), upI_same]; rfl
            · have hz3 := hs.fa (j := 0) (v := 0) z hz2
              rw [upI_row _ _ (show 86 ≠ 88 by omega), upI_row _ _ (show 87 ≠ 88 by omega)]
              refine ⟨hz3.1, hz3.2.1, fun a ha => ?_⟩
              by_cases hzk : z = k
              · subst hzk
                rw [fu_same]
                by_cases hai : a = i
                · subst hai; rw [upI_same, fu_same, hcut]
                · rw [upI_k _ _ (by omega), fu_ne _ _ hai]; exact hz3.2.2 a ha
              · rw [upI_k _ _ (by omega), fu_ne _ _ hzk]; exact hz3.2.2 a ha
        · refine z_iload_n (n := 73) C 3 dX10_put_72 rfl rfl ?_
          refine z_i2b (n := 74) C dX10_put_73 rfl ?_
          refine z_goto (n := 93) C dX10_put_74 rfl ?_
          refine z_iastN (n := 94) C K (100 * k + i) dX10_put_93 rfl sh_88 (by decide) (by rw [show (100 : Int32) = nI 100 from rfl, mul_nI, nI_add]) (by omega) (by decide) ?_
          refine z_iconst (n := 95) (v := 1) C dX10_put_94 rfl rfl ?_
          refine z_iret C E dX10_put_95 ?_
          have hcut : cutS (so k) v = v.toInt8.toInt32 := by
            have e : so k = 0 ∨ so k = 1 ∨ so k = 2 := by omega
            rcases e with e | e | e <;> rw [e] at c69 ⊢ <;> first | rfl | (exfalso; simp at c69; done) | (exfalso; revert c69; decide) | (exfalso; revert c84; decide)
          refine hS (by unfold putR; rw [if_neg (fun q => q b6), hkc, if_neg (by rw [hth]; decide), if_neg (fun q => q (isN_nI hi (by omega)))]) k i rfl hk rfl (by omega) _ (fun q h0 h1 => ?_) (fun j hj => ?_) ?_ (fun z hz2 => ?_)
          · rw [upI_row _ _ (by omega), upI_row _ _ h0]
          · rw [upI_p _ _ (by omega), upI_k _ _ hj]
          · rw [upI_p _ _ (by omega), upI_same]; rfl
          · have hz3 := hs.fa (j := 0) (v := 0) z hz2
            rw [upI_row _ _ (show 86 ≠ 88 by omega), upI_row _ _ (show 87 ≠ 88 by omega)]
            refine ⟨hz3.1, hz3.2.1, fun a ha => ?_⟩
            by_cases hzk : z = k
            · subst hzk
              rw [fu_same]
              by_cases hai : a = i
              · subst hai; rw [upI_same, fu_same, hcut]
              · rw [upI_k _ _ (by omega), fu_ne _ _ hai]; exact hz3.2.2 a ha
            · rw [upI_k _ _ (by omega), fu_ne _ _ hzk]; exact hz3.2.2 a ha
      · refine z_ifF_ne (n := 47) (tgt := 53) C (by decide) dX10_put_44 rfl rfl ?_
        refine z_aload_n (n := 48) C 0 dX10_put_47 rfl rfl ?_
        refine z_iconst (n := 49) (v := 3) C dX10_put_48 rfl rfl ?_
        refine z_vi_1 (n := 52) (d' := 1) C K dX10_put_49 rfl yk_X10_fails yv_X10_fails kM_RX10_110 (by decide) hR0 rfl rfl sh_85 (by decide) (by decide) ?_
        refine c_X10_fails ?_
        refine z_iret C E dX10_put_52 ?_
        rw [so_n9 hok.1] at c22
        rw [upI_upI]
        exact hR (-13) 3 (by unfold putR; rw [if_neg (fun q => q b6), hkc, if_neg c22, if_pos (fun q => b41 ⟨q.1, by have := q.2; omega⟩)])
    · refine z_aload_n (n := 26) C 0 dX10_put_25 rfl rfl ?_
      refine z_iconst (n := 27) (v := 1) C dX10_put_26 rfl rfl ?_
      refine z_vi_1 (n := 30) (d' := 1) C K dX10_put_27 rfl yk_X10_fails yv_X10_fails kM_RX10_110 (by decide) hR0 rfl rfl sh_85 (by decide) (by decide) ?_
      refine c_X10_fails ?_
      refine z_iret C E dX10_put_30 ?_
      rw [so_n9 hok.1] at c22
      rw [upI_upI]
      exact hR (-11) 1 (by unfold putR; rw [if_neg (fun q => q b6), hkc, if_pos c22])
  · refine z_ifF_ne (n := 12) (tgt := 14) C (by decide) dX10_put_9 rfl rfl ?_
    refine z_iconst (n := 13) (v := (-1)) C dX10_put_12 rfl rfl ?_
    refine z_iret C E dX10_put_13 ?_
    exact hR (-1) 0 (by unfold putR; rw [if_pos b6])
