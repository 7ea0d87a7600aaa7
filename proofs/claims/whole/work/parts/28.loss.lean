theorem lN_i2l {n : Nat} (h : n < 2 ^ 31) : (nI n).toInt64 = lN n := nI_l h
theorem rem_dg (w i : Nat) : w / 10 ^ i % 10 = dgS w i := rfl
set_option maxHeartbeats 4000000 in
set_option maxRecDepth 100000 in
theorem l_X9_weightSum {X : KX} {J : KJ} {t : Nat} (C : Cx X RX9 cX9_weightSum 1) (K : Kx X) (hnL : xnL X = 5) {Q : Int64 → KI → KJ → KR → Prop} (E : El X Q) {I : KI} {w : Nat} (hw : w < 10 ^ 8)  (hQ : Q (lN (wtS w 8)) I J (rf t)) : ∀ (f : Nat) (i : Nat), 8 - i < f → i ≤ 8 → Z X 0 0 (V X I J (rf t)) 7 [(4, .int (nI i)), (3, .int (nI (w / 10 ^ i))), (1, .long (lN (wtS w i))), (0, .int (nI w))] [] := by
  intro f
  induction f with
  | zero => intro i h; omega
  | succ f ih =>
    intro i hf hi
    refine z_iload (n := 9) C 0 dX9_weightSum_7 rfl rfl ?_
    refine z_bipush (n := 11) (v := 8) C dX9_weightSum_9 rfl rfl ?_
    refine z_icmp_ge (tgt := 33) (n := 14) C dX9_weightSum_11 rfl rfl (fun c11 => ?_) (fun c11 => ?_)
    · rw [fa_le, nI_toInt (by omega)] at c11
      simp only [Int32.reduceToInt] at c11
      have e : i = 8 := by omega
      subst e
      refine z_lload_n (n := 34) C 2 dX9_weightSum_33 rfl rfl ?_
      refine z_lret C E dX9_weightSum_34 ?_
      exact hQ
    · rw [fa_le, nI_toInt (by omega)] at c11
      simp only [Int32.reduceToInt] at c11
      have hwi : w / 10 ^ i ≤ w := Nat.div_le_self _ _
      have hdl := dgS_lt w i
      have hsl := wtS_le w i
      refine z_lload_n (n := 15) C 2 dX9_weightSum_14 rfl rfl ?_
      refine z_iload_n (n := 16) C 1 dX9_weightSum_15 rfl rfl ?_
      refine z_bipush (n := 18) (v := 10) C dX9_weightSum_16 rfl rfl ?_
      refine z_irem (n := 19) C dX9_weightSum_18 rfl (by decide) ?_
      rw [show (10 : Int32) = nI 10 from rfl, pk_rem (by omega) (by decide) (by decide)]
      refine z_i2l (n := 20) C dX9_weightSum_19 rfl ?_
      rw [rem_dg, lN_i2l (by omega)]
      refine z_ladd (n := 21) C dX9_weightSum_20 rfl ?_
      rw [lN_add]
      refine z_lstore_n (n := 22) (L' := [(1, _), (4, _), (3, _), (0, _)]) C dX9_weightSum_21 rfl (by rw [hnL]; decide) rfl ?_
      refine z_iload_n (n := 23) C 2 dX9_weightSum_22 rfl rfl ?_
      refine z_bipush (n := 25) (v := 10) C dX9_weightSum_23 rfl rfl ?_
      refine z_idiv (n := 26) C dX9_weightSum_25 rfl (by decide) ?_
      rw [show (10 : Int32) = nI 10 from rfl, pk_div (by omega) (by decide) (by decide)]
      refine z_istore_n (n := 27) (L' := [(3, _), (1, _), (4, _), (0, _)]) C dX9_weightSum_26 rfl (by rw [hnL]; decide) rfl ?_
      refine z_iincG (n := 30) (c := 1) (L' := [(4, _), (3, _), (1, _), (0, _)]) C 2 dX9_weightSum_27 rfl rfl rfl (by rw [hnL]; decide) rfl ?_
      refine z_goto (n := 7) C dX9_weightSum_30 rfl ?_
      rw [nI_1, ← div_s]
      exact ih (i + 1) (by omega) (by omega)
set_option maxHeartbeats 4000000 in
set_option maxRecDepth 100000 in
theorem c_X9_weightSum {ad : Nat → Nat} {I : KI} {J : KJ} {t : Nat} {w : Nat} (hw : w < 10 ^ 8)  {Q : Int64 → KI → KJ → KR → Prop} (hQ : Q (lN (wtS w 8)) I J (rf t)) : Ml 1 yX9_weightSum (wm yX9_weightSum cX9_weightSum 5 (some .long)) [.int (nI w)] ad I J (rf t) Q := by
  refine ml_of (own := RX9) yk_X9_weightSum rfl (Nat.le_of_ble_eq_true rfl) rfl (fun X hA hnL C K E => ?_)
  subst hA
  refine z_lconst (n := 1) (v := 0) C dX9_weightSum_0 rfl rfl ?_
  refine z_lstore_n (n := 2) (L' := [(1, _), (0, _)]) C dX9_weightSum_1 rfl (by rw [hnL]; decide) rfl ?_
  refine z_iload_n (n := 3) C 1 dX9_weightSum_2 rfl rfl ?_
  refine z_istore_n (n := 4) (L' := [(3, _), (1, _), (0, _)]) C dX9_weightSum_3 rfl (by rw [hnL]; decide) rfl ?_
  refine z_iconst (n := 5) (v := 0) C dX9_weightSum_4 rfl rfl ?_
  refine z_istore (n := 7) (L' := [(4, _), (3, _), (1, _), (0, _)]) C dX9_weightSum_5 rfl (by rw [hnL]; decide) rfl ?_
  have h1 := l_X9_weightSum C K hnL E hw hQ 9 0 (by omega) (by omega)
  rw [Nat.pow_zero, Nat.div_one] at h1
  exact h1
set_option maxHeartbeats 4000000 in
set_option maxRecDepth 100000 in
theorem l_X9_lossSum {X : KX} {J : KJ} {t : Nat} (C : Cx X RX9 cX9_lossSum 1) (K : Kx X) (hnL : xnL X = 9) {Q : Int64 → KI → KJ → KR → Prop} (E : El X Q) {I : KI} {w n c k : Nat} (hw : w < 10 ^ 8) (hn : n ≤ 9) (hc : c ≤ 99) (hk : k ≤ 9) (hQ : Q (lN (lsS w n c k 8)) I J (rf t)) : ∀ (f : Nat) (i : Nat), 8 - i < f → i ≤ 8 → Z X 0 0 (V X I J (rf t)) 9 [(7, .int (nI i)), (6, .int (nI (w / 10 ^ i))), (4, .long (lN (lsS w n c k i))), (0, .int (nI w)), (1, .int (nI n)), (2, .int (nI c)), (3, .int (nI k))] [] := by
  intro f
  induction f with
  | zero => intro i h; omega
  | succ f ih =>
    intro i hf hi
    refine z_iload (n := 11) C 0 dX9_lossSum_9 rfl rfl ?_
    refine z_bipush (n := 13) (v := 8) C dX9_lossSum_11 rfl rfl ?_
    refine z_icmp_ge (tgt := 64) (n := 16) C dX9_lossSum_13 rfl rfl (fun c13 => ?_) (fun c13 => ?_)
    · rw [fa_le, nI_toInt (by omega)] at c13
      simp only [Int32.reduceToInt] at c13
      have e : i = 8 := by omega
      subst e
      refine z_lload (n := 66) C 2 dX9_lossSum_64 rfl rfl ?_
      refine z_lret C E dX9_lossSum_66 ?_
      exact hQ
    · rw [fa_le, nI_toInt (by omega)] at c13
      simp only [Int32.reduceToInt] at c13
      have hwi : w / 10 ^ i ≤ w := Nat.div_le_self _ _
      have hdl := dgS_lt w i
      have hsl := lsS_le (w := w) hn hc hk i
      have hco := coS_le (i := i) hn hc hk
      refine z_iload (n := 18) C 0 dX9_lossSum_16 rfl rfl ?_
      refine z_iload_n (n := 19) C 6 dX9_lossSum_18 rfl rfl ?_
      refine z_icmp_gt (tgt := 29) (n := 22) C dX9_lossSum_19 rfl rfl (fun c19 => ?_) (fun c19 => ?_)
      · rw [fa_lt, nI_toInt (by omega), nI_toInt (by omega)] at c19
        refine z_iload_n (n := 30) C 5 dX9_lossSum_29 rfl rfl ?_
        refine z_iload_n (n := 31) C 4 dX9_lossSum_30 rfl rfl ?_
        refine z_iload_n (n := 32) C 6 dX9_lossSum_31 rfl rfl ?_
        refine z_imul (n := 33) C dX9_lossSum_32 rfl ?_
        refine z_iadd (n := 34) C dX9_lossSum_33 rfl ?_
        rw [mul_nI, nI_add, show c + n * k = coS n c k i by unfold coS; rw [if_neg (by omega)]]
        refine z_istore (n := 36) (L' := [(8, _), (7, _), (6, _), (4, _), (0, _), (1, _), (2, _), (3, _)]) C dX9_lossSum_34 rfl (by rw [hnL]; decide) rfl ?_
        refine z_lload (n := 38) C 3 dX9_lossSum_36 rfl rfl ?_
        refine z_iload (n := 40) C 2 dX9_lossSum_38 rfl rfl ?_
        refine z_bipush (n := 42) (v := 10) C dX9_lossSum_40 rfl rfl ?_
        refine z_irem (n := 43) C dX9_lossSum_42 rfl (by decide) ?_
        rw [show (10 : Int32) = nI 10 from rfl, pk_rem (by omega) (by decide) (by decide)]
        refine z_i2l (n := 44) C dX9_lossSum_43 rfl ?_
        rw [rem_dg, lN_i2l (by omega)]
        refine z_iload (n := 46) C 0 dX9_lossSum_44 rfl rfl ?_
        refine z_i2l (n := 47) C dX9_lossSum_46 rfl ?_
        rw [lN_i2l (by omega)]
        refine z_lmul (n := 48) C dX9_lossSum_47 rfl ?_
        refine z_ladd (n := 49) C dX9_lossSum_48 rfl ?_
        rw [lN_mul, lN_add]
        refine z_lstore (n := 51) (L' := [(4, _), (8, _), (7, _), (6, _), (0, _), (1, _), (2, _), (3, _)]) C dX9_lossSum_49 rfl (by rw [hnL]; decide) rfl ?_
        refine z_iload (n := 53) C 3 dX9_lossSum_51 rfl rfl ?_
        refine z_bipush (n := 55) (v := 10) C dX9_lossSum_53 rfl rfl ?_
        refine z_idiv (n := 56) C dX9_lossSum_55 rfl (by decide) ?_
        rw [show (10 : Int32) = nI 10 from rfl, pk_div (by omega) (by decide) (by decide)]
        refine z_istore (n := 58) (L' := [(6, _), (4, _), (8, _), (7, _), (0, _), (1, _), (2, _), (3, _)]) C dX9_lossSum_56 rfl (by rw [hnL]; decide) rfl ?_
        refine z_iincG (n := 61) (c := 1) (L' := [(7, _), (6, _), (4, _), (8, _), (0, _), (1, _), (2, _), (3, _)]) C 3 dX9_lossSum_58 rfl rfl rfl (by rw [hnL]; decide) rfl ?_
        refine z_goto (n := 9) C dX9_lossSum_61 rfl ?_
        refine z_sub (L' := [(7, _), (6, _), (4, _), (0, _), (1, _), (2, _), (3, _)]) [0, 1, 2, 4, 5, 6, 7] rfl ?_
        rw [nI_1, ← div_s]
        exact ih (i + 1) (by omega) (by omega)
      · refine z_iload_n (n := 23) C 4 dX9_lossSum_22 rfl rfl ?_
        refine z_iload (n := 25) C 0 dX9_lossSum_23 rfl rfl ?_
        refine z_imul (n := 26) C dX9_lossSum_25 rfl ?_
        rw [fa_lt, nI_toInt (by omega), nI_toInt (by omega)] at c19
        rw [mul_nI, show n * i = coS n c k i by unfold coS; rw [if_pos (by omega)]]
        refine z_goto (n := 34) C dX9_lossSum_26 rfl ?_
        refine z_istore (n := 36) (L' := [(8, _), (7, _), (6, _), (4, _), (0, _), (1, _), (2, _), (3, _)]) C dX9_lossSum_34 rfl (by rw [hnL]; decide) rfl ?_
        refine z_lload (n := 38) C 3 dX9_lossSum_36 rfl rfl ?_
        refine z_iload (n := 40) C 2 dX9_lossSum_38 rfl rfl ?_
        refine z_bipush (n := 42) (v := 10) C dX9_lossSum_40 rfl rfl ?_
        refine z_irem (n := 43) C dX9_lossSum_42 rfl (by decide) ?_
        rw [show (10 : Int32) = nI 10 from rfl, pk_rem (by omega) (by decide) (by decide)]
        refine z_i2l (n := 44) C dX9_lossSum_43 rfl ?_
        rw [rem_dg, lN_i2l (by omega)]
        refine z_iload (n := 46) C 0 dX9_lossSum_44 rfl rfl ?_
        refine z_i2l (n := 47) C dX9_lossSum_46 rfl ?_
        rw [lN_i2l (by omega)]
        refine z_lmul (n := 48) C dX9_lossSum_47 rfl ?_
        refine z_ladd (n := 49) C dX9_lossSum_48 rfl ?_
        rw [lN_mul, lN_add]
        refine z_lstore (n := 51) (L' := [(4, _), (8, _), (7, _), (6, _), (0, _), (1, _), (2, _), (3, _)]) C dX9_lossSum_49 rfl (by rw [hnL]; decide) rfl ?_
        refine z_iload (n := 53) C 3 dX9_lossSum_51 rfl rfl ?_
        refine z_bipush (n := 55) (v := 10) C dX9_lossSum_53 rfl rfl ?_
        refine z_idiv (n := 56) C dX9_lossSum_55 rfl (by decide) ?_
        rw [show (10 : Int32) = nI 10 from rfl, pk_div (by omega) (by decide) (by decide)]
        refine z_istore (n := 58) (L' := [(6, _), (4, _), (8, _), (7, _), (0, _), (1, _), (2, _), (3, _)]) C dX9_lossSum_56 rfl (by rw [hnL]; decide) rfl ?_
        refine z_iincG (n := 61) (c := 1) (L' := [(7, _), (6, _), (4, _), (8, _), (0, _), (1, _), (2, _), (3, _)]) C 3 dX9_lossSum_58 rfl rfl rfl (by rw [hnL]; decide) rfl ?_
        refine z_goto (n := 9) C dX9_lossSum_61 rfl ?_
        refine z_sub (L' := [(7, _), (6, _), (4, _), (0, _), (1, _), (2, _), (3, _)]) [0, 1, 2, 4, 5, 6, 7] rfl ?_
        rw [nI_1, ← div_s]
        exact ih (i + 1) (by omega) (by omega)
set_option maxHeartbeats 4000000 in
set_option maxRecDepth 100000 in
theorem c_X9_lossSum {ad : Nat → Nat} {I : KI} {J : KJ} {t : Nat} {w n c k : Nat} (hw : w < 10 ^ 8) (hn : n ≤ 9) (hc : c ≤ 99) (hk : k ≤ 9) {Q : Int64 → KI → KJ → KR → Prop} (hQ : Q (lN (lsS w n c k 8)) I J (rf t)) : Ml 1 yX9_lossSum (wm yX9_lossSum cX9_lossSum 9 (some .long)) [.int (nI w), .int (nI n), .int (nI c), .int (nI k)] ad I J (rf t) Q := by
  refine ml_of (own := RX9) yk_X9_lossSum rfl (Nat.le_of_ble_eq_true rfl) rfl (fun X hA hnL C K E => ?_)
  subst hA
  refine z_lconst (n := 1) (v := 0) C dX9_lossSum_0 rfl rfl ?_
  refine z_lstore (n := 3) (L' := [(4, _), (0, _), (1, _), (2, _), (3, _)]) C dX9_lossSum_1 rfl (by rw [hnL]; decide) rfl ?_
  refine z_iload_n (n := 4) C 1 dX9_lossSum_3 rfl rfl ?_
  refine z_istore (n := 6) (L' := [(6, _), (4, _), (0, _), (1, _), (2, _), (3, _)]) C dX9_lossSum_4 rfl (by rw [hnL]; decide) rfl ?_
  refine z_iconst (n := 7) (v := 0) C dX9_lossSum_6 rfl rfl ?_
  refine z_istore (n := 9) (L' := [(7, _), (6, _), (4, _), (0, _), (1, _), (2, _), (3, _)]) C dX9_lossSum_7 rfl (by rw [hnL]; decide) rfl ?_
  have h1 := l_X9_lossSum C K hnL E hw hn hc hk hQ 9 0 (by omega) (by omega)
  rw [Nat.pow_zero, Nat.div_one] at h1
  exact h1
set_option maxHeartbeats 4000000 in
set_option maxRecDepth 100000 in
theorem l_X10_lossOf {X : KX} {J : KJ} {t : Nat} (C : Cx X RX10 cX10_lossOf 1) (K : Kx X) (hnL : xnL X = 7) {Q : Int32 → KI → KJ → KR → Prop} (E : Ei X .int Q) {I : KI} {w n c k : Nat} (hw : w < 10 ^ 8) (hn : n ≤ 9) (hc : c ≤ 99) (hk : k ≤ 9) (hQ : Q (nI (lsS w n c k 8)) I J (rf t)) : ∀ (f : Nat) (i : Nat), 8 - i < f → i ≤ 8 → Z X 0 0 (V X I J (rf t)) 9 [(6, .int (nI i)), (5, .int (nI (w / 10 ^ i))), (4, .int (nI (lsS w n c k i))), (0, .int (nI w)), (1, .int (nI n)), (2, .int (nI c)), (3, .int (nI k))] [] := by
  intro f
  induction f with
  | zero => intro i h; omega
  | succ f ih =>
    intro i hf hi
    have hwi : w / 10 ^ i ≤ w := Nat.div_le_self _ _
    have hdl := dgS_lt w i
    refine z_iload (n := 11) C 1 dX10_lossOf_9 rfl rfl ?_
    refine z_if_le (tgt := 56) (n := 14) C dX10_lossOf_11 rfl rfl (fun c11 => ?_) (fun c11 => ?_)
    · rw [fa_le, nI_toInt (by omega)] at c11
      simp only [Int32.reduceToInt] at c11
      have h1 := lsS_0 (n := n) (c := c) (k := k) (w := w) (i := i) (Nat.le_zero.mp (by exact_mod_cast c11)) (8 - i)
      rw [show i + (8 - i) = 8 by omega] at h1
      rw [h1] at hQ
      refine z_iload (n := 58) C 2 dX10_lossOf_56 rfl rfl ?_
      refine z_iret C E dX10_lossOf_58 ?_
      exact hQ
    · rw [fa_le, nI_toInt (by omega)] at c11
      simp only [Int32.reduceToInt] at c11
      have hi8 : i < 8 := by
        have h0 : i ≠ 8 := fun e => by rw [e, Nat.div_eq_of_lt hw] at c11; omega
        omega
      have hsl := lsS_le (w := w) hn hc hk i
      have hco := coS_le (i := i) hn hc hk
      refine z_iload (n := 16) C 2 dX10_lossOf_14 rfl rfl ?_
      refine z_iload (n := 18) C 1 dX10_lossOf_16 rfl rfl ?_
      refine z_bipush (n := 20) (v := 10) C dX10_lossOf_18 rfl rfl ?_
      refine z_irem (n := 21) C dX10_lossOf_20 rfl (by decide) ?_
      rw [show (10 : Int32) = nI 10 from rfl, pk_rem (by omega) (by decide) (by decide)]
      rw [rem_dg]
      refine z_iload (n := 23) C 0 dX10_lossOf_21 rfl rfl ?_
      refine z_iload_n (n := 24) C 6 dX10_lossOf_23 rfl rfl ?_
      refine z_icmp_gt (tgt := 34) (n := 27) C dX10_lossOf_24 rfl rfl (fun c24 => ?_) (fun c24 => ?_)
      · rw [fa_lt, nI_toInt (by omega), nI_toInt (by omega)] at c24
        refine z_iload_n (n := 35) C 5 dX10_lossOf_34 rfl rfl ?_
        refine z_iload_n (n := 36) C 4 dX10_lossOf_35 rfl rfl ?_
        refine z_iload_n (n := 37) C 6 dX10_lossOf_36 rfl rfl ?_
        refine z_imul (n := 38) C dX10_lossOf_37 rfl ?_
        refine z_iadd (n := 39) C dX10_lossOf_38 rfl ?_
        rw [mul_nI, nI_add, show c + n * k = coS n c k i by unfold coS; rw [if_neg (by omega)]]
        refine z_imul (n := 40) C dX10_lossOf_39 rfl ?_
        refine z_iadd (n := 41) C dX10_lossOf_40 rfl ?_
        rw [mul_nI, nI_add]
        refine z_istore (n := 43) (L' := [(4, _), (6, _), (5, _), (0, _), (1, _), (2, _), (3, _)]) C dX10_lossOf_41 rfl (by rw [hnL]; decide) rfl ?_
        refine z_iload (n := 45) C 2 dX10_lossOf_43 rfl rfl ?_
        refine z_bipush (n := 47) (v := 10) C dX10_lossOf_45 rfl rfl ?_
        refine z_idiv (n := 48) C dX10_lossOf_47 rfl (by decide) ?_
        rw [show (10 : Int32) = nI 10 from rfl, pk_div (by omega) (by decide) (by decide)]
        refine z_istore (n := 50) (L' := [(5, _), (4, _), (6, _), (0, _), (1, _), (2, _), (3, _)]) C dX10_lossOf_48 rfl (by rw [hnL]; decide) rfl ?_
        refine z_iincG (n := 53) (c := 1) (L' := [(6, _), (5, _), (4, _), (0, _), (1, _), (2, _), (3, _)]) C 2 dX10_lossOf_50 rfl rfl rfl (by rw [hnL]; decide) rfl ?_
        refine z_goto (n := 9) C dX10_lossOf_53 rfl ?_
        rw [nI_1, ← div_s]
        exact ih (i + 1) (by omega) (by omega)
      · rw [fa_lt, nI_toInt (by omega), nI_toInt (by omega)] at c24
        refine z_iload_n (n := 28) C 4 dX10_lossOf_27 rfl rfl ?_
        refine z_iload (n := 30) C 0 dX10_lossOf_28 rfl rfl ?_
        refine z_imul (n := 31) C dX10_lossOf_30 rfl ?_
        refine z_goto (n := 39) C dX10_lossOf_31 rfl ?_
        rw [mul_nI, show n * i = coS n c k i by unfold coS; rw [if_pos (by omega)]]
        refine z_imul (n := 40) C dX10_lossOf_39 rfl ?_
        refine z_iadd (n := 41) C dX10_lossOf_40 rfl ?_
        rw [mul_nI, nI_add]
        refine z_istore (n := 43) (L' := [(4, _), (6, _), (5, _), (0, _), (1, _), (2, _), (3, _)]) C dX10_lossOf_41 rfl (by rw [hnL]; decide) rfl ?_
        refine z_iload (n := 45) C 2 dX10_lossOf_43 rfl rfl ?_
        refine z_bipush (n := 47) (v := 10) C dX10_lossOf_45 rfl rfl ?_
        refine z_idiv (n := 48) C dX10_lossOf_47 rfl (by decide) ?_
        rw [show (10 : Int32) = nI 10 from rfl, pk_div (by omega) (by decide) (by decide)]
        refine z_istore (n := 50) (L' := [(5, _), (4, _), (6, _), (0, _), (1, _), (2, _), (3, _)]) C dX10_lossOf_48 rfl (by rw [hnL]; decide) rfl ?_
        refine z_iincG (n := 53) (c := 1) (L' := [(6, _), (5, _), (4, _), (0, _), (1, _), (2, _), (3, _)]) C 2 dX10_lossOf_50 rfl rfl rfl (by rw [hnL]; decide) rfl ?_
        refine z_goto (n := 9) C dX10_lossOf_53 rfl ?_
        rw [nI_1, ← div_s]
        exact ih (i + 1) (by omega) (by omega)
set_option maxHeartbeats 4000000 in
set_option maxRecDepth 100000 in
theorem c_X10_lossOf {ad : Nat → Nat} {I : KI} {J : KJ} {t : Nat} {w n c k : Nat} (hw : w < 10 ^ 8) (hn : n ≤ 9) (hc : c ≤ 99) (hk : k ≤ 9) {Q : Int32 → KI → KJ → KR → Prop} (hQ : Q (nI (lsS w n c k 8)) I J (rf t)) : Mi 1 yX10_lossOf (wm yX10_lossOf cX10_lossOf 7 (some .int)) [.int (nI w), .int (nI n), .int (nI c), .int (nI k)] ad I J (rf t) Q := by
  refine mi_of (own := RX10) yk_X10_lossOf rfl (Nat.le_of_ble_eq_true rfl) rfl (fun X hA hnL C K E => ?_)
  subst hA
  refine z_iconst (n := 1) (v := 0) C dX10_lossOf_0 rfl rfl ?_
  refine z_istore (n := 3) (L' := [(4, _), (0, _), (1, _), (2, _), (3, _)]) C dX10_lossOf_1 rfl (by rw [hnL]; decide) rfl ?_
  refine z_iload_n (n := 4) C 1 dX10_lossOf_3 rfl rfl ?_
  refine z_istore (n := 6) (L' := [(5, _), (4, _), (0, _), (1, _), (2, _), (3, _)]) C dX10_lossOf_4 rfl (by rw [hnL]; decide) rfl ?_
  refine z_iconst (n := 7) (v := 0) C dX10_lossOf_6 rfl rfl ?_
  refine z_istore (n := 9) (L' := [(6, _), (5, _), (4, _), (0, _), (1, _), (2, _), (3, _)]) C dX10_lossOf_7 rfl (by rw [hnL]; decide) rfl ?_
  have h1 := l_X10_lossOf C K hnL E hw hn hc hk hQ 9 0 (by omega) (by omega)
  rw [Nat.pow_zero, Nat.div_one] at h1
  exact h1
set_option maxHeartbeats 4000000 in
set_option maxRecDepth 100000 in
theorem c_X9_isWait {ad : Nat → Nat} {I : KI} {J : KJ} {t : Nat} {wv nv cv : Int32} {Q : Int32 → KI → KJ → KR → Prop} (h1 : isW wv nv cv → Q 1 I J (rf t)) (h0 : ¬ isW wv nv cv → Q 0 I J (rf t)) : Mi 2 yX9_isWait (wm yX9_isWait cX9_isWait 3 (some .boolean)) [.int (wv), .int (nv), .int (cv)] ad I J (rf t) Q := by
  refine mi_of (own := RX9) yk_X9_isWait rfl (Nat.le_of_ble_eq_true rfl) rfl (fun X hA hnL C K E => ?_)
  subst hA
  refine z_iload_n (n := 1) C 0 dX9_isWait_0 rfl rfl ?_
  refine z_iconst (n := 2) (v := 1) C dX9_isWait_1 rfl rfl ?_
  refine z_ldcw (n := 5) C dX9_isWait_2 kK_RX9_357 rfl ?_
  refine z_si_3 (n := 8) (d' := 1) C K dX9_isWait_5 rfl yk_X9_isWithin kT_yX9_isWithin kM_RX9_131 (by decide) hR0 rfl ?_
  refine c_inB (lo := 1) (hi := 99999999) (by decide) (by decide) (fun b5 => ?_) (fun b5 => ?_)
  · refine z_ifF_eq (n := 11) (tgt := 35) C (by decide) dX9_isWait_8 rfl rfl ?_
    refine z_iload_n (n := 12) C 1 dX9_isWait_11 rfl rfl ?_
    refine z_iconst (n := 13) (v := 1) C dX9_isWait_12 rfl rfl ?_
    refine z_bipush (n := 15) (v := 9) C dX9_isWait_13 rfl rfl ?_
    refine z_si_3 (n := 18) (d' := 1) C K dX9_isWait_15 rfl yk_X9_isWithin kT_yX9_isWithin kM_RX9_131 (by decide) hR0 rfl ?_
    refine c_inB (lo := 1) (hi := 9) (by decide) (by decide) (fun b15 => ?_) (fun b15 => ?_)
    · refine z_ifF_eq (n := 21) (tgt := 35) C (by decide) dX9_isWait_18 rfl rfl ?_
      refine z_iload_n (n := 22) C 2 dX9_isWait_21 rfl rfl ?_
      refine z_iconst (n := 23) (v := 0) C dX9_isWait_22 rfl rfl ?_
      refine z_bipush (n := 25) (v := 99) C dX9_isWait_23 rfl rfl ?_
      refine z_si_3 (n := 28) (d' := 1) C K dX9_isWait_25 rfl yk_X9_isWithin kT_yX9_isWithin kM_RX9_131 (by decide) hR0 rfl ?_
      refine c_inB (lo := 0) (hi := 99) (by decide) (by decide) (fun b25 => ?_) (fun b25 => ?_)
      · refine z_ifF_eq (n := 31) (tgt := 35) C (by decide) dX9_isWait_28 rfl rfl ?_
        refine z_iconst (n := 32) (v := 1) C dX9_isWait_31 rfl rfl ?_
        refine z_goto (n := 36) C dX9_isWait_32 rfl ?_
        refine z_zret C E dX9_isWait_36 (by decide) ?_
        exact h1 ⟨b5, b15, b25⟩
      · refine z_ifT_eq (tgt := 35) C (by decide) dX9_isWait_28 rfl ?_
        refine z_iconst (n := 36) (v := 0) C dX9_isWait_35 rfl rfl ?_
        refine z_zret C E dX9_isWait_36 (by decide) ?_
        exact h0 (fun q => b25 q.2.2)
    · refine z_ifT_eq (tgt := 35) C (by decide) dX9_isWait_18 rfl ?_
      refine z_iconst (n := 36) (v := 0) C dX9_isWait_35 rfl rfl ?_
      refine z_zret C E dX9_isWait_36 (by decide) ?_
      exact h0 (fun q => b15 q.2.1)
  · refine z_ifT_eq (tgt := 35) C (by decide) dX9_isWait_8 rfl ?_
    refine z_iconst (n := 36) (v := 0) C dX9_isWait_35 rfl rfl ?_
    refine z_zret C E dX9_isWait_36 (by decide) ?_
    exact h0 (fun q => b5 q.1)
set_option maxHeartbeats 4000000 in
set_option maxRecDepth 100000 in
theorem c_X10_isLate {ad : Nat → Nat} {I : KI} {J : KJ} {t : Nat} {wv nv cv : Int32} {Q : Int32 → KI → KJ → KR → Prop} (h1 : isW wv nv cv → Q 1 I J (rf t)) (h0 : ¬ isW wv nv cv → Q 0 I J (rf t)) : Mi 2 yX10_isLate (wm yX10_isLate cX10_isLate 3 (some .boolean)) [.int (wv), .int (nv), .int (cv)] ad I J (rf t) Q := by
  refine mi_of (own := RX10) yk_X10_isLate rfl (Nat.le_of_ble_eq_true rfl) rfl (fun X hA hnL C K E => ?_)
  subst hA
  refine z_iload_n (n := 1) C 0 dX10_isLate_0 rfl rfl ?_
  refine z_iconst (n := 2) (v := 1) C dX10_isLate_1 rfl rfl ?_
  refine z_ldcw (n := 5) C dX10_isLate_2 kK_RX10_288 rfl ?_
  refine z_si_3 (n := 8) (d' := 1) C K dX10_isLate_5 rfl yk_X10_within kT_yX10_within kM_RX10_92 (by decide) hR0 rfl ?_
  refine m_inB (lo := 1) (hi := 99999999) (by decide) (by decide) (fun b5 => ?_) (fun b5 => ?_)
  · refine z_ifF_eq (n := 11) (tgt := 35) C (by decide) dX10_isLate_8 rfl rfl ?_
    refine z_iload_n (n := 12) C 1 dX10_isLate_11 rfl rfl ?_
    refine z_iconst (n := 13) (v := 1) C dX10_isLate_12 rfl rfl ?_
    refine z_bipush (n := 15) (v := 9) C dX10_isLate_13 rfl rfl ?_
    refine z_si_3 (n := 18) (d' := 1) C K dX10_isLate_15 rfl yk_X10_within kT_yX10_within kM_RX10_92 (by decide) hR0 rfl ?_
    refine m_inB (lo := 1) (hi := 9) (by decide) (by decide) (fun b15 => ?_) (fun b15 => ?_)
    · refine z_ifF_eq (n := 21) (tgt := 35) C (by decide) dX10_isLate_18 rfl rfl ?_
      refine z_iload_n (n := 22) C 2 dX10_isLate_21 rfl rfl ?_
      refine z_iconst (n := 23) (v := 0) C dX10_isLate_22 rfl rfl ?_
      refine z_bipush (n := 25) (v := 99) C dX10_isLate_23 rfl rfl ?_
      refine z_si_3 (n := 28) (d' := 1) C K dX10_isLate_25 rfl yk_X10_within kT_yX10_within kM_RX10_92 (by decide) hR0 rfl ?_
      refine m_inB (lo := 0) (hi := 99) (by decide) (by decide) (fun b25 => ?_) (fun b25 => ?_)
      · refine z_ifF_eq (n := 31) (tgt := 35) C (by decide) dX10_isLate_28 rfl rfl ?_
        refine z_iconst (n := 32) (v := 1) C dX10_isLate_31 rfl rfl ?_
        refine z_goto (n := 36) C dX10_isLate_32 rfl ?_
        refine z_zret C E dX10_isLate_36 (by decide) ?_
        exact h1 ⟨b5, b15, b25⟩
      · refine z_ifT_eq (tgt := 35) C (by decide) dX10_isLate_28 rfl ?_
        refine z_iconst (n := 36) (v := 0) C dX10_isLate_35 rfl rfl ?_
        refine z_zret C E dX10_isLate_36 (by decide) ?_
        exact h0 (fun q => b25 q.2.2)
    · refine z_ifT_eq (tgt := 35) C (by decide) dX10_isLate_18 rfl ?_
      refine z_iconst (n := 36) (v := 0) C dX10_isLate_35 rfl rfl ?_
      refine z_zret C E dX10_isLate_36 (by decide) ?_
      exact h0 (fun q => b15 q.2.1)
  · refine z_ifT_eq (tgt := 35) C (by decide) dX10_isLate_8 rfl ?_
    refine z_iconst (n := 36) (v := 0) C dX10_isLate_35 rfl rfl ?_
    refine z_zret C E dX10_isLate_36 (by decide) ?_
    exact h0 (fun q => b5 q.1)
set_option maxHeartbeats 4000000 in
set_option maxRecDepth 100000 in
theorem c_X9_loss {ad : Nat → Nat} {I : KI} {J : KJ} {t : Nat} {wv nv cv kv qv : Int32} {Q : Int64 → KI → KJ → KR → Prop} (hR : lossR wv nv cv kv qv → Q (-9223372036854775808) I J (rf t)) (hS : ¬ lossR wv nv cv kv qv → ∀ w n c k : Nat, wv = nI w → nv = nI n → cv = nI c → kv = nI k → 0 < w → w < 10 ^ 8 → n ≤ 9 → c ≤ 99 → k ≤ 9 → Q (lN (shS (lsS w n c k 8) (wtS w 8) qv)) I J (rf t)) : Ml 3 yX9_loss (wm yX9_loss cX9_loss 6 (some .long)) [.ref (ad 0), .int (wv), .int (nv), .int (cv), .int (kv), .int (qv)] ad I J (rf t) Q := by
  refine ml_of (own := RX9) yk_X9_loss rfl (Nat.le_of_ble_eq_true rfl) rfl (fun X hA hnL C K E => ?_)
  subst hA
  refine z_iload_n (n := 1) C 1 dX9_loss_0 rfl rfl ?_
  refine z_iload_n (n := 2) C 2 dX9_loss_1 rfl rfl ?_
  refine z_iload_n (n := 3) C 3 dX9_loss_2 rfl rfl ?_
  refine z_si_3 (n := 6) (d' := 2) C K dX9_loss_3 rfl yk_X9_isWait kT_yX9_isWait kM_RX9_283 (by decide) hR0 rfl ?_
  refine c_X9_isWait (fun b3 => ?_) (fun b3 => ?_)
  · refine z_ifF_eq (n := 9) (tgt := 30) C (by decide) dX9_loss_6 rfl rfl ?_
    refine z_iload (n := 11) C 4 dX9_loss_9 rfl rfl ?_
    refine z_iconst (n := 12) (v := 0) C dX9_loss_11 rfl rfl ?_
    refine z_bipush (n := 14) (v := 9) C dX9_loss_12 rfl rfl ?_
    refine z_si_3 (n := 17) (d' := 1) C K dX9_loss_14 rfl yk_X9_isWithin kT_yX9_isWithin kM_RX9_131 (by decide) hR0 rfl ?_
    refine c_inB (lo := 0) (hi := 9) (by decide) (by decide) (fun b14 => ?_) (fun b14 => ?_)
    · refine z_ifF_eq (n := 20) (tgt := 30) C (by decide) dX9_loss_17 rfl rfl ?_
      refine z_iload (n := 22) C 5 dX9_loss_20 rfl rfl ?_
      refine z_iconst (n := 23) (v := 0) C dX9_loss_22 rfl rfl ?_
      refine z_iconst (n := 24) (v := 1) C dX9_loss_23 rfl rfl ?_
      refine z_si_3 (n := 27) (d' := 1) C K dX9_loss_24 rfl yk_X9_isWithin kT_yX9_isWithin kM_RX9_131 (by decide) hR0 rfl ?_
      refine c_inB (lo := 0) (hi := 1) (by decide) (by decide) (fun b24 => ?_) (fun b24 => ?_)
      · refine z_ifT_ne (tgt := 34) C (by decide) dX9_loss_27 rfl ?_
        obtain ⟨w, hw8, rfl⟩ := i_natlt (n := 100000000) (x := wv) (by have := b3.1.1; omega) (by have := b3.1.2; omega)
        obtain ⟨n, hn9, rfl⟩ := i_natlt (n := 10) (x := nv) (by have := b3.2.1.1; omega) (by have := b3.2.1.2; omega)
        obtain ⟨c, hc99, rfl⟩ := isB_of (h := 99) b3.2.2
        have hw0 : 0 < w := by have := b3.1.1; rw [nI_toInt (by omega)] at this; omega
        have hw : w < 10 ^ 8 := by omega
        have hn : n ≤ 9 := by omega
        obtain ⟨k, hk9, rfl⟩ := isB_of (h := 9) b14
        have hsl := lsS_le (w := w) hn hc99 hk9 8
        have hwl := wtS_le w 8
        refine z_iload_n (n := 35) C 1 dX9_loss_34 rfl rfl ?_
        refine z_iload_n (n := 36) C 2 dX9_loss_35 rfl rfl ?_
        refine z_iload_n (n := 37) C 3 dX9_loss_36 rfl rfl ?_
        refine z_iload (n := 39) C 4 dX9_loss_37 rfl rfl ?_
        refine z_sl_4 (n := 42) (d' := 1) C K dX9_loss_39 rfl yk_X9_lossSum kT_yX9_lossSum kM_RX9_286 (by decide) hR0 rfl ?_
        refine c_X9_lossSum hw hn hc99 hk9 ?_
        refine z_iload_n (n := 43) C 1 dX9_loss_42 rfl rfl ?_
        refine z_sl_1 (n := 46) (d' := 1) C K dX9_loss_43 rfl yk_X9_weightSum kT_yX9_weightSum kM_RX9_290 (by decide) hR0 rfl ?_
        refine c_X9_weightSum hw ?_
        refine z_iload (n := 48) C 5 dX9_loss_46 rfl rfl ?_
        refine z_sl_3 (n := 51) (d' := 2) C K dX9_loss_48 rfl yk_X9_partOfShare kT_yX9_partOfShare kM_RX9_224 (by decide) hR0 rfl ?_
        refine c_X9_partOfShare (by omega) (wtS_pos hw0 hw) (by omega) ?_
        refine z_lret C E dX9_loss_51 ?_
        exact hS (fun z => z ⟨b3, b14, b24⟩) w n c k rfl rfl rfl rfl hw0 hw hn hc99 hk9
      · refine z_ifF_ne (n := 30) (tgt := 34) C (by decide) dX9_loss_27 rfl rfl ?_
        refine z_ldc2 (n := 33) C dX9_loss_30 kK_RX9_198 rfl ?_
        refine z_lret C E dX9_loss_33 ?_
        exact hR (fun q => b24 q.2.2)
    · refine z_ifT_eq (tgt := 30) C (by decide) dX9_loss_17 rfl ?_
      refine z_ldc2 (n := 33) C dX9_loss_30 kK_RX9_198 rfl ?_
      refine z_lret C E dX9_loss_33 ?_
      exact hR (fun q => b14 q.2.1)
  · refine z_ifT_eq (tgt := 30) C (by decide) dX9_loss_6 rfl ?_
    refine z_ldc2 (n := 33) C dX9_loss_30 kK_RX9_198 rfl ?_
    refine z_lret C E dX9_loss_33 ?_
    exact hR (fun q => b3 q.1)
set_option maxHeartbeats 4000000 in
set_option maxRecDepth 100000 in
theorem l_X10_loss {X : KX} {J : KJ} {t : Nat} (C : Cx X RX10 cX10_loss 3) (K : Kx X) (hnL : xnL X = 8) {Q : Int64 → KI → KJ → KR → Prop} (E : El X Q) {I : KI} {w n c k : Nat} (hw : w < 10 ^ 8) (hn : n ≤ 9) (hc : c ≤ 99) (hk : k ≤ 9) (hw0 : 0 < w) {qv : Int32} (hQ : Q (lN (shS (lsS w n c k 8) (wtS w 8) qv)) I J (rf t)) : ∀ (f : Nat) (i : Nat), 8 - i < f → i ≤ 8 → Z X 0 0 (V X I J (rf t)) 40 [(7, .int (nI (w / 10 ^ i))), (6, .int (nI (wtS w i))), (0, .ref (xad X 85)), (1, .int (nI w)), (2, .int (nI n)), (3, .int (nI c)), (4, .int (nI k)), (5, .int qv)] [] := by
  intro f
  induction f with
  | zero => intro i h; omega
  | succ f ih =>
    intro i hf hi
    have hwi : w / 10 ^ i ≤ w := Nat.div_le_self _ _
    have hdl := dgS_lt w i
    have hsl := wtS_le w i
    have hsl8 := lsS_le (w := w) hn hc hk 8
    have hwl8 := wtS_le w 8
    refine z_iload (n := 42) C 0 dX10_loss_40 rfl rfl ?_
    refine z_if_le (tgt := 65) (n := 45) C dX10_loss_42 rfl rfl (fun c42 => ?_) (fun c42 => ?_)
    · rw [fa_le, nI_toInt (by omega)] at c42
      simp only [Int32.reduceToInt] at c42
      have h1 := wtS_0 (w := w) (i := i) (Nat.le_zero.mp (by exact_mod_cast c42)) (8 - i)
      rw [show i + (8 - i) = 8 by omega] at h1
      rw [← h1]
      refine z_iload_n (n := 66) C 3 dX10_loss_65 rfl rfl ?_
      refine z_iload_n (n := 67) C 4 dX10_loss_66 rfl rfl ?_
      refine z_iload_n (n := 68) C 5 dX10_loss_67 rfl rfl ?_
      refine z_iload (n := 70) C 6 dX10_loss_68 rfl rfl ?_
      refine z_si_4 (n := 73) (d' := 1) C K dX10_loss_70 rfl yk_X10_lossOf kT_yX10_lossOf kM_RX10_292 (by decide) hR0 rfl ?_
      refine c_X10_lossOf hw hn hc hk ?_
      refine z_i2l (n := 74) C dX10_loss_73 rfl ?_
      rw [lN_i2l (by omega)]
      refine z_iload (n := 76) C 1 dX10_loss_74 rfl rfl ?_
      refine z_i2l (n := 77) C dX10_loss_76 rfl ?_
      rw [lN_i2l (by omega)]
      refine z_iload (n := 79) C 7 dX10_loss_77 rfl rfl ?_
      refine z_sl_3 (n := 82) (d' := 2) C K dX10_loss_79 rfl yk_X10_part kT_yX10_part kM_RX10_235 (by decide) hR0 rfl ?_
      refine c_X10_part (by omega) (wtS_pos hw0 hw) (by omega) ?_
      refine z_lret C E dX10_loss_82 ?_
      exact hQ
    · rw [fa_le, nI_toInt (by omega)] at c42
      simp only [Int32.reduceToInt] at c42
      have hi8 : i < 8 := by
        have h0 : i ≠ 8 := fun e => by rw [e, Nat.div_eq_of_lt hw] at c42; omega
        omega
      refine z_iload (n := 47) C 1 dX10_loss_45 rfl rfl ?_
      refine z_iload (n := 49) C 0 dX10_loss_47 rfl rfl ?_
      refine z_bipush (n := 51) (v := 10) C dX10_loss_49 rfl rfl ?_
      refine z_irem (n := 52) C dX10_loss_51 rfl (by decide) ?_
      rw [show (10 : Int32) = nI 10 from rfl, pk_rem (by omega) (by decide) (by decide)]
      rw [rem_dg]
      refine z_iadd (n := 53) C dX10_loss_52 rfl ?_
      rw [nI_add]
      refine z_istore (n := 55) (L' := [(6, _), (7, _), (0, _), (1, _), (2, _), (3, _), (4, _), (5, _)]) C dX10_loss_53 rfl (by rw [hnL]; decide) rfl ?_
      refine z_iload (n := 57) C 1 dX10_loss_55 rfl rfl ?_
      refine z_bipush (n := 59) (v := 10) C dX10_loss_57 rfl rfl ?_
      refine z_idiv (n := 60) C dX10_loss_59 rfl (by decide) ?_
      rw [show (10 : Int32) = nI 10 from rfl, pk_div (by omega) (by decide) (by decide)]
      refine z_istore (n := 62) (L' := [(7, _), (6, _), (0, _), (1, _), (2, _), (3, _), (4, _), (5, _)]) C dX10_loss_60 rfl (by rw [hnL]; decide) rfl ?_
      refine z_goto (n := 40) C dX10_loss_62 rfl ?_
      rw [← div_s]
      exact ih (i + 1) (by omega) (by omega)
set_option maxHeartbeats 4000000 in
set_option maxRecDepth 100000 in
theorem c_X10_loss {ad : Nat → Nat} {I : KI} {J : KJ} {t : Nat} {wv nv cv kv qv : Int32} {Q : Int64 → KI → KJ → KR → Prop} (hR : lossR wv nv cv kv qv → Q (-9223372036854775808) I J (rf t)) (hS : ¬ lossR wv nv cv kv qv → ∀ w n c k : Nat, wv = nI w → nv = nI n → cv = nI c → kv = nI k → 0 < w → w < 10 ^ 8 → n ≤ 9 → c ≤ 99 → k ≤ 9 → Q (lN (shS (lsS w n c k 8) (wtS w 8) qv)) I J (rf t)) : Ml 3 yX10_loss (wm yX10_loss cX10_loss 8 (some .long)) [.ref (ad 85), .int (wv), .int (nv), .int (cv), .int (kv), .int (qv)] ad I J (rf t) Q := by
  refine ml_of (own := RX10) yk_X10_loss rfl (Nat.le_of_ble_eq_true rfl) rfl (fun X hA hnL C K E => ?_)
  subst hA
  refine z_iload_n (n := 1) C 1 dX10_loss_0 rfl rfl ?_
  refine z_iload_n (n := 2) C 2 dX10_loss_1 rfl rfl ?_
  refine z_iload_n (n := 3) C 3 dX10_loss_2 rfl rfl ?_
  refine z_si_3 (n := 6) (d' := 2) C K dX10_loss_3 rfl yk_X10_isLate kT_yX10_isLate kM_RX10_289 (by decide) hR0 rfl ?_
  refine c_X10_isLate (fun b3 => ?_) (fun b3 => ?_)
  · refine z_ifF_eq (n := 9) (tgt := 30) C (by decide) dX10_loss_6 rfl rfl ?_
    refine z_iload (n := 11) C 4 dX10_loss_9 rfl rfl ?_
    refine z_iconst (n := 12) (v := 0) C dX10_loss_11 rfl rfl ?_
    refine z_bipush (n := 14) (v := 9) C dX10_loss_12 rfl rfl ?_
    refine z_si_3 (n := 17) (d' := 1) C K dX10_loss_14 rfl yk_X10_within kT_yX10_within kM_RX10_92 (by decide) hR0 rfl ?_
    refine m_inB (lo := 0) (hi := 9) (by decide) (by decide) (fun b14 => ?_) (fun b14 => ?_)
    · refine z_ifF_eq (n := 20) (tgt := 30) C (by decide) dX10_loss_17 rfl rfl ?_
      refine z_iload (n := 22) C 5 dX10_loss_20 rfl rfl ?_
      refine z_iconst (n := 23) (v := 0) C dX10_loss_22 rfl rfl ?_
      refine z_iconst (n := 24) (v := 1) C dX10_loss_23 rfl rfl ?_
      refine z_si_3 (n := 27) (d' := 1) C K dX10_loss_24 rfl yk_X10_within kT_yX10_within kM_RX10_92 (by decide) hR0 rfl ?_
      refine m_inB (lo := 0) (hi := 1) (by decide) (by decide) (fun b24 => ?_) (fun b24 => ?_)
      · refine z_ifT_ne (tgt := 34) C (by decide) dX10_loss_27 rfl ?_
        obtain ⟨w, hw8, rfl⟩ := i_natlt (n := 100000000) (x := wv) (by have := b3.1.1; omega) (by have := b3.1.2; omega)
        obtain ⟨n, hn9, rfl⟩ := i_natlt (n := 10) (x := nv) (by have := b3.2.1.1; omega) (by have := b3.2.1.2; omega)
        obtain ⟨c, hc99, rfl⟩ := isB_of (h := 99) b3.2.2
        have hw0 : 0 < w := by have := b3.1.1; rw [nI_toInt (by omega)] at this; omega
        have hw : w < 10 ^ 8 := by omega
        have hn : n ≤ 9 := by omega
        obtain ⟨k, hk9, rfl⟩ := isB_of (h := 9) b14
        refine z_iconst (n := 35) (v := 0) C dX10_loss_34 rfl rfl ?_
        refine z_istore (n := 37) (L' := [(6, _), (0, _), (1, _), (2, _), (3, _), (4, _), (5, _)]) C dX10_loss_35 rfl (by rw [hnL]; decide) rfl ?_
        refine z_iload_n (n := 38) C 2 dX10_loss_37 rfl rfl ?_
        refine z_istore (n := 40) (L' := [(7, _), (6, _), (0, _), (1, _), (2, _), (3, _), (4, _), (5, _)]) C dX10_loss_38 rfl (by rw [hnL]; decide) rfl ?_
        have h1 := l_X10_loss C K hnL E hw hn hc99 hk9 hw0 (hS (fun z => z ⟨b3, b14, b24⟩) w n c k rfl rfl rfl rfl hw0 hw hn hc99 hk9) 9 0 (by omega) (by omega)
        rw [Nat.pow_zero, Nat.div_one] at h1
        exact h1
      · refine z_ifF_ne (n := 30) (tgt := 34) C (by decide) dX10_loss_27 rfl rfl ?_
        refine z_ldc2 (n := 33) C dX10_loss_30 kK_RX10_90 rfl ?_
        refine z_lret C E dX10_loss_33 ?_
        exact hR (fun q => b24 q.2.2)
    · refine z_ifT_eq (tgt := 30) C (by decide) dX10_loss_17 rfl ?_
      refine z_ldc2 (n := 33) C dX10_loss_30 kK_RX10_90 rfl ?_
      refine z_lret C E dX10_loss_33 ?_
      exact hR (fun q => b14 q.2.1)
  · refine z_ifT_eq (tgt := 30) C (by decide) dX10_loss_6 rfl ?_
    refine z_ldc2 (n := 33) C dX10_loss_30 kK_RX10_90 rfl ?_
    refine z_lret C E dX10_loss_33 ?_
    exact hR (fun q => b3 q.1)
set_option maxHeartbeats 4000000 in
set_option maxRecDepth 100000 in
theorem l_X9_patience {X : KX} {J : KJ} {t : Nat} (C : Cx X RX9 cX9_patience 3) (K : Kx X) (hnL : xnL X = 10) {Q : Int32 → KI → KJ → KR → Prop} (E : Ei X .int Q) {I : KI} {w n c : Nat} (hw : w < 10 ^ 8) (hn : n ≤ 9) (hc : c ≤ 99) (hQ : Q (nI (ptS w n c 9)) I J (rf t)) : ∀ (f : Nat) (k : Nat), 10 - k < f → (1 ≤ k ∧ k ≤ 10) → Z X 0 0 (V X I J (rf t)) 27 [(7, .int (nI k)), (5, .long (lN (lsS w n c (ptS w n c (k - 1)) 8))), (4, .int (nI (ptS w n c (k - 1)))), (0, .ref (xad X 0)), (1, .int (nI w)), (2, .int (nI n)), (3, .int (nI c))] [] := by
  intro f
  induction f with
  | zero => intro k h; omega
  | succ f ih =>
    intro k hf hi
    refine z_iload (n := 29) C 0 dX9_patience_27 rfl rfl ?_
    refine z_bipush (n := 31) (v := 9) C dX9_patience_29 rfl rfl ?_
    refine z_icmp_gt (tgt := 66) (n := 34) C dX9_patience_31 rfl rfl (fun c31 => ?_) (fun c31 => ?_)
    · rw [fa_lt, nI_toInt (by omega)] at c31
      simp only [Int32.reduceToInt] at c31
      have e : k = 10 := by omega
      subst e
      refine z_iload (n := 68) C 2 dX9_patience_66 rfl rfl ?_
      refine z_iret C E dX9_patience_68 ?_
      exact hQ
    · rw [fa_lt, nI_toInt (by omega)] at c31
      simp only [Int32.reduceToInt] at c31
      have hle := ptS_le w n c (k - 1)
      have hs1 := lsS_le (w := w) hn hc (show k ≤ 9 by omega) 8
      have hs2 := lsS_le (w := w) hn hc (show ptS w n c (k - 1) ≤ 9 by omega) 8
      refine z_iload_n (n := 35) C 4 dX9_patience_34 rfl rfl ?_
      refine z_iload_n (n := 36) C 5 dX9_patience_35 rfl rfl ?_
      refine z_iload_n (n := 37) C 6 dX9_patience_36 rfl rfl ?_
      refine z_iload (n := 39) C 0 dX9_patience_37 rfl rfl ?_
      refine z_sl_4 (n := 42) (d' := 1) C K dX9_patience_39 rfl yk_X9_lossSum kT_yX9_lossSum kM_RX9_286 (by decide) hR0 rfl ?_
      refine c_X9_lossSum hw hn hc (by omega) ?_
      refine z_lstore (n := 44) (L' := [(8, _), (7, _), (5, _), (4, _), (0, _), (1, _), (2, _), (3, _)]) C dX9_patience_42 rfl (by rw [hnL]; decide) rfl ?_
      refine z_lload (n := 46) C 0 dX9_patience_44 rfl rfl ?_
      refine z_lload (n := 48) C 2 dX9_patience_46 rfl rfl ?_
      refine z_lcmp (n := 49) C dX9_patience_48 rfl ?_
      refine z_if_ge (tgt := 60) (n := 52) C dX9_patience_49 rfl rfl (fun c49 => ?_) (fun c49 => ?_)
      · refine z_iincG (n := 63) (c := 1) (L' := [(7, _), (8, _), (5, _), (4, _), (0, _), (1, _), (2, _), (3, _)]) C 1 dX9_patience_60 rfl rfl rfl (by rw [hnL]; decide) rfl ?_
        refine z_goto (n := 27) C dX9_patience_63 rfl ?_
        refine z_sub (L' := [(7, _), (5, _), (4, _), (0, _), (1, _), (2, _), (3, _)]) [0, 2, 3, 4, 5, 6, 7] rfl ?_
        rw [lg_cmp_ge, pk_lLE (by omega) (by omega)] at c49
        have e2 : ptS w n c k = if lsS w n c k 8 < lsS w n c (ptS w n c (k - 1)) 8 then k else ptS w n c (k - 1) := by
          obtain ⟨z, rfl⟩ : ∃ z, k = z + 1 := ⟨k - 1, by omega⟩
          rfl
        rw [if_neg (by omega)] at e2
        have h1 := ih (k + 1) (by omega) (by omega)
        rw [Nat.add_sub_cancel, e2] at h1
        rw [nI_1]
        exact h1
      · refine z_lload (n := 54) C 0 dX9_patience_52 rfl rfl ?_
        refine z_lstore (n := 56) (L' := [(5, _), (8, _), (7, _), (4, _), (0, _), (1, _), (2, _), (3, _)]) C dX9_patience_54 rfl (by rw [hnL]; decide) rfl ?_
        refine z_iload (n := 58) C 2 dX9_patience_56 rfl rfl ?_
        refine z_istore (n := 60) (L' := [(4, _), (5, _), (8, _), (7, _), (0, _), (1, _), (2, _), (3, _)]) C dX9_patience_58 rfl (by rw [hnL]; decide) rfl ?_
        refine z_iincG (n := 63) (c := 1) (L' := [(7, _), (4, _), (5, _), (8, _), (0, _), (1, _), (2, _), (3, _)]) C 3 dX9_patience_60 rfl rfl rfl (by rw [hnL]; decide) rfl ?_
        refine z_goto (n := 27) C dX9_patience_63 rfl ?_
        refine z_sub (L' := [(7, _), (5, _), (4, _), (0, _), (1, _), (2, _), (3, _)]) [0, 2, 1, 4, 5, 6, 7] rfl ?_
        rw [lg_cmp_ge, pk_lLE (by omega) (by omega)] at c49
        have e2 : ptS w n c k = if lsS w n c k 8 < lsS w n c (ptS w n c (k - 1)) 8 then k else ptS w n c (k - 1) := by
          obtain ⟨z, rfl⟩ : ∃ z, k = z + 1 := ⟨k - 1, by omega⟩
          rfl
        rw [if_pos (by omega)] at e2
        have h1 := ih (k + 1) (by omega) (by omega)
        rw [Nat.add_sub_cancel, e2] at h1
        rw [nI_1]
        exact h1
set_option maxHeartbeats 4000000 in
set_option maxRecDepth 100000 in
theorem c_X9_patience {ad : Nat → Nat} {I : KI} {J : KJ} {t : Nat} {wv nv cv : Int32} {Q : Int32 → KI → KJ → KR → Prop} (hR : ¬ isW wv nv cv → Q (-2) I J (rf t)) (hS : isW wv nv cv → ∀ w n c : Nat, wv = nI w → nv = nI n → cv = nI c → w < 10 ^ 8 → n ≤ 9 → c ≤ 99 → Q (nI (ptS w n c 9)) I J (rf t)) : Mi 3 yX9_patience (wm yX9_patience cX9_patience 10 (some .int)) [.ref (ad 0), .int (wv), .int (nv), .int (cv)] ad I J (rf t) Q := by
  refine mi_of (own := RX9) yk_X9_patience rfl (Nat.le_of_ble_eq_true rfl) rfl (fun X hA hnL C K E => ?_)
  subst hA
  refine z_iload_n (n := 1) C 1 dX9_patience_0 rfl rfl ?_
  refine z_iload_n (n := 2) C 2 dX9_patience_1 rfl rfl ?_
  refine z_iload_n (n := 3) C 3 dX9_patience_2 rfl rfl ?_
  refine z_si_3 (n := 6) (d' := 2) C K dX9_patience_3 rfl yk_X9_isWait kT_yX9_isWait kM_RX9_283 (by decide) hR0 rfl ?_
  refine c_X9_isWait (fun b3 => ?_) (fun b3 => ?_)
  · refine z_ifT_ne (tgt := 12) C (by decide) dX9_patience_6 rfl ?_
    obtain ⟨w, hw8, rfl⟩ := i_natlt (n := 100000000) (x := wv) (by have := b3.1.1; omega) (by have := b3.1.2; omega)
    obtain ⟨n, hn9, rfl⟩ := i_natlt (n := 10) (x := nv) (by have := b3.2.1.1; omega) (by have := b3.2.1.2; omega)
    obtain ⟨c, hc99, rfl⟩ := isB_of (h := 99) b3.2.2
    have hw0 : 0 < w := by have := b3.1.1; rw [nI_toInt (by omega)] at this; omega
    have hw : w < 10 ^ 8 := by omega
    have hn : n ≤ 9 := by omega
    refine z_iconst (n := 13) (v := 0) C dX9_patience_12 rfl rfl ?_
    refine z_istore (n := 15) (L' := [(4, _), (0, _), (1, _), (2, _), (3, _)]) C dX9_patience_13 rfl (by rw [hnL]; decide) rfl ?_
    refine z_iload_n (n := 16) C 2 dX9_patience_15 rfl rfl ?_
    refine z_iload_n (n := 17) C 3 dX9_patience_16 rfl rfl ?_
    refine z_iload_n (n := 18) C 4 dX9_patience_17 rfl rfl ?_
    refine z_iconst (n := 19) (v := 0) C dX9_patience_18 rfl rfl ?_
    refine z_sl_4 (n := 22) (d' := 1) C K dX9_patience_19 rfl yk_X9_lossSum kT_yX9_lossSum kM_RX9_286 (by decide) hR0 rfl ?_
    refine c_X9_lossSum (k := 0) hw hn hc99 (by decide) ?_
    refine z_lstore (n := 24) (L' := [(5, _), (4, _), (0, _), (1, _), (2, _), (3, _)]) C dX9_patience_22 rfl (by rw [hnL]; decide) rfl ?_
    refine z_iconst (n := 25) (v := 1) C dX9_patience_24 rfl rfl ?_
    refine z_istore (n := 27) (L' := [(7, _), (5, _), (4, _), (0, _), (1, _), (2, _), (3, _)]) C dX9_patience_25 rfl (by rw [hnL]; decide) rfl ?_
    exact l_X9_patience C K hnL E hw hn hc99 (hS b3 w n c rfl rfl rfl hw hn hc99) 10 1 (by omega) (by omega)
  · refine z_ifF_ne (n := 9) (tgt := 12) C (by decide) dX9_patience_6 rfl rfl ?_
    refine z_bipush (n := 11) (v := (-2)) C dX9_patience_9 rfl rfl ?_
    refine z_iret C E dX9_patience_11 ?_
    exact hR b3
set_option maxHeartbeats 4000000 in
set_option maxRecDepth 100000 in
theorem l_X10_patience {X : KX} {J : KJ} {t : Nat} (C : Cx X RX10 cX10_patience 3) (K : Kx X) (hnL : xnL X = 6) {Q : Int32 → KI → KJ → KR → Prop} (E : Ei X .int Q) {I : KI} {w n c : Nat} (hw : w < 10 ^ 8) (hn : n ≤ 9) (hc : c ≤ 99) (hQ : Q (nI (ptS w n c 9)) I J (rf t)) : ∀ (f : Nat) (k : Nat), 10 - k < f → (1 ≤ k ∧ k ≤ 10) → Z X 0 0 (V X I J (rf t)) 18 [(5, .int (nI k)), (4, .int (nI (ptS w n c (k - 1)))), (0, .ref (xad X 85)), (1, .int (nI w)), (2, .int (nI n)), (3, .int (nI c))] [] := by
  intro f
  induction f with
  | zero => intro k h; omega
  | succ f ih =>
    intro k hf hi
    refine z_iload (n := 20) C 0 dX10_patience_18 rfl rfl ?_
    refine z_bipush (n := 22) (v := 10) C dX10_patience_20 rfl rfl ?_
    refine z_icmp_ge (tgt := 54) (n := 25) C dX10_patience_22 rfl rfl (fun c22 => ?_) (fun c22 => ?_)
    · rw [fa_le, nI_toInt (by omega)] at c22
      simp only [Int32.reduceToInt] at c22
      have e : k = 10 := by omega
      subst e
      refine z_iload (n := 56) C 1 dX10_patience_54 rfl rfl ?_
      refine z_iret C E dX10_patience_56 ?_
      exact hQ
    · rw [fa_le, nI_toInt (by omega)] at c22
      simp only [Int32.reduceToInt] at c22
      have hle := ptS_le w n c (k - 1)
      have hs1 := lsS_le (w := w) hn hc (show k ≤ 9 by omega) 8
      have hs2 := lsS_le (w := w) hn hc (show ptS w n c (k - 1) ≤ 9 by omega) 8
      refine z_iload_n (n := 26) C 3 dX10_patience_25 rfl rfl ?_
      refine z_iload_n (n := 27) C 4 dX10_patience_26 rfl rfl ?_
      refine z_iload_n (n := 28) C 5 dX10_patience_27 rfl rfl ?_
      refine z_iload (n := 30) C 0 dX10_patience_28 rfl rfl ?_
      refine z_si_4 (n := 33) (d' := 1) C K dX10_patience_30 rfl yk_X10_lossOf kT_yX10_lossOf kM_RX10_292 (by decide) hR0 rfl ?_
      refine c_X10_lossOf hw hn hc (by omega) ?_
      refine z_iload_n (n := 34) C 3 dX10_patience_33 rfl rfl ?_
      refine z_iload_n (n := 35) C 4 dX10_patience_34 rfl rfl ?_
      refine z_iload_n (n := 36) C 5 dX10_patience_35 rfl rfl ?_
      refine z_iload (n := 38) C 1 dX10_patience_36 rfl rfl ?_
      refine z_si_4 (n := 41) (d' := 1) C K dX10_patience_38 rfl yk_X10_lossOf kT_yX10_lossOf kM_RX10_292 (by decide) hR0 rfl ?_
      refine c_X10_lossOf hw hn hc (by omega) ?_
      refine z_icmp_ge (tgt := 48) (n := 44) C dX10_patience_41 rfl rfl (fun c41 => ?_) (fun c41 => ?_)
      · refine z_iincG (n := 51) (c := 1) (L' := [(5, _), (4, _), (0, _), (1, _), (2, _), (3, _)]) C 0 dX10_patience_48 rfl rfl rfl (by rw [hnL]; decide) rfl ?_
        refine z_goto (n := 18) C dX10_patience_51 rfl ?_
        rw [fa_le, nI_toInt (by omega), nI_toInt (by omega)] at c41
        have e2 : ptS w n c k = if lsS w n c k 8 < lsS w n c (ptS w n c (k - 1)) 8 then k else ptS w n c (k - 1) := by
          obtain ⟨z, rfl⟩ : ∃ z, k = z + 1 := ⟨k - 1, by omega⟩
          rfl
        rw [if_neg (by omega)] at e2
        have h1 := ih (k + 1) (by omega) (by omega)
        rw [Nat.add_sub_cancel, e2] at h1
        rw [nI_1]
        exact h1
      · refine z_iload (n := 46) C 0 dX10_patience_44 rfl rfl ?_
        refine z_istore (n := 48) (L' := [(4, _), (5, _), (0, _), (1, _), (2, _), (3, _)]) C dX10_patience_46 rfl (by rw [hnL]; decide) rfl ?_
        refine z_iincG (n := 51) (c := 1) (L' := [(5, _), (4, _), (0, _), (1, _), (2, _), (3, _)]) C 1 dX10_patience_48 rfl rfl rfl (by rw [hnL]; decide) rfl ?_
        refine z_goto (n := 18) C dX10_patience_51 rfl ?_
        rw [fa_le, nI_toInt (by omega), nI_toInt (by omega)] at c41
        have e2 : ptS w n c k = if lsS w n c k 8 < lsS w n c (ptS w n c (k - 1)) 8 then k else ptS w n c (k - 1) := by
          obtain ⟨z, rfl⟩ : ∃ z, k = z + 1 := ⟨k - 1, by omega⟩
          rfl
        rw [if_pos (by omega)] at e2
        have h1 := ih (k + 1) (by omega) (by omega)
        rw [Nat.add_sub_cancel, e2] at h1
        rw [nI_1]
        exact h1
set_option maxHeartbeats 4000000 in
set_option maxRecDepth 100000 in
theorem c_X10_patience {ad : Nat → Nat} {I : KI} {J : KJ} {t : Nat} {wv nv cv : Int32} {Q : Int32 → KI → KJ → KR → Prop} (hR : ¬ isW wv nv cv → Q (-2) I J (rf t)) (hS : isW wv nv cv → ∀ w n c : Nat, wv = nI w → nv = nI n → cv = nI c → w < 10 ^ 8 → n ≤ 9 → c ≤ 99 → Q (nI (ptS w n c 9)) I J (rf t)) : Mi 3 yX10_patience (wm yX10_patience cX10_patience 6 (some .int)) [.ref (ad 85), .int (wv), .int (nv), .int (cv)] ad I J (rf t) Q := by
  refine mi_of (own := RX10) yk_X10_patience rfl (Nat.le_of_ble_eq_true rfl) rfl (fun X hA hnL C K E => ?_)
  subst hA
  refine z_iload_n (n := 1) C 1 dX10_patience_0 rfl rfl ?_
  refine z_iload_n (n := 2) C 2 dX10_patience_1 rfl rfl ?_
  refine z_iload_n (n := 3) C 3 dX10_patience_2 rfl rfl ?_
  refine z_si_3 (n := 6) (d' := 2) C K dX10_patience_3 rfl yk_X10_isLate kT_yX10_isLate kM_RX10_289 (by decide) hR0 rfl ?_
  refine c_X10_isLate (fun b3 => ?_) (fun b3 => ?_)
  · refine z_ifT_ne (tgt := 12) C (by decide) dX10_patience_6 rfl ?_
    obtain ⟨w, hw8, rfl⟩ := i_natlt (n := 100000000) (x := wv) (by have := b3.1.1; omega) (by have := b3.1.2; omega)
    obtain ⟨n, hn9, rfl⟩ := i_natlt (n := 10) (x := nv) (by have := b3.2.1.1; omega) (by have := b3.2.1.2; omega)
    obtain ⟨c, hc99, rfl⟩ := isB_of (h := 99) b3.2.2
    have hw0 : 0 < w := by have := b3.1.1; rw [nI_toInt (by omega)] at this; omega
    have hw : w < 10 ^ 8 := by omega
    have hn : n ≤ 9 := by omega
    refine z_iconst (n := 13) (v := 0) C dX10_patience_12 rfl rfl ?_
    refine z_istore (n := 15) (L' := [(4, _), (0, _), (1, _), (2, _), (3, _)]) C dX10_patience_13 rfl (by rw [hnL]; decide) rfl ?_
    refine z_iconst (n := 16) (v := 1) C dX10_patience_15 rfl rfl ?_
    refine z_istore (n := 18) (L' := [(5, _), (4, _), (0, _), (1, _), (2, _), (3, _)]) C dX10_patience_16 rfl (by rw [hnL]; decide) rfl ?_
    exact l_X10_patience C K hnL E hw hn hc99 (hS b3 w n c rfl rfl rfl hw hn hc99) 10 1 (by omega) (by omega)
  · refine z_ifF_ne (n := 9) (tgt := 12) C (by decide) dX10_patience_6 rfl rfl ?_
    refine z_bipush (n := 11) (v := (-2)) C dX10_patience_9 rfl rfl ?_
    refine z_iret C E dX10_patience_11 ?_
    exact hR b3
