theorem sub_one (x : Int32) : x - 1 = x + (-1) := Int32.sub_eq_add_neg x 1
theorem hmM_0 {f : Nat → Nat} {b N i : Nat} (h : Nat → Nat) (hi : i < N + 1) : f i * h i = f i * hmM b N N h i := by
  unfold hmM
  by_cases e : N ≤ i
  · rw [if_pos e, show min (i + b) N = i by omega]
  · rw [if_neg e]
theorem pow_S (k : Nat) : lN (10 ^ k) * 10 = lN (10 ^ (k + 1)) := by
  rw [show (10 : Int64) = lN 10 from rfl, lN_mul, ← Nat.pow_succ]
set_option maxHeartbeats 4000000 in
set_option maxRecDepth 100000 in
theorem l_X10_moveOn {X : KX} {t : Nat} (C : Cx X RX10 cX10_moveOn 1) (K : Kx X) (hnL : xnL X = 5) {Q : KI → KJ → KR → Prop} (E : Ev X Q) {I : KI} {J : KJ} {N m b : Nat} {P : List St} (hN : I 85 28 = nI N) (hN1 : N ≤ 7000) (hb2 : b ≤ 1000) {f0 : Nat → Nat} (hf0 : ∀ h : Nat → Nat, sN (fun i => f0 i * h i) (N + 1) = ev P (fun t => h (min t N)) m) (hQ : ∀ J', (∀ q, q ≠ 101 → J' q = J q) → mCh J' N (P ++ [(0, b, 0)]) m → Q I J' (rf t)) : ∀ (f T : Nat) (J1 : KJ) (g : Nat → Nat), T < f → (T ≤ N ∧ (∀ q, q ≠ 101 → J1 q = J q) ∧ cA J1 101 (N + 1) g ∧ (∀ i, i < T → g i = f0 i) ∧ ∀ h : Nat → Nat, sN (fun i => g i * h i) (N + 1) = sN (fun i => f0 i * hmM b N T h i) (N + 1)) → Z X 0 0 (V X I J1 (rf t)) 12 [(2, .int (nI T + (-1))), (0, .ref (xad X 85)), (1, .int (nI b))] [] := by
  intro f
  induction f with
  | zero => intro T J1 g h; omega
  | succ f ih =>
    intro T J1 g hf hi
    obtain ⟨hT, hfr, hg, hlo, hF⟩ := hi
    have em : (-1 : Int32).toInt = -1 := by decide
    have eT : (nI T + (-1)).toInt = (T : Int) - 1 := by
      rw [fb_addI (by rw [nI_toInt (by omega), em]; omega) (by rw [nI_toInt (by omega), em]; omega), nI_toInt (by omega), em]
      omega
    refine z_iload_n (n := 13) C 0 dX10_moveOn_12 rfl rfl ?_
    refine z_if_lt (tgt := 65) (n := 16) C dX10_moveOn_13 rfl rfl (fun c13 => ?_) (fun c13 => ?_)
    · refine z_vret C E dX10_moveOn_65 ?_
      rw [fa_lt, eT] at c13
      simp only [Int32.reduceToInt] at c13
      have e : T = 0 := by omega
      subst e
      exact hQ J1 hfr (mCh_move hf0 hg hF)
    · rw [fa_lt, eT] at c13
      simp only [Int32.reduceToInt] at c13
      obtain ⟨d, rfl⟩ : ∃ d, T = d + 1 := ⟨T - 1, by omega⟩
      rw [nI_prd]
      have hup := hg.up d 0
      refine z_aload_n (n := 17) C 1 dX10_moveOn_16 rfl rfl ?_
      refine z_getR (n := 20) (q := 101) C K fF_RX10_55 dX10_moveOn_17 rfl rfl sh_85 (by decide) rfl ?_
      refine z_iload_n (n := 21) C 0 dX10_moveOn_20 rfl rfl ?_
      refine z_laldN (n := 22) C K d dX10_moveOn_21 rfl sh_101 (by decide) rfl (by omega) (by decide) ?_
      rw [hg d (by omega)]
      refine z_lstore_n (n := 23) (L' := [(3, _), (2, _), (0, _), (1, _)]) C dX10_moveOn_22 rfl (by rw [hnL]; decide) rfl ?_
      refine z_aload_n (n := 24) C 2 dX10_moveOn_23 rfl rfl ?_
      refine z_getR (n := 27) (q := 101) C K fF_RX10_55 dX10_moveOn_24 rfl rfl sh_85 (by decide) rfl ?_
      refine z_iload_n (n := 28) C 1 dX10_moveOn_27 rfl rfl ?_
      refine z_lconst (n := 29) (v := 0) C dX10_moveOn_28 rfl rfl ?_
      rw [show (0 : Int64) = lN 0 from rfl]
      refine z_lastN (n := 30) C K d dX10_moveOn_29 rfl sh_101 (by decide) rfl (by omega) (by decide) ?_
      refine z_aload_n (n := 31) C 2 dX10_moveOn_30 rfl rfl ?_
      refine z_getR (n := 34) (q := 101) C K fF_RX10_55 dX10_moveOn_31 rfl rfl sh_85 (by decide) rfl ?_
      refine z_iload_n (n := 35) C 1 dX10_moveOn_34 rfl rfl ?_
      refine z_iload_n (n := 36) C 3 dX10_moveOn_35 rfl rfl ?_
      refine z_iadd (n := 37) C dX10_moveOn_36 rfl ?_
      refine z_aload_n (n := 38) C 2 dX10_moveOn_37 rfl rfl ?_
      refine z_getI (n := 41) C K fF_RX10_184 dX10_moveOn_38 rfl sh_85 (by decide) ?_
      rw [nI_add, hN]
      refine z_icmp_ge (tgt := 50) (n := 44) C dX10_moveOn_41 rfl rfl (fun c41 => ?_) (fun c41 => ?_)
      · rw [fa_le, nI_toInt (by omega), nI_toInt (by omega)] at c41
        refine z_aload_n (n := 51) C 2 dX10_moveOn_50 rfl rfl ?_
        refine z_getI (n := 54) C K fF_RX10_184 dX10_moveOn_51 rfl sh_85 (by decide) ?_
        rw [hN, show N = min (d + b) N by omega]
        refine z_dup2 (n := 55) C dX10_moveOn_54 rfl rfl rfl ?_
        refine z_laldN (n := 56) C K (min (d + b) N) dX10_moveOn_55 rfl sh_101 (by decide) rfl (by omega) (by decide) ?_
        rw [hup (min (d + b) N) (by omega)]
        refine z_lload_n (n := 57) C 0 dX10_moveOn_56 rfl rfl ?_
        refine z_ladd (n := 58) C dX10_moveOn_57 rfl ?_
        rw [lN_add]
        refine z_lastN (n := 59) C K (min (d + b) N) dX10_moveOn_58 rfl sh_101 (by decide) rfl (by omega) (by decide) ?_
        refine z_iincG (n := 62) (c := (-1)) (L' := [(2, _), (3, _), (0, _), (1, _)]) C 1 dX10_moveOn_59 rfl rfl rfl (by rw [hnL]; decide) rfl ?_
        refine z_goto (n := 12) C dX10_moveOn_62 rfl ?_
        refine z_sub (L' := [(2, _), (0, _), (1, _)]) [0, 2, 3] rfl ?_
        exact ih d _ _ (by omega) ⟨by omega, fun q hq => by rw [upJ_row _ _ hq, upJ_row _ _ hq]; exact hfr q hq, hup.up _ _, fun i hi => by rw [fu_ne _ _ (by omega), fu_ne _ _ (by omega)]; exact hlo i (by omega), fun h => hmM_step (by omega) (hlo d (by omega)) (hF h)⟩
      · rw [fa_le, nI_toInt (by omega), nI_toInt (by omega)] at c41
        refine z_iload_n (n := 45) C 1 dX10_moveOn_44 rfl rfl ?_
        refine z_iload_n (n := 46) C 3 dX10_moveOn_45 rfl rfl ?_
        refine z_iadd (n := 47) C dX10_moveOn_46 rfl ?_
        refine z_goto (n := 54) C dX10_moveOn_47 rfl ?_
        rw [nI_add, show d + b = min (d + b) N by omega]
        refine z_dup2 (n := 55) C dX10_moveOn_54 rfl rfl rfl ?_
        refine z_laldN (n := 56) C K (min (d + b) N) dX10_moveOn_55 rfl sh_101 (by decide) rfl (by omega) (by decide) ?_
        rw [hup (min (d + b) N) (by omega)]
        refine z_lload_n (n := 57) C 0 dX10_moveOn_56 rfl rfl ?_
        refine z_ladd (n := 58) C dX10_moveOn_57 rfl ?_
        rw [lN_add]
        refine z_lastN (n := 59) C K (min (d + b) N) dX10_moveOn_58 rfl sh_101 (by decide) rfl (by omega) (by decide) ?_
        refine z_iincG (n := 62) (c := (-1)) (L' := [(2, _), (3, _), (0, _), (1, _)]) C 1 dX10_moveOn_59 rfl rfl rfl (by rw [hnL]; decide) rfl ?_
        refine z_goto (n := 12) C dX10_moveOn_62 rfl ?_
        refine z_sub (L' := [(2, _), (0, _), (1, _)]) [0, 2, 3] rfl ?_
        exact ih d _ _ (by omega) ⟨by omega, fun q hq => by rw [upJ_row _ _ hq, upJ_row _ _ hq]; exact hfr q hq, hup.up _ _, fun i hi => by rw [fu_ne _ _ (by omega), fu_ne _ _ (by omega)]; exact hlo i (by omega), fun h => hmM_step (by omega) (hlo d (by omega)) (hF h)⟩
set_option maxHeartbeats 4000000 in
set_option maxRecDepth 100000 in
theorem c_X10_moveOn {ad : Nat → Nat} {I : KI} {J : KJ} {t : Nat} {N m b : Nat} {P : List St} (hM : mCh J N P m) (hN : I 85 28 = nI N) (hN1 : N ≤ 7000) (hb : 1 ≤ b) (hb2 : b ≤ 1000) {Q : KI → KJ → KR → Prop} (hQ : ∀ J', (∀ q, q ≠ 101 → J' q = J q) → mCh J' N (P ++ [(0, b, 0)]) m → Q I J' (rf t))  : Mv 1 yX10_moveOn (wm yX10_moveOn cX10_moveOn 5 none) [.ref (ad 85), .int (nI b)] ad I J (rf t) Q := by
  refine mv_of (own := RX10) yk_X10_moveOn rfl (Nat.le_of_ble_eq_true rfl) rfl (fun X hA hnL C K E => ?_)
  subst hA
  obtain ⟨f0, hA, hf⟩ := hM
  refine z_iload_n (n := 1) C 1 dX10_moveOn_0 rfl rfl ?_
  refine z_ifT_ne (tgt := 5) C (fun e => by have := nI_inj (b := 0) e (by omega) (by decide); omega) dX10_moveOn_1 rfl ?_
  refine z_aload_n (n := 6) C 0 dX10_moveOn_5 rfl rfl ?_
  refine z_getI (n := 9) C K fF_RX10_184 dX10_moveOn_6 rfl sh_85 (by decide) ?_
  refine z_iconst (n := 10) (v := 1) C dX10_moveOn_9 rfl rfl ?_
  refine z_isub (n := 11) C dX10_moveOn_10 rfl ?_
  rw [hN, sub_one]
  refine z_istore_n (n := 12) (L' := [(2, _), (0, _), (1, _)]) C dX10_moveOn_11 rfl (by rw [hnL]; decide) rfl ?_
  exact l_X10_moveOn C K hnL E hN hN1 hb2 hf hQ (N + 1) N J f0 (by omega) ⟨Nat.le_refl _, fun _ _ => rfl, hA, fun _ _ => rfl, fun h => sN_cong (fun i hi => hmM_0 h hi)⟩
set_option maxHeartbeats 4000000 in
set_option maxRecDepth 100000 in
theorem l_X10_cross {X : KX} {t : Nat} (C : Cx X RX10 cX10_cross 1) (K : Kx X) (hnL : xnL X = 6) {Q : KI → KJ → KR → Prop} (E : Ev X Q) {I : KI} {J : KJ} {N m o b : Nat} {P : List St} (hN : I 85 28 = nI N) (hN1 : N ≤ 7000) (ho : o ≤ 9) (hb2 : b ≤ 9) {f0 : Nat → Nat} (hf0 : ∀ h : Nat → Nat, sN (fun i => f0 i * h i) (N + 1) = ev P (fun t => h (min t N)) m) (hQ : ∀ J', (∀ q, q ≠ 101 → J' q = J q) → mCh J' N (P ++ [(1, o, b)]) m → Q I J' (rf t)) : ∀ (f T : Nat) (J1 : KJ) (g : Nat → Nat), T < f → (T ≤ N ∧ (∀ q, q ≠ 101 → J1 q = J q) ∧ cA J1 101 (N + 1) g ∧ (∀ i, i < T → g i = f0 i) ∧ ∀ h : Nat → Nat, sN (fun i => g i * h i) (N + 1) = sN (fun i => f0 i * hmX o b N T h i) (N + 1)) → Z X 0 0 (V X I J1 (rf t)) 22 [(3, .int (nI T + (-1))), (0, .ref (xad X 85)), (1, .int (nI o)), (2, .int (nI b))] [] := by
  intro f
  induction f with
  | zero => intro T J1 g h; omega
  | succ f ih =>
    intro T J1 g hf hi
    obtain ⟨hT, hfr, hg, hlo, hF⟩ := hi
    have em : (-1 : Int32).toInt = -1 := by decide
    have eT : (nI T + (-1)).toInt = (T : Int) - 1 := by
      rw [fb_addI (by rw [nI_toInt (by omega), em]; omega) (by rw [nI_toInt (by omega), em]; omega), nI_toInt (by omega), em]
      omega
    refine z_iload_n (n := 23) C 0 dX10_cross_22 rfl rfl ?_
    refine z_if_lt (tgt := 87) (n := 26) C dX10_cross_23 rfl rfl (fun c23 => ?_) (fun c23 => ?_)
    · refine z_vret C E dX10_cross_87 ?_
      rw [fa_lt, eT] at c23
      simp only [Int32.reduceToInt] at c23
      have e : T = 0 := by omega
      subst e
      exact hQ J1 hfr (mCh_cross (by omega) hf0 hg hF)
    · rw [fa_lt, eT] at c23
      simp only [Int32.reduceToInt] at c23
      obtain ⟨d, rfl⟩ : ∃ d, T = d + 1 := ⟨T - 1, by omega⟩
      rw [nI_prd]
      have hup := hg.up d (g d * (10 - o))
      refine z_aload_n (n := 27) C 1 dX10_cross_26 rfl rfl ?_
      refine z_getR (n := 30) (q := 101) C K fF_RX10_55 dX10_cross_27 rfl rfl sh_85 (by decide) rfl ?_
      refine z_iload_n (n := 31) C 0 dX10_cross_30 rfl rfl ?_
      refine z_laldN (n := 32) C K d dX10_cross_31 rfl sh_101 (by decide) rfl (by omega) (by decide) ?_
      rw [hg d (by omega)]
      refine z_lstore (n := 34) (L' := [(4, _), (3, _), (0, _), (1, _), (2, _)]) C dX10_cross_32 rfl (by rw [hnL]; decide) rfl ?_
      refine z_aload_n (n := 35) C 2 dX10_cross_34 rfl rfl ?_
      refine z_getR (n := 38) (q := 101) C K fF_RX10_55 dX10_cross_35 rfl rfl sh_85 (by decide) rfl ?_
      refine z_iload_n (n := 39) C 1 dX10_cross_38 rfl rfl ?_
      refine z_lload (n := 41) C 0 dX10_cross_39 rfl rfl ?_
      refine z_bipush (n := 43) (v := 10) C dX10_cross_41 rfl rfl ?_
      refine z_iload_n (n := 44) C 3 dX10_cross_43 rfl rfl ?_
      refine z_isub (n := 45) C dX10_cross_44 rfl ?_
      rw [ten_sub (by omega)]
      refine z_i2l (n := 46) C dX10_cross_45 rfl ?_
      rw [lN_i2l (by omega)]
      refine z_lmul (n := 47) C dX10_cross_46 rfl ?_
      rw [lN_mul]
      refine z_lastN (n := 48) C K d dX10_cross_47 rfl sh_101 (by decide) rfl (by omega) (by decide) ?_
      refine z_aload_n (n := 49) C 2 dX10_cross_48 rfl rfl ?_
      refine z_getR (n := 52) (q := 101) C K fF_RX10_55 dX10_cross_49 rfl rfl sh_85 (by decide) rfl ?_
      refine z_iload_n (n := 53) C 1 dX10_cross_52 rfl rfl ?_
      refine z_iload_n (n := 54) C 4 dX10_cross_53 rfl rfl ?_
      refine z_iadd (n := 55) C dX10_cross_54 rfl ?_
      refine z_aload_n (n := 56) C 2 dX10_cross_55 rfl rfl ?_
      refine z_getI (n := 59) C K fF_RX10_184 dX10_cross_56 rfl sh_85 (by decide) ?_
      rw [nI_add, hN]
      refine z_icmp_ge (tgt := 68) (n := 62) C dX10_cross_59 rfl rfl (fun c59 => ?_) (fun c59 => ?_)
      · rw [fa_le, nI_toInt (by omega), nI_toInt (by omega)] at c59
        refine z_aload_n (n := 69) C 2 dX10_cross_68 rfl rfl ?_
        refine z_getI (n := 72) C K fF_RX10_184 dX10_cross_69 rfl sh_85 (by decide) ?_
        rw [hN, show N = min (d + b) N by omega]
        refine z_dup2 (n := 73) C dX10_cross_72 rfl rfl rfl ?_
        refine z_laldN (n := 74) C K (min (d + b) N) dX10_cross_73 rfl sh_101 (by decide) rfl (by omega) (by decide) ?_
        rw [hup (min (d + b) N) (by omega)]
        refine z_lload (n := 76) C 0 dX10_cross_74 rfl rfl ?_
        refine z_iload_n (n := 77) C 3 dX10_cross_76 rfl rfl ?_
        refine z_i2l (n := 78) C dX10_cross_77 rfl ?_
        rw [lN_i2l (by omega)]
        refine z_lmul (n := 79) C dX10_cross_78 rfl ?_
        rw [lN_mul]
        refine z_ladd (n := 80) C dX10_cross_79 rfl ?_
        rw [lN_add]
        refine z_lastN (n := 81) C K (min (d + b) N) dX10_cross_80 rfl sh_101 (by decide) rfl (by omega) (by decide) ?_
        refine z_iincG (n := 84) (c := (-1)) (L' := [(3, _), (4, _), (0, _), (1, _), (2, _)]) C 1 dX10_cross_81 rfl rfl rfl (by rw [hnL]; decide) rfl ?_
        refine z_goto (n := 22) C dX10_cross_84 rfl ?_
        refine z_sub (L' := [(3, _), (0, _), (1, _), (2, _)]) [0, 2, 3, 4] rfl ?_
        exact ih d _ _ (by omega) ⟨by omega, fun q hq => by rw [upJ_row _ _ hq, upJ_row _ _ hq]; exact hfr q hq, hup.up _ _, fun i hi => by rw [fu_ne _ _ (by omega), fu_ne _ _ (by omega)]; exact hlo i (by omega), fun h => hmX_step (by omega) (hlo d (by omega)) (hF h)⟩
      · rw [fa_le, nI_toInt (by omega), nI_toInt (by omega)] at c59
        refine z_iload_n (n := 63) C 1 dX10_cross_62 rfl rfl ?_
        refine z_iload_n (n := 64) C 4 dX10_cross_63 rfl rfl ?_
        refine z_iadd (n := 65) C dX10_cross_64 rfl ?_
        refine z_goto (n := 72) C dX10_cross_65 rfl ?_
        rw [nI_add, show d + b = min (d + b) N by omega]
        refine z_dup2 (n := 73) C dX10_cross_72 rfl rfl rfl ?_
        refine z_laldN (n := 74) C K (min (d + b) N) dX10_cross_73 rfl sh_101 (by decide) rfl (by omega) (by decide) ?_
        rw [hup (min (d + b) N) (by omega)]
        refine z_lload (n := 76) C 0 dX10_cross_74 rfl rfl ?_
        refine z_iload_n (n := 77) C 3 dX10_cross_76 rfl rfl ?_
        refine z_i2l (n := 78) C dX10_cross_77 rfl ?_
        rw [lN_i2l (by omega)]
        refine z_lmul (n := 79) C dX10_cross_78 rfl ?_
        rw [lN_mul]
        refine z_ladd (n := 80) C dX10_cross_79 rfl ?_
        rw [lN_add]
        refine z_lastN (n := 81) C K (min (d + b) N) dX10_cross_80 rfl sh_101 (by decide) rfl (by omega) (by decide) ?_
        refine z_iincG (n := 84) (c := (-1)) (L' := [(3, _), (4, _), (0, _), (1, _), (2, _)]) C 1 dX10_cross_81 rfl rfl rfl (by rw [hnL]; decide) rfl ?_
        refine z_goto (n := 22) C dX10_cross_84 rfl ?_
        refine z_sub (L' := [(3, _), (0, _), (1, _), (2, _)]) [0, 2, 3, 4] rfl ?_
        exact ih d _ _ (by omega) ⟨by omega, fun q hq => by rw [upJ_row _ _ hq, upJ_row _ _ hq]; exact hfr q hq, hup.up _ _, fun i hi => by rw [fu_ne _ _ (by omega), fu_ne _ _ (by omega)]; exact hlo i (by omega), fun h => hmX_step (by omega) (hlo d (by omega)) (hF h)⟩
set_option maxHeartbeats 4000000 in
set_option maxRecDepth 100000 in
theorem c_X10_cross {ad : Nat → Nat} {I : KI} {J : KJ} {t : Nat} {N m o b : Nat} {P : List St} (hM : mCh J N P m) (hN : I 85 28 = nI N) (hN1 : N ≤ 7000) (ho : o ≤ 9) (hb2 : b ≤ 9) {Q : KI → KJ → KR → Prop} (hQ : ∀ J', (∀ q, q ≠ 101 → J' q = J q) → mCh J' N (P ++ [(1, o, b)]) m → Q I J' (rf t))  : Mv 1 yX10_cross (wm yX10_cross cX10_cross 6 none) [.ref (ad 85), .int (nI o), .int (nI b)] ad I J (rf t) Q := by
  refine mv_of (own := RX10) yk_X10_cross rfl (Nat.le_of_ble_eq_true rfl) rfl (fun X hA hnL C K E => ?_)
  subst hA
  obtain ⟨f0, hA, hf⟩ := hM
  have hup := hA.up N (f0 N * 10)
  refine z_aload_n (n := 1) C 0 dX10_cross_0 rfl rfl ?_
  refine z_getR (n := 4) (q := 101) C K fF_RX10_55 dX10_cross_1 rfl rfl sh_85 (by decide) rfl ?_
  refine z_aload_n (n := 5) C 0 dX10_cross_4 rfl rfl ?_
  refine z_getI (n := 8) C K fF_RX10_184 dX10_cross_5 rfl sh_85 (by decide) ?_
  rw [hN]
  refine z_dup2 (n := 9) C dX10_cross_8 rfl rfl rfl ?_
  refine z_laldN (n := 10) C K N dX10_cross_9 rfl sh_101 (by decide) rfl (by omega) (by decide) ?_
  rw [hA N (by omega)]
  refine z_ldc2 (n := 13) C dX10_cross_10 kK_RX10_187 rfl ?_
  refine z_lmul (n := 14) C dX10_cross_13 rfl ?_
  rw [show (10 : Int64) = lN 10 from rfl, lN_mul]
  refine z_lastN (n := 15) C K N dX10_cross_14 rfl sh_101 (by decide) rfl (by omega) (by decide) ?_
  refine z_aload_n (n := 16) C 0 dX10_cross_15 rfl rfl ?_
  refine z_getI (n := 19) C K fF_RX10_184 dX10_cross_16 rfl sh_85 (by decide) ?_
  refine z_iconst (n := 20) (v := 1) C dX10_cross_19 rfl rfl ?_
  refine z_isub (n := 21) C dX10_cross_20 rfl ?_
  rw [hN, sub_one]
  refine z_istore_n (n := 22) (L' := [(3, _), (0, _), (1, _), (2, _)]) C dX10_cross_21 rfl (by rw [hnL]; decide) rfl ?_
  exact l_X10_cross C K hnL E hN hN1 ho hb2 hf (fun J2 hf2 hM2 => hQ J2 (fun q hq => by rw [hf2 q hq, upJ_row _ _ hq]) hM2) (N + 1) N _ _ (by omega) ⟨Nat.le_refl _, fun _ _ => rfl, hup, fun i hi => fu_ne _ _ (by omega), fun h => hmX_start h⟩
set_option maxHeartbeats 4000000 in
set_option maxRecDepth 100000 in
theorem l_X10_waitTill {X : KX} {t : Nat} (C : Cx X RX10 cX10_waitTill 1) (K : Kx X) (hnL : xnL X = 4) {Q : KI → KJ → KR → Prop} (E : Ev X Q) {I : KI} {J : KJ} {N m mn : Nat} {P : List St} (hN : I 85 28 = nI N) (hN1 : N ≤ 7000) (hmn : mn ≤ 60) {f0 : Nat → Nat} (hf0 : ∀ h : Nat → Nat, sN (fun i => f0 i * h i) (N + 1) = ev P (fun t => h (min t N)) m) (hQ : ∀ J', (∀ q, q ≠ 101 → J' q = J q) → mCh J' N (P ++ [(2, mn, 0)]) m → Q I J' (rf t)) : ∀ (f T : Nat) (J1 : KJ) (g : Nat → Nat), min mn N - T < f → (T ≤ min mn N ∧ (∀ q, q ≠ 101 → J1 q = J q) ∧ cA J1 101 (N + 1) g ∧ (∀ i, T ≤ i → i < min mn N → g i = f0 i) ∧ ∀ h : Nat → Nat, sN (fun i => g i * h i) (N + 1) = sN (fun i => f0 i * hmW (min mn N) T h i) (N + 1)) → Z X 0 0 (V X I J1 (rf t)) 19 [(3, .int (nI T)), (2, .int (nI (min mn N))), (0, .ref (xad X 85)), (1, .int (nI mn))] [] := by
  intro f
  induction f with
  | zero => intro T J1 g h; omega
  | succ f ih =>
    intro T J1 g hf hi
    obtain ⟨hT, hfr, hg, hlo, hF⟩ := hi
    refine z_iload_n (n := 20) C 0 dX10_waitTill_19 rfl rfl ?_
    refine z_iload_n (n := 21) C 1 dX10_waitTill_20 rfl rfl ?_
    refine z_icmp_ge (tgt := 52) (n := 24) C dX10_waitTill_21 rfl rfl (fun c21 => ?_) (fun c21 => ?_)
    · refine z_vret C E dX10_waitTill_52 ?_
      rw [fa_le, nI_toInt (by omega), nI_toInt (by omega)] at c21
      have e : T = min mn N := by omega
      subst e
      exact hQ J1 hfr (mCh_wait hf0 hg hF)
    · rw [fa_le, nI_toInt (by omega), nI_toInt (by omega)] at c21
      have hup := hg.up (min mn N) (g (min mn N) + g T)
      refine z_aload_n (n := 25) C 2 dX10_waitTill_24 rfl rfl ?_
      refine z_getR (n := 28) (q := 101) C K fF_RX10_55 dX10_waitTill_25 rfl rfl sh_85 (by decide) rfl ?_
      refine z_iload_n (n := 29) C 1 dX10_waitTill_28 rfl rfl ?_
      refine z_dup2 (n := 30) C dX10_waitTill_29 rfl rfl rfl ?_
      refine z_laldN (n := 31) C K (min mn N) dX10_waitTill_30 rfl sh_101 (by decide) rfl (by omega) (by decide) ?_
      rw [hg (min mn N) (by omega)]
      refine z_aload_n (n := 32) C 2 dX10_waitTill_31 rfl rfl ?_
      refine z_getR (n := 35) (q := 101) C K fF_RX10_55 dX10_waitTill_32 rfl rfl sh_85 (by decide) rfl ?_
      refine z_iload_n (n := 36) C 0 dX10_waitTill_35 rfl rfl ?_
      refine z_laldN (n := 37) C K T dX10_waitTill_36 rfl sh_101 (by decide) rfl (by omega) (by decide) ?_
      rw [hg T (by omega)]
      refine z_ladd (n := 38) C dX10_waitTill_37 rfl ?_
      rw [lN_add]
      refine z_lastN (n := 39) C K (min mn N) dX10_waitTill_38 rfl sh_101 (by decide) rfl (by omega) (by decide) ?_
      refine z_aload_n (n := 40) C 2 dX10_waitTill_39 rfl rfl ?_
      refine z_getR (n := 43) (q := 101) C K fF_RX10_55 dX10_waitTill_40 rfl rfl sh_85 (by decide) rfl ?_
      refine z_iload_n (n := 44) C 0 dX10_waitTill_43 rfl rfl ?_
      refine z_lconst (n := 45) (v := 0) C dX10_waitTill_44 rfl rfl ?_
      rw [show (0 : Int64) = lN 0 from rfl]
      refine z_lastN (n := 46) C K T dX10_waitTill_45 rfl sh_101 (by decide) rfl (by omega) (by decide) ?_
      refine z_iincG (n := 49) (c := 1) (L' := [(3, _), (2, _), (0, _), (1, _)]) C 0 dX10_waitTill_46 rfl rfl rfl (by rw [hnL]; decide) rfl ?_
      refine z_goto (n := 19) C dX10_waitTill_49 rfl ?_
      rw [nI_1]
      exact ih (T + 1) _ _ (by omega) ⟨by omega, fun q hq => by rw [upJ_row _ _ hq, upJ_row _ _ hq]; exact hfr q hq, hup.up _ _, fun i hi hi2 => by rw [fu_ne _ _ (by omega), fu_ne _ _ (by omega)]; exact hlo i (by omega) hi2, fun h => hmW_step (by omega) (by omega) (hlo T (Nat.le_refl _) (by omega)) (hF h)⟩
set_option maxHeartbeats 4000000 in
set_option maxRecDepth 100000 in
theorem c_X10_waitTill {ad : Nat → Nat} {I : KI} {J : KJ} {t : Nat} {N m mn : Nat} {P : List St} (hM : mCh J N P m) (hN : I 85 28 = nI N) (hN1 : N ≤ 7000) (hmn : mn ≤ 60) {Q : KI → KJ → KR → Prop} (hQ : ∀ J', (∀ q, q ≠ 101 → J' q = J q) → mCh J' N (P ++ [(2, mn, 0)]) m → Q I J' (rf t))  : Mv 1 yX10_waitTill (wm yX10_waitTill cX10_waitTill 4 none) [.ref (ad 85), .int (nI mn)] ad I J (rf t) Q := by
  refine mv_of (own := RX10) yk_X10_waitTill rfl (Nat.le_of_ble_eq_true rfl) rfl (fun X hA hnL C K E => ?_)
  subst hA
  obtain ⟨f0, hA, hf⟩ := hM
  refine z_iload_n (n := 1) C 1 dX10_waitTill_0 rfl rfl ?_
  refine z_aload_n (n := 2) C 0 dX10_waitTill_1 rfl rfl ?_
  refine z_getI (n := 5) C K fF_RX10_184 dX10_waitTill_2 rfl sh_85 (by decide) ?_
  rw [hN]
  refine z_icmp_ge (tgt := 12) (n := 8) C dX10_waitTill_5 rfl rfl (fun c5 => ?_) (fun c5 => ?_)
  · rw [fa_le, nI_toInt (by omega), nI_toInt (by omega)] at c5
    refine z_aload_n (n := 13) C 0 dX10_waitTill_12 rfl rfl ?_
    refine z_getI (n := 16) C K fF_RX10_184 dX10_waitTill_13 rfl sh_85 (by decide) ?_
    rw [hN, show nI N = nI (min mn N) by congr 1; omega]
    refine z_istore_n (n := 17) (L' := [(2, _), (0, _), (1, _)]) C dX10_waitTill_16 rfl (by rw [hnL]; decide) rfl ?_
    refine z_iconst (n := 18) (v := 0) C dX10_waitTill_17 rfl rfl ?_
    refine z_istore_n (n := 19) (L' := [(3, _), (2, _), (0, _), (1, _)]) C dX10_waitTill_18 rfl (by rw [hnL]; decide) rfl ?_
    exact l_X10_waitTill C K hnL E hN hN1 hmn hf hQ (min mn N + 1) 0 J f0 (by omega) ⟨Nat.zero_le _, fun _ _ => rfl, hA, fun _ _ _ => rfl, fun h => sN_cong (fun i hi => by show f0 i * h i = f0 i * hmW (min mn N) 0 h i; unfold hmW; rw [if_neg (by omega)])⟩
  · rw [fa_le, nI_toInt (by omega), nI_toInt (by omega)] at c5
    refine z_iload_n (n := 9) C 1 dX10_waitTill_8 rfl rfl ?_
    refine z_goto (n := 16) C dX10_waitTill_9 rfl ?_
    have emn : mn = min mn N := by omega
    refine z_istore_n (n := 17) (L' := [(2, _), (0, _), (1, _)]) C dX10_waitTill_16 rfl (by rw [hnL]; decide) rfl ?_
    refine z_iconst (n := 18) (v := 0) C dX10_waitTill_17 rfl rfl ?_
    refine z_istore_n (n := 19) (L' := [(3, _), (2, _), (0, _), (1, _)]) C dX10_waitTill_18 rfl (by rw [hnL]; decide) rfl ?_
    refine Eq.mp (congrArg (fun z => Z X 0 0 (V X I J (rf t)) 19 [(3, .int (nI 0)), (2, .int (nI z)), (0, .ref (xad X 85)), (1, .int (nI mn))] []) emn.symm) ?_
    exact l_X10_waitTill C K hnL E hN hN1 hmn hf hQ (min mn N + 1) 0 J f0 (by omega) ⟨Nat.zero_le _, fun _ _ => rfl, hA, fun _ _ _ => rfl, fun h => sN_cong (fun i hi => by show f0 i * h i = f0 i * hmW (min mn N) 0 h i; unfold hmW; rw [if_neg (by omega)])⟩
set_option maxHeartbeats 4000000 in
set_option maxRecDepth 100000 in
theorem l_X10_tens {X : KX} {t : Nat} (C : Cx X RX10 cX10_tens 1) (K : Kx X) (hnL : xnL X = 4) {Q : Int64 → KI → KJ → KR → Prop} (E : El X Q) {I : KI} {J : KJ} {k : Nat} (hk : k < 2 ^ 31) (hQ : Q (lN (10 ^ k)) I J (rf t)) : ∀ (f i : Nat), k - i < f → i ≤ k → Z X 0 0 (V X I J (rf t)) 4 [(3, .int (nI i)), (1, .long (lN (10 ^ i))), (0, .int (nI k))] [] := by
  intro f
  induction f with
  | zero => intro i h; omega
  | succ f ih =>
    intro i hf hi

    refine z_iload_n (n := 5) C 0 dX10_tens_4 rfl rfl ?_
    refine z_iload_n (n := 6) C 2 dX10_tens_5 rfl rfl ?_
    refine z_icmp_ge (tgt := 21) (n := 9) C dX10_tens_6 rfl rfl (fun c6 => ?_) (fun c6 => ?_)
    · refine z_lload_n (n := 22) C 1 dX10_tens_21 rfl rfl ?_
      refine z_lret C E dX10_tens_22 ?_
      rw [fa_le, nI_toInt (by omega), nI_toInt (by omega)] at c6
      have e : i = k := by omega
      subst e
      exact hQ
    · rw [fa_le, nI_toInt (by omega), nI_toInt (by omega)] at c6
      refine z_lload_n (n := 10) C 1 dX10_tens_9 rfl rfl ?_
      refine z_ldc2 (n := 13) C dX10_tens_10 kK_RX10_187 rfl ?_
      refine z_lmul (n := 14) C dX10_tens_13 rfl ?_
      rw [pow_S]
      refine z_lstore_n (n := 15) (L' := [(1, _), (3, _), (0, _)]) C dX10_tens_14 rfl (by rw [hnL]; decide) rfl ?_
      refine z_iincG (n := 18) (c := 1) (L' := [(3, _), (1, _), (0, _)]) C 1 dX10_tens_15 rfl rfl rfl (by rw [hnL]; decide) rfl ?_
      refine z_goto (n := 4) C dX10_tens_18 rfl ?_
      rw [nI_1]
      exact ih (i + 1) (by omega) (by omega)
set_option maxHeartbeats 4000000 in
set_option maxRecDepth 100000 in
theorem c_X10_tens {ad : Nat → Nat} {I : KI} {J : KJ} {t : Nat} {k : Nat} (hk : k < 2 ^ 31) {Q : Int64 → KI → KJ → KR → Prop} (hQ : Q (lN (10 ^ k)) I J (rf t)) : Ml 1 yX10_tens (wm yX10_tens cX10_tens 4 (some .long)) [.int (nI k)] ad I J (rf t) Q := by
  refine ml_of (own := RX10) yk_X10_tens rfl (Nat.le_of_ble_eq_true rfl) rfl (fun X hA hnL C K E => ?_)
  subst hA
  refine z_lconst (n := 1) (v := 1) C dX10_tens_0 rfl rfl ?_
  refine z_lstore_n (n := 2) (L' := [(1, _), (0, _)]) C dX10_tens_1 rfl (by rw [hnL]; decide) rfl ?_
  refine z_iconst (n := 3) (v := 0) C dX10_tens_2 rfl rfl ?_
  refine z_istore_n (n := 4) (L' := [(3, _), (1, _), (0, _)]) C dX10_tens_3 rfl (by rw [hnL]; decide) rfl ?_
  exact l_X10_tens C K hnL E hk hQ (k + 1) 0 (by omega) (by omega)
set_option maxHeartbeats 4000000 in
set_option maxRecDepth 100000 in
theorem l_X10_goWay {X : KX} {t : Nat} (C : Cx X RX10 cX10_goWay 3) (K : Kx X) (hnL : xnL X = 6) {Q : KI → KJ → KR → Prop} (E : Ev X Q) {I : KI} {J : KJ} {n r s : Nat} {rd : Nat → Nat → Nat} (hw : mTw I n r s rd) (ok : okTw n r s rd) {C0 : Nat → Nat → Nat} (hc : okW n r rd C0) (hW : mWy I n C0) {N m p a b : Nat} {F : List St} (hb : b < n) (hp1 : 1 ≤ p) (hp : p ≤ 4) (hN : I 85 28 = nI N) (hN1 : N ≤ 7000) (hQ : ∀ J', (∀ q, q ≠ 101 → J' q = J q) → mCh J' N F m → Q I J' (rf t)) : ∀ (f x : Nat) (J1 : KJ) (P1 : List St), rnk C0 n x b < f → (x < n ∧ C0 x b < 1048576 ∧ (∀ q, q ≠ 101 → J1 q = J q) ∧ mCh J1 N P1 m ∧ P1 ++ stpW rd p (wy r rd C0 x b) = F) → Z X 0 0 (V X I J1 (rf t)) 3 [(4, .int (nI x)), (0, .ref (xad X 85)), (1, .int (nI a)), (2, .int (nI b)), (3, .int (nI p))] [] := by
  intro f
  induction f with
  | zero => intro x J1 P1 h; omega
  | succ f ih =>
    intro x J1 P1 hf hi
    obtain ⟨hx, hlt, hfJ, hM, hF⟩ := hi
    have hn7 := ok.1
    have hr12 := ok.2.1
    have hrd : okRd n r rd := ok.2.2.2
    refine z_iload (n := 5) C 0 dX10_goWay_3 rfl rfl ?_
    refine z_iload_n (n := 6) C 3 dX10_goWay_5 rfl rfl ?_
    refine z_icmp_eq (tgt := 93) (n := 9) C dX10_goWay_6 rfl rfl (fun c6 => ?_) (fun c6 => ?_)
    · refine z_vret C E dX10_goWay_93 ?_
      have hxb : x = b := nI_inj c6 (by omega) (by omega)
      subst hxb
      rw [wy_self, stpW, List.append_nil] at hF
      subst hF
      exact hQ J1 hfJ hM
    · have hxb : x ≠ b := fun e => c6 (by rw [e])
      obtain ⟨g1, g2, g3, g4, g5, g6⟩ := okW.next hrd hc hx hb hxb hlt
      have ewy := wy_step hn7 hrd hc hx hb hxb hlt
      obtain ⟨k, ek⟩ : ∃ k, nxS rd C0 x b r = k := ⟨_, rfl⟩
      rw [ek] at g1 g2 g3 g4 g5 g6 ewy
      rw [ewy, stpW] at hF
      have hz := ok.2.2.2 k g1
      have hwk := hw.2.2.2 k g1
      refine z_aload_n (n := 10) C 1 dX10_goWay_9 rfl rfl ?_
      refine z_iload (n := 12) C 0 dX10_goWay_10 rfl rfl ?_
      refine z_iload_n (n := 13) C 3 dX10_goWay_12 rfl rfl ?_
      refine z_vi_2 (n := 16) (d' := 2) C K dX10_goWay_13 rfl yk_X10_nextRoad yv_X10_nextRoad kM_RX10_156 (by decide) hR0 rfl rfl sh_85 (by decide) (by decide) ?_
      refine c_X10_nextRoad hw ok hc hW hx hb hxb hlt ?_
      rw [ek]
      refine z_istore (n := 18) (L' := [(5, _), (4, _), (0, _), (1, _), (2, _), (3, _)]) C dX10_goWay_16 rfl (by rw [hnL]; decide) rfl ?_
      refine z_aload_n (n := 19) C 2 dX10_goWay_18 rfl rfl ?_
      refine z_aload_n (n := 20) C 2 dX10_goWay_19 rfl rfl ?_
      refine z_getR (n := 23) (q := 91) C K fF_RX10_25 dX10_goWay_20 rfl rfl sh_85 (by decide) rfl ?_
      refine z_iload (n := 25) C 0 dX10_goWay_23 rfl rfl ?_
      refine z_ialdN (n := 26) C K k dX10_goWay_25 rfl sh_91 (by decide) rfl (by omega) (by decide) ?_
      rw [hwk.2.2.1]
      refine z_iload_n (n := 27) C 5 dX10_goWay_26 rfl rfl ?_
      refine z_imul (n := 28) C dX10_goWay_27 rfl ?_
      rw [mul_nI]
      have hmp : 1 * 1 ≤ rd 2 k * p := Nat.mul_le_mul hz.2.2.2.1 hp1
      have hmq : rd 2 k * p ≤ 30 * 4 := Nat.mul_le_mul hz.2.2.2.2.1 hp
      refine z_vv_1 (n := 31) (d' := 1) C K dX10_goWay_28 rfl yk_X10_moveOn yv_X10_moveOn kM_RX10_189 (by decide) hR0 rfl rfl sh_85 (by decide) (by decide) ?_
      refine c_X10_moveOn hM hN hN1 (by omega) (by omega) (fun J2 hg2 hM2 => ?_)
      refine z_aload_n (n := 32) C 2 dX10_goWay_31 rfl rfl ?_
      refine z_getR (n := 35) (q := 92) C K fF_RX10_28 dX10_goWay_32 rfl rfl sh_85 (by decide) rfl ?_
      refine z_iload (n := 37) C 0 dX10_goWay_35 rfl rfl ?_
      refine z_ialdN (n := 38) C K k dX10_goWay_37 rfl sh_92 (by decide) rfl (by omega) (by decide) ?_
      rw [hwk.2.2.2.1]
      refine z_if_le (tgt := 59) (n := 41) C dX10_goWay_38 rfl rfl (fun c38 => ?_) (fun c38 => ?_)
      · refine z_aload_n (n := 60) C 2 dX10_goWay_59 rfl rfl ?_
        refine z_getR (n := 63) (q := 89) C K fF_RX10_19 dX10_goWay_60 rfl rfl sh_85 (by decide) rfl ?_
        refine z_iload (n := 65) C 0 dX10_goWay_63 rfl rfl ?_
        refine z_ialdN (n := 66) C K k dX10_goWay_65 rfl sh_89 (by decide) rfl (by omega) (by decide) ?_
        rw [hwk.1]
        refine z_iload (n := 68) C 1 dX10_goWay_66 rfl rfl ?_
        refine z_icmp_ne (tgt := 81) (n := 71) C dX10_goWay_68 rfl rfl (fun c68 => ?_) (fun c68 => ?_)
        · refine z_aload_n (n := 82) C 2 dX10_goWay_81 rfl rfl ?_
          refine z_getR (n := 85) (q := 89) C K fF_RX10_19 dX10_goWay_82 rfl rfl sh_85 (by decide) rfl ?_
          refine z_iload (n := 87) C 0 dX10_goWay_85 rfl rfl ?_
          refine z_ialdN (n := 88) C K k dX10_goWay_87 rfl sh_89 (by decide) rfl (by omega) (by decide) ?_
          rw [hwk.1, show rd 0 k = othS rd k x by unfold othS; rw [if_neg (fun e => c68 (by rw [e]))]]
          refine z_istore (n := 90) (L' := [(4, _), (5, _), (0, _), (1, _), (2, _), (3, _)]) C dX10_goWay_88 rfl (by rw [hnL]; decide) rfl ?_
          refine z_goto (n := 3) C dX10_goWay_90 rfl ?_
          refine z_sub (L' := [(4, _), (0, _), (1, _), (2, _), (3, _)]) [0, 2, 3, 4, 5] rfl ?_
          rw [fa_le, nI_toInt (by omega)] at c38
          simp only [Int32.reduceToInt] at c38
          exact ih (othS rd k x) _ _ (by omega) ⟨g4, g5, fun q q1 => by rw [hg2 q q1]; exact hfJ q q1, hM2, by rw [← hF]; unfold stpR; rw [if_neg (by omega)]; simp⟩
        · refine z_aload_n (n := 72) C 2 dX10_goWay_71 rfl rfl ?_
          refine z_getR (n := 75) (q := 90) C K fF_RX10_22 dX10_goWay_72 rfl rfl sh_85 (by decide) rfl ?_
          refine z_iload (n := 77) C 0 dX10_goWay_75 rfl rfl ?_
          refine z_ialdN (n := 78) C K k dX10_goWay_77 rfl sh_90 (by decide) rfl (by omega) (by decide) ?_
          refine z_goto (n := 88) C dX10_goWay_78 rfl ?_
          rw [hwk.2.1, show rd 1 k = othS rd k x by unfold othS; rw [if_pos (nI_inj c68 (by omega) (by omega))]]
          refine z_istore (n := 90) (L' := [(4, _), (5, _), (0, _), (1, _), (2, _), (3, _)]) C dX10_goWay_88 rfl (by rw [hnL]; decide) rfl ?_
          refine z_goto (n := 3) C dX10_goWay_90 rfl ?_
          refine z_sub (L' := [(4, _), (0, _), (1, _), (2, _), (3, _)]) [0, 2, 3, 4, 5] rfl ?_
          rw [fa_le, nI_toInt (by omega)] at c38
          simp only [Int32.reduceToInt] at c38
          exact ih (othS rd k x) _ _ (by omega) ⟨g4, g5, fun q q1 => by rw [hg2 q q1]; exact hfJ q q1, hM2, by rw [← hF]; unfold stpR; rw [if_neg (by omega)]; simp⟩
      · rw [fa_le, nI_toInt (by omega)] at c38
        simp only [Int32.reduceToInt] at c38
        refine z_aload_n (n := 42) C 2 dX10_goWay_41 rfl rfl ?_
        refine z_aload_n (n := 43) C 2 dX10_goWay_42 rfl rfl ?_
        refine z_getR (n := 46) (q := 92) C K fF_RX10_28 dX10_goWay_43 rfl rfl sh_85 (by decide) rfl ?_
        refine z_iload (n := 48) C 0 dX10_goWay_46 rfl rfl ?_
        refine z_ialdN (n := 49) C K k dX10_goWay_48 rfl sh_92 (by decide) rfl (by omega) (by decide) ?_
        refine z_aload_n (n := 50) C 2 dX10_goWay_49 rfl rfl ?_
        refine z_getR (n := 53) (q := 93) C K fF_RX10_31 dX10_goWay_50 rfl rfl sh_85 (by decide) rfl ?_
        refine z_iload (n := 55) C 0 dX10_goWay_53 rfl rfl ?_
        refine z_ialdN (n := 56) C K k dX10_goWay_55 rfl sh_93 (by decide) rfl (by omega) (by decide) ?_
        rw [hwk.2.2.2.1, hwk.2.2.2.2]
        refine z_vv_2 (n := 59) (d' := 1) C K dX10_goWay_56 rfl yk_X10_cross yv_X10_cross kM_RX10_193 (by decide) hR0 rfl rfl sh_85 (by decide) (by decide) ?_
        refine c_X10_cross hM2 hN hN1 hz.2.2.2.2.2.1 hz.2.2.2.2.2.2 (fun J3 hg3 hM3 => ?_)
        refine z_aload_n (n := 60) C 2 dX10_goWay_59 rfl rfl ?_
        refine z_getR (n := 63) (q := 89) C K fF_RX10_19 dX10_goWay_60 rfl rfl sh_85 (by decide) rfl ?_
        refine z_iload (n := 65) C 0 dX10_goWay_63 rfl rfl ?_
        refine z_ialdN (n := 66) C K k dX10_goWay_65 rfl sh_89 (by decide) rfl (by omega) (by decide) ?_
        rw [hwk.1]
        refine z_iload (n := 68) C 1 dX10_goWay_66 rfl rfl ?_
        refine z_icmp_ne (tgt := 81) (n := 71) C dX10_goWay_68 rfl rfl (fun c68 => ?_) (fun c68 => ?_)
        · refine z_aload_n (n := 82) C 2 dX10_goWay_81 rfl rfl ?_
          refine z_getR (n := 85) (q := 89) C K fF_RX10_19 dX10_goWay_82 rfl rfl sh_85 (by decide) rfl ?_
          refine z_iload (n := 87) C 0 dX10_goWay_85 rfl rfl ?_
          refine z_ialdN (n := 88) C K k dX10_goWay_87 rfl sh_89 (by decide) rfl (by omega) (by decide) ?_
          rw [hwk.1, show rd 0 k = othS rd k x by unfold othS; rw [if_neg (fun e => c68 (by rw [e]))]]
          refine z_istore (n := 90) (L' := [(4, _), (5, _), (0, _), (1, _), (2, _), (3, _)]) C dX10_goWay_88 rfl (by rw [hnL]; decide) rfl ?_
          refine z_goto (n := 3) C dX10_goWay_90 rfl ?_
          refine z_sub (L' := [(4, _), (0, _), (1, _), (2, _), (3, _)]) [0, 2, 3, 4, 5] rfl ?_
          exact ih (othS rd k x) _ _ (by omega) ⟨g4, g5, fun q q1 => by rw [hg3 q q1, hg2 q q1]; exact hfJ q q1, hM3, by rw [← hF]; unfold stpR; rw [if_pos (by omega)]; simp⟩
        · refine z_aload_n (n := 72) C 2 dX10_goWay_71 rfl rfl ?_
          refine z_getR (n := 75) (q := 90) C K fF_RX10_22 dX10_goWay_72 rfl rfl sh_85 (by decide) rfl ?_
          refine z_iload (n := 77) C 0 dX10_goWay_75 rfl rfl ?_
          refine z_ialdN (n := 78) C K k dX10_goWay_77 rfl sh_90 (by decide) rfl (by omega) (by decide) ?_
          refine z_goto (n := 88) C dX10_goWay_78 rfl ?_
          rw [hwk.2.1, show rd 1 k = othS rd k x by unfold othS; rw [if_pos (nI_inj c68 (by omega) (by omega))]]
          refine z_istore (n := 90) (L' := [(4, _), (5, _), (0, _), (1, _), (2, _), (3, _)]) C dX10_goWay_88 rfl (by rw [hnL]; decide) rfl ?_
          refine z_goto (n := 3) C dX10_goWay_90 rfl ?_
          refine z_sub (L' := [(4, _), (0, _), (1, _), (2, _), (3, _)]) [0, 2, 3, 4, 5] rfl ?_
          exact ih (othS rd k x) _ _ (by omega) ⟨g4, g5, fun q q1 => by rw [hg3 q q1, hg2 q q1]; exact hfJ q q1, hM3, by rw [← hF]; unfold stpR; rw [if_pos (by omega)]; simp⟩
set_option maxHeartbeats 4000000 in
set_option maxRecDepth 100000 in
theorem c_X10_goWay {ad : Nat → Nat} {I : KI} {J : KJ} {t : Nat} {n r s : Nat} {rd : Nat → Nat → Nat} (hw : mTw I n r s rd) (ok : okTw n r s rd) {C0 : Nat → Nat → Nat} (hc : okW n r rd C0) (hW : mWy I n C0) {P : List St} {N m p a b : Nat} {F : List St} (hb : b < n) (hp1 : 1 ≤ p) (hp : p ≤ 4) (hN : I 85 28 = nI N) (hN1 : N ≤ 7000) (hM : mCh J N P m) (ha : a < n) (hlt : C0 a b < 1048576) (hF : P ++ stpW rd p (wy r rd C0 a b) = F) {Q : KI → KJ → KR → Prop} (hQ : ∀ J', (∀ q, q ≠ 101 → J' q = J q) → mCh J' N F m → Q I J' (rf t))  : Mv 3 yX10_goWay (wm yX10_goWay cX10_goWay 6 none) [.ref (ad 85), .int (nI a), .int (nI b), .int (nI p)] ad I J (rf t) Q := by
  refine mv_of (own := RX10) yk_X10_goWay rfl (Nat.le_of_ble_eq_true rfl) rfl (fun X hA hnL C K E => ?_)
  subst hA
  refine z_iload_n (n := 1) C 1 dX10_goWay_0 rfl rfl ?_
  refine z_istore (n := 3) (L' := [(4, _), (0, _), (1, _), (2, _), (3, _)]) C dX10_goWay_1 rfl (by rw [hnL]; decide) rfl ?_
  exact l_X10_goWay C K hnL E hw ok hc hW hb hp1 hp hN hN1 hQ (rnk C0 n a b + 1) a J P (by omega) ⟨ha, hlt, fun _ _ => rfl, hM, hF⟩
