theorem one_ev (h : Nat → Nat) (m : Nat) : sN (fun d => (if d = 0 then 1 else 0) * h (m + d)) 136 = h m := by
  have h1 := sN_split (fun d => (if d = 0 then 1 else 0) * h (m + d)) 1 135
  rw [show 1 + 135 = 136 by rfl] at h1
  rw [h1, sN_zero (n := 135) (fun i _ => by rw [if_neg (by omega), Nat.zero_mul])]
  show 0 + 1 * h m + 0 = h m
  omega
theorem nI_prd (d : Nat) : nI (d + 1) + (-1) = nI d := by
  rw [← nI_1, Int32.add_assoc]
  exact Int32.add_zero _
theorem ten_sub {o : Nat} (h : o ≤ 10) : (10 : Int32) - nI o = nI (10 - o) := by
  apply i_ext
  rw [fb_subI (by rw [nI_toInt (by omega)]; simp only [Int32.reduceToInt]; omega) (by rw [nI_toInt (by omega)]; simp only [Int32.reduceToInt]; omega), nI_toInt (by omega), nI_toInt (by omega)]
  simp only [Int32.reduceToInt]; omega
theorem nI_sub {a b : Nat} (h : b ≤ a) (ha : a < 2 ^ 31) : nI a - nI b = nI (a - b) := by
  apply i_ext
  rw [fb_subI (by rw [nI_toInt (by omega), nI_toInt (by omega)]; omega) (by rw [nI_toInt (by omega), nI_toInt (by omega)]; omega), nI_toInt (by omega), nI_toInt (by omega), nI_toInt (by omega)]
  omega
theorem sub_toI {a b : Nat} (ha : a < 2 ^ 31) (hb : b < 2 ^ 31) : (nI a - nI b).toInt = (a : Int) - b := by
  rw [fb_subI (by rw [nI_toInt ha, nI_toInt hb]; omega) (by rw [nI_toInt ha, nI_toInt hb]; omega), nI_toInt ha, nI_toInt hb]
set_option maxHeartbeats 4000000 in
set_option maxRecDepth 100000 in
theorem l_X3_begin {X : KX} {t : Nat} (C : Cx X RX3 cX3_begin 1) (K : Kx X) (hnL : xnL X = 3) {I : KI} {J : KJ} {s : Nat} {mv : Int32} (hs : s ≤ 135) (h2 : I 54 2 = nI s) (hN : ∀ J1, (∀ q, q ≠ 55 → J1 q = J q) → (∀ i, i ≤ s → J1 55 i = 0) → (∀ i, s < i → J1 55 i = J 55 i) → Z X 0 0 (V X I J1 (rf t)) 23 [(0, .ref (xad X 54)), (1, .int mv)] []) : ∀ (f d : Nat) (J1 : KJ), s + 1 - d < f → (d ≤ s + 1 ∧ (∀ q, q ≠ 55 → J1 q = J q) ∧ (∀ i, i < d → J1 55 i = 0) ∧ ∀ i, d ≤ i → J1 55 i = J 55 i) → Z X 0 0 (V X I J1 (rf t)) 2 [(2, .int (nI d)), (0, .ref (xad X 54)), (1, .int mv)] [] := by
  intro f
  induction f with
  | zero => intro d J1 h; omega
  | succ f ih =>
    intro d J1 hf hi
    obtain ⟨hds, hfr, hz, hk⟩ := hi
    refine z_iload_n (n := 3) C 0 dX3_begin_2 rfl rfl ?_
    refine z_aload_n (n := 4) C 1 dX3_begin_3 rfl rfl ?_
    refine z_getI (n := 7) C K fF_RX3_19 dX3_begin_4 rfl sh_54 (by decide) ?_
    rw [h2]
    refine z_icmp_gt (tgt := 23) (n := 10) C dX3_begin_7 rfl rfl (fun c7 => ?_) (fun c7 => ?_)
    · refine z_sub (L' := [(0, _), (1, _)]) [1, 2] rfl ?_
      rw [fa_lt, nI_toInt (by omega), nI_toInt (by omega)] at c7
      exact hN J1 hfr (fun i hi => hz i (by omega)) (fun i hi => hk i (by omega))
    · rw [fa_lt, nI_toInt (by omega), nI_toInt (by omega)] at c7
      refine z_aload_n (n := 11) C 1 dX3_begin_10 rfl rfl ?_
      refine z_getR (n := 14) (q := 55) C K fF_RX3_11 dX3_begin_11 rfl rfl sh_54 (by decide) rfl ?_
      refine z_iload_n (n := 15) C 0 dX3_begin_14 rfl rfl ?_
      refine z_lconst (n := 16) (v := 0) C dX3_begin_15 rfl rfl ?_
      refine z_lastN (n := 17) C K d dX3_begin_16 rfl sh_55 (by decide) rfl (by omega) (by decide) ?_
      refine z_iincG (n := 20) (c := 1) (L' := [(2, _), (0, _), (1, _)]) C 0 dX3_begin_17 rfl rfl rfl (by rw [hnL]; decide) rfl ?_
      refine z_goto (n := 2) C dX3_begin_20 rfl ?_
      rw [nI_1]
      exact ih (d + 1) _ (by omega) ⟨by omega, fun q hq => by rw [upJ_row _ _ hq]; exact hfr q hq, fun i hi => by
        by_cases e : i = d
        · rw [e, upJ_same]
        · rw [upJ_k _ _ e]; exact hz i (by omega), fun i hi => by rw [upJ_k _ _ (by omega)]; exact hk i (by omega)⟩
set_option maxHeartbeats 4000000 in
set_option maxRecDepth 100000 in
theorem c_X3_begin {ad : Nat → Nat} {I : KI} {J : KJ} {t : Nat} (hz : cZs I J) {m : Nat} {Q : KI → KJ → KR → Prop} (hQ : ∀ I' J', (∀ q, q ≠ 54 → I' q = I q) → (∀ q, q ≠ 54 → q ≠ 55 → J' q = J q) → cMn I' J' [] m → Q I' J' (rf t)) : Mv 1 yX3_begin (wm yX3_begin cX3_begin 3 none) [.ref (ad 54), .int (nI m)] ad I J (rf t) Q := by
  refine mv_of (own := RX3) yk_X3_begin rfl (Nat.le_of_ble_eq_true rfl) rfl (fun X hA hnL C K E => ?_)
  subst hA
  obtain ⟨s, h2, hs, h0⟩ := hz
  refine z_iconst (n := 1) (v := 0) C dX3_begin_0 rfl rfl ?_
  refine z_istore_n (n := 2) (L' := [(2, _), (0, _), (1, _)]) C dX3_begin_1 rfl (by rw [hnL]; decide) rfl ?_
  refine l_X3_begin C K hnL hs h2 (fun J1 hf1 hz1 hk1 => ?_) (s + 2) 0 J (by omega) ⟨by omega, fun _ _ => rfl, fun i hi => by omega, fun _ _ => rfl⟩
  refine z_aload_n (n := 24) C 0 dX3_begin_23 rfl rfl ?_
  refine z_getR (n := 27) (q := 55) C K fF_RX3_11 dX3_begin_24 rfl rfl sh_54 (by decide) rfl ?_
  refine z_iconst (n := 28) (v := 0) C dX3_begin_27 rfl rfl ?_
  refine z_lconst (n := 29) (v := 1) C dX3_begin_28 rfl rfl ?_
  refine z_lastN (n := 30) C K 0 dX3_begin_29 rfl sh_55 (by decide) rfl (by decide) (by decide) ?_
  refine z_aload_n (n := 31) C 0 dX3_begin_30 rfl rfl ?_
  refine z_lconst (n := 32) (v := 1) C dX3_begin_31 rfl rfl ?_
  refine z_putJ (n := 35) C K fF_RX3_22 dX3_begin_32 rfl sh_54 (by decide) ?_
  refine z_aload_n (n := 36) C 0 dX3_begin_35 rfl rfl ?_
  refine z_iload_n (n := 37) C 1 dX3_begin_36 rfl rfl ?_
  refine z_putI (n := 40) C K fF_RX3_15 dX3_begin_37 rfl sh_54 (by decide) ?_
  refine z_aload_n (n := 41) C 0 dX3_begin_40 rfl rfl ?_
  refine z_iconst (n := 42) (v := 0) C dX3_begin_41 rfl rfl ?_
  refine z_putI (n := 45) C K fF_RX3_19 dX3_begin_42 rfl sh_54 (by decide) ?_
  refine z_vret C E dX3_begin_45 ?_
  refine hQ _ _ (fun q hq => by rw [upI_row _ _ hq, upI_row _ _ hq]) (fun q h1 h2 => by rw [upJ_row _ _ h1, upJ_row _ _ h2, hf1 q h2]) ⟨fun d => if d = 0 then 1 else 0, m, 0, ?_, ?_, ?_, ?_, ?_, ?_, ?_, ?_⟩
  · rw [upI_k _ _ (by decide), upI_same]
  · rw [upI_same]; rfl
  · rw [upJ_same]; rfl
  · intro i hi
    rw [upJ_row _ _ (by decide)]
    by_cases e : i = 0
    · subst e; rw [upJ_same]; rfl
    · rw [upJ_k _ _ e]
      show J1 55 i = lN (if i = 0 then 1 else 0)
      rw [if_neg e]
      by_cases e2 : i ≤ s
      · rw [hz1 i e2]; rfl
      · rw [hk1 i (by omega), h0 i (by omega) hi]; rfl
  · intro d hd _; show (if d = 0 then 1 else 0) = 0; rw [if_neg (by omega)]
  · exact Nat.zero_le _
  · exact Nat.le_refl _
  · exact fun h => one_ev h m
set_option maxHeartbeats 4000000 in
set_option maxRecDepth 100000 in
theorem c_X3_pass {ad : Nat → Nat} {I : KI} {J : KJ} {t : Nat} {P : List St} {m : Nat} (hM : cMn I J P m) {b : Nat} {Q : KI → KJ → KR → Prop} (hQ : ∀ I' J', (∀ q, q ≠ 54 → I' q = I q) → (∀ q, q ≠ 54 → q ≠ 55 → J' q = J q) → cMn I' J' (P ++ [(0, b, 0)]) m → Q I' J' (rf t)) : Mv 1 yX3_pass (wm yX3_pass cX3_pass 2 none) [.ref (ad 54), .int (nI b)] ad I J (rf t) Q := by
  refine mv_of (own := RX3) yk_X3_pass rfl (Nat.le_of_ble_eq_true rfl) rfl (fun X hA hnL C K E => ?_)
  subst hA
  obtain ⟨f, e, s, h1, h2, h3, h4, h5, h6, h7, h8⟩ := hM
  refine z_aload_n (n := 1) C 0 dX3_pass_0 rfl rfl ?_
  refine z_dup (n := 2) C dX3_pass_1 rfl rfl ?_
  refine z_getI (n := 5) C K fF_RX3_15 dX3_pass_2 rfl sh_54 (by decide) ?_
  rw [h1]
  refine z_iload_n (n := 6) C 1 dX3_pass_5 rfl rfl ?_
  refine z_iadd (n := 7) C dX3_pass_6 rfl ?_
  rw [nI_add]
  refine z_putI (n := 10) C K fF_RX3_15 dX3_pass_7 rfl sh_54 (by decide) ?_
  refine z_vret C E dX3_pass_10 ?_
  refine hQ _ _ (fun q hq => upI_row _ _ hq) (fun q _ _ => rfl) ⟨f, e + b, s, upI_same _ _ _ _, ?_, ?_, h4, h5, ?_, ?_, fun h => ?_⟩
  · rw [upI_k _ _ (by decide)]; exact h2
  · rw [h3, crs_snoc]; rfl
  · rw [crs_snoc]; omega
  · rw [tmx_snoc]; show e + b + s ≤ tmx P m + b; omega
  · rw [ev_snoc, ← h8]; exact sN_cong (fun i _ => by show f i * h (e + b + i) = f i * h (e + i + b); rw [show e + b + i = e + i + b by omega])
set_option maxHeartbeats 4000000 in
set_option maxRecDepth 100000 in
theorem l_X3_cross {X : KX} {t : Nat} (C : Cx X RX3 cX3_cross 1) (K : Kx X) (hnL : xnL X = 6) {I : KI} {J : KJ} {f0 : Nat → Nat} {s o b : Nat} (hs : s + b ≤ 135) (ho : o ≤ 9) (hN : ∀ J1 g, (∀ q, q ≠ 55 → J1 q = J q) → cA J1 55 136 g → (∀ i, s + b < i → i < 136 → g i = 0) → (∀ h : Nat → Nat, sN (fun i => g i * h i) 136 = sN (fun i => f0 i * hcC o b 0 h i) 136) → Z X 0 0 (V X I J1 (rf t)) 70 [(0, .ref (xad X 54)), (1, .int (nI o)), (2, .int (nI b))] []) : ∀ (f T : Nat) (J1 : KJ) (g : Nat → Nat), T < f → (T ≤ s + 1 ∧ (∀ q, q ≠ 55 → J1 q = J q) ∧ cA J1 55 136 g ∧ (∀ i, i < T → g i = f0 i) ∧ (∀ i, s + b < i → i < 136 → g i = 0) ∧ ∀ h : Nat → Nat, sN (fun i => g i * h i) 136 = sN (fun i => f0 i * hcC o b T h i) 136) → Z X 0 0 (V X I J1 (rf t)) 22 [(3, .int (nI T + (-1))), (0, .ref (xad X 54)), (1, .int (nI o)), (2, .int (nI b))] [] := by
  intro f
  induction f with
  | zero => intro T J1 g h; omega
  | succ f ih =>
    intro T J1 g hf hi
    obtain ⟨hT, hfr, hg, hlo, hhi, hF⟩ := hi
    have em : (-1 : Int32).toInt = -1 := by decide
    have eT : (nI T + (-1)).toInt = (T : Int) - 1 := by
      rw [fb_addI (by rw [nI_toInt (by omega), em]; omega) (by rw [nI_toInt (by omega), em]; omega), nI_toInt (by omega), em]
      omega
    refine z_iload_n (n := 23) C 0 dX3_cross_22 rfl rfl ?_
    refine z_if_lt (tgt := 70) (n := 26) C dX3_cross_23 rfl rfl (fun c23 => ?_) (fun c23 => ?_)
    · refine z_sub (L' := [(0, _), (1, _), (2, _)]) [1, 2, 3] rfl ?_
      rw [fa_lt, eT] at c23
      simp only [Int32.reduceToInt] at c23
      have e : T = 0 := by omega
      subst e
      exact hN J1 g hfr hg hhi hF
    · rw [fa_lt, eT] at c23
      simp only [Int32.reduceToInt] at c23
      obtain ⟨d, rfl⟩ : ∃ d, T = d + 1 := ⟨T - 1, by omega⟩
      rw [nI_prd]
      have hup := hg.up d (g d * (10 - o))
      refine z_aload_n (n := 27) C 1 dX3_cross_26 rfl rfl ?_
      refine z_getR (n := 30) (q := 55) C K fF_RX3_11 dX3_cross_27 rfl rfl sh_54 (by decide) rfl ?_
      refine z_iload_n (n := 31) C 0 dX3_cross_30 rfl rfl ?_
      refine z_laldN (n := 32) C K d dX3_cross_31 rfl sh_55 (by decide) rfl (by omega) (by decide) ?_
      rw [hg d (by omega)]
      refine z_lstore (n := 34) (L' := [(4, _), (3, _), (0, _), (1, _), (2, _)]) C dX3_cross_32 rfl (by rw [hnL]; decide) rfl ?_
      refine z_aload_n (n := 35) C 2 dX3_cross_34 rfl rfl ?_
      refine z_getR (n := 38) (q := 55) C K fF_RX3_11 dX3_cross_35 rfl rfl sh_54 (by decide) rfl ?_
      refine z_iload_n (n := 39) C 1 dX3_cross_38 rfl rfl ?_
      refine z_lload (n := 41) C 0 dX3_cross_39 rfl rfl ?_
      refine z_bipush (n := 43) (v := 10) C dX3_cross_41 rfl rfl ?_
      refine z_iload_n (n := 44) C 3 dX3_cross_43 rfl rfl ?_
      refine z_isub (n := 45) C dX3_cross_44 rfl ?_
      rw [ten_sub (by omega)]
      refine z_i2l (n := 46) C dX3_cross_45 rfl ?_
      rw [lN_i2l (by omega)]
      refine z_lmul (n := 47) C dX3_cross_46 rfl ?_
      rw [lN_mul]
      refine z_lastN (n := 48) C K d dX3_cross_47 rfl sh_55 (by decide) rfl (by omega) (by decide) ?_
      refine z_aload_n (n := 49) C 2 dX3_cross_48 rfl rfl ?_
      refine z_getR (n := 52) (q := 55) C K fF_RX3_11 dX3_cross_49 rfl rfl sh_54 (by decide) rfl ?_
      refine z_iload_n (n := 53) C 1 dX3_cross_52 rfl rfl ?_
      refine z_iload_n (n := 54) C 4 dX3_cross_53 rfl rfl ?_
      refine z_iadd (n := 55) C dX3_cross_54 rfl ?_
      refine z_dup2 (n := 56) C dX3_cross_55 rfl rfl rfl ?_
      refine z_laldN (n := 57) C K (d + b) dX3_cross_56 rfl sh_55 (by decide) (by rw [nI_add]) (by omega) (by decide) ?_
      rw [hup _ (by omega)]
      refine z_lload (n := 59) C 0 dX3_cross_57 rfl rfl ?_
      refine z_iload_n (n := 60) C 3 dX3_cross_59 rfl rfl ?_
      refine z_i2l (n := 61) C dX3_cross_60 rfl ?_
      rw [lN_i2l (by omega)]
      refine z_lmul (n := 62) C dX3_cross_61 rfl ?_
      rw [lN_mul]
      refine z_ladd (n := 63) C dX3_cross_62 rfl ?_
      rw [lN_add]
      refine z_lastN (n := 64) C K (d + b) dX3_cross_63 rfl sh_55 (by decide) (by rw [nI_add]) (by omega) (by decide) ?_
      refine z_iincG (n := 67) (c := (-1)) (L' := [(3, _), (4, _), (0, _), (1, _), (2, _)]) C 1 dX3_cross_64 rfl rfl rfl (by rw [hnL]; decide) rfl ?_
      refine z_goto (n := 22) C dX3_cross_67 rfl ?_
      refine z_sub (L' := [(3, _), (0, _), (1, _), (2, _)]) [0, 2, 3, 4] rfl ?_
      exact ih d _ _ (by omega) ⟨by omega, fun q hq => by rw [upJ_row _ _ hq, upJ_row _ _ hq]; exact hfr q hq, hup.up _ _, fun i hi => by rw [fu_ne _ _ (by omega), fu_ne _ _ (by omega)]; exact hlo i (by omega), fun i hi hi2 => by rw [fu_ne _ _ (by omega), fu_ne _ _ (by omega)]; exact hhi i hi hi2, fun h => hcC_step (hlo d (by omega)) (by omega) ho (hF h)⟩
set_option maxHeartbeats 4000000 in
set_option maxRecDepth 100000 in
theorem c_X3_cross {ad : Nat → Nat} {I : KI} {J : KJ} {t : Nat} {P : List St} {m : Nat} (hok : okP P) (hc : crs P ≤ 14) (hM : cMn I J P m) {o b : Nat} (ho : o ≤ 9) (hb : b ≤ 9) {Q : KI → KJ → KR → Prop} (hQ : ∀ I' J', (∀ q, q ≠ 54 → I' q = I q) → (∀ q, q ≠ 54 → q ≠ 55 → J' q = J q) → cMn I' J' (P ++ [(1, o, b)]) m → Q I' J' (rf t)) : Mv 1 yX3_cross (wm yX3_cross cX3_cross 6 none) [.ref (ad 54), .int (nI o), .int (nI b)] ad I J (rf t) Q := by
  refine mv_of (own := RX3) yk_X3_cross rfl (Nat.le_of_ble_eq_true rfl) rfl (fun X hA hnL C K E => ?_)
  subst hA
  obtain ⟨f, e, s, h1, h2, h3, h4, h5, h6, h7, h8⟩ := hM
  refine z_iload_n (n := 1) C 2 dX3_cross_0 rfl rfl ?_
  refine z_ifF_lt (n := 4) (tgt := 16) C (fun q => by rw [fa_lt, nI_toInt (by omega)] at q; simp only [Int32.reduceToInt] at q; omega) dX3_cross_1 rfl rfl ?_
  refine z_aload_n (n := 5) C 0 dX3_cross_4 rfl rfl ?_
  refine z_getI (n := 8) C K fF_RX3_19 dX3_cross_5 rfl sh_54 (by decide) ?_
  rw [h2]
  refine z_iload_n (n := 9) C 2 dX3_cross_8 rfl rfl ?_
  refine z_iadd (n := 10) C dX3_cross_9 rfl ?_
  rw [nI_add]
  refine z_sipush (n := 13) (v := 135) C dX3_cross_10 rfl rfl ?_
  refine z_icmpT_le (tgt := 17) C (by rw [fa_le, nI_toInt (by omega)]; simp only [Int32.reduceToInt]; omega) dX3_cross_13 rfl ?_
  refine z_aload_n (n := 18) C 0 dX3_cross_17 rfl rfl ?_
  refine z_getI (n := 21) C K fF_RX3_19 dX3_cross_18 rfl sh_54 (by decide) ?_
  rw [h2, ← nI_prd s]
  refine z_istore_n (n := 22) (L' := [(3, _), (0, _), (1, _), (2, _)]) C dX3_cross_21 rfl (by rw [hnL]; decide) rfl ?_
  refine l_X3_cross C K hnL (f0 := f) (s := s) (by omega) ho (fun J1 g hf1 hg hz1 hF => ?_) (s + 2) (s + 1) J f (by omega) ⟨by omega, fun _ _ => rfl, h4, fun _ _ => rfl, fun i q1 q2 => h5 i (by omega) q2, fun h => ?_⟩
  rotate_left
  · refine sN_cong (fun i hi => ?_)
    show f i * h i = f i * hcC o b (s + 1) h i
    unfold hcC
    by_cases e1 : s + 1 ≤ i
    · rw [h5 i (by omega) hi, Nat.zero_mul, Nat.zero_mul]
    · rw [if_neg e1]
  refine z_aload_n (n := 71) C 0 dX3_cross_70 rfl rfl ?_
  refine z_dup (n := 72) C dX3_cross_71 rfl rfl ?_
  refine z_getI (n := 75) C K fF_RX3_19 dX3_cross_72 rfl sh_54 (by decide) ?_
  rw [h2]
  refine z_iload_n (n := 76) C 2 dX3_cross_75 rfl rfl ?_
  refine z_iadd (n := 77) C dX3_cross_76 rfl ?_
  rw [nI_add]
  refine z_putI (n := 80) C K fF_RX3_19 dX3_cross_77 rfl sh_54 (by decide) ?_
  refine z_aload_n (n := 81) C 0 dX3_cross_80 rfl rfl ?_
  refine z_dup (n := 82) C dX3_cross_81 rfl rfl ?_
  refine z_getJ (n := 85) C K fF_RX3_22 dX3_cross_82 rfl sh_54 (by decide) ?_
  rw [hf1 54 (by decide), h3]
  refine z_ldc2 (n := 88) C dX3_cross_85 kK_RX3_26 rfl ?_
  refine z_lmul (n := 89) C dX3_cross_88 rfl ?_
  rw [show (10 : Int64) = lN 10 from rfl, lN_mul, ← Nat.pow_succ]
  refine z_putJ (n := 92) C K fF_RX3_22 dX3_cross_89 rfl sh_54 (by decide) ?_
  refine z_vret C E dX3_cross_92 ?_
  refine hQ _ _ (fun q hq => upI_row _ _ hq) (fun q q1 q2 => by rw [upJ_row _ _ q1, hf1 q q2]) ⟨g, e, s + b, ?_, upI_same _ _ _ _, ?_, ?_, hz1, ?_, ?_, fun h => ?_⟩
  · rw [upI_k _ _ (by decide)]; exact h1
  · rw [upJ_same, crs_snoc]; rfl
  · intro i hi; rw [upJ_row _ _ (by decide)]; exact hg i hi
  · rw [crs_snoc, if_pos rfl]; omega
  · rw [tmx_snoc]; show e + (s + b) ≤ tmx P m + b; omega
  · rw [ev_snoc, ← h8, hF (fun i => h (e + i))]
    exact sN_cong (fun i _ => by show f i * hcC o b 0 (fun i => h (e + i)) i = f i * ((10 - o) * h (e + i) + o * h (e + i + b)); unfold hcC; rw [if_pos (Nat.zero_le _), Nat.add_assoc])
