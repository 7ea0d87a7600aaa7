theorem weB_nil {hd : Nat → Nat} {hc need : Nat} (h : wkLs hd hc need = []) : weB hd hc need = (0, []) := by unfold weB; rw [h]; rfl
theorem weB_some {hd : Nat → Nat} {hc need m : Nat} {o : List Nat} (h : (wkLs hd hc need).find? (bdM m) = some o) (hn : ∀ k, k < m → (wkLs hd hc need).find? (bdM k) = none) : weB hd hc need = (m + 1, o) ∧ o.length = 5 := by
  refine ⟨bsW_first _ _ o (Or.inl rfl) (fun x hx => ?_) h, fillV_len 5 [] o (List.mem_of_find?_eq_some h)⟩
  by_cases e : m ≤ mdS x
  · exact e
  · have := List.find?_eq_none.mp (hn (mdS x) (by omega)) x hx
    exact absurd (by unfold bdM; exact decide_eq_true (Nat.le_refl _)) this
theorem weB_six {hd : Nat → Nat} {hc need : Nat} (hn : (wkLs hd hc need).find? (bdM 5) = none) : wkLs hd hc need = [] := by
  cases hL : wkLs hd hc need with
  | nil => rfl
  | cons o l =>
    rw [hL] at hn
    have h1 := List.find?_eq_none.mp hn o (List.mem_cons_self)
    have h2 : o ∈ wkLs hd hc need := by rw [hL]; exact List.mem_cons_self
    have h3 := fillV_len 5 [] o h2
    have h4 := mdS_len o
    have h5 : ([] : List Nat).length = 0 := rfl
    exact absurd (by unfold bdM; exact decide_eq_true (by omega)) h1
set_option maxHeartbeats 4000000 in
set_option maxRecDepth 100000 in
theorem mk_0 {X : KX} {J : KJ} {t : Nat} (C : Cx X RX8 cX8_make 9) (K : Kx X) (hnL : xnL X = 5) {I : KI} {need hc : Nat} (hN : ∀ I1, (∀ q, q ≠ 65 → I1 q = I q) → (∀ i, i < 5 → I1 65 i = 0) → Z X 0 0 (V X I1 J (rf t)) 34 [(0, .ref (xad X 63)), (1, .ref (xad X 62)), (2, .int (nI hc)), (3, .int (nI need))] []) : ∀ (f i : Nat) (I1 : KI), 5 - i < f → (i ≤ 5 ∧ (∀ q, q ≠ 65 → I1 q = I q) ∧ ∀ j, j < i → I1 65 j = 0) → Z X 0 0 (V X I1 J (rf t)) 14 [(4, .int (nI i)), (0, .ref (xad X 63)), (1, .ref (xad X 62)), (2, .int (nI hc)), (3, .int (nI need))] [] := by
  intro f
  induction f with
  | zero => intro i I1 h; omega
  | succ f ih =>
    intro i I1 hf hi
    obtain ⟨hi5, hfr, hv⟩ := hi
    refine z_iload (n := 16) C 0 dX8_make_14 rfl rfl ?_
    refine z_iconst (n := 17) (v := 5) C dX8_make_16 rfl rfl ?_
    refine z_icmp_ge (tgt := 34) (n := 20) C dX8_make_17 rfl rfl (fun c17 => ?_) (fun c17 => ?_)
    · refine z_sub (L' := [(0, _), (1, _), (2, _), (3, _)]) [1, 2, 3, 4] rfl ?_
      rw [fa_le, nI_toInt (by omega)] at c17
      simp only [Int32.reduceToInt] at c17
      exact hN I1 hfr (fun j hj => hv j (by omega))
    · rw [fa_le, nI_toInt (by omega)] at c17
      simp only [Int32.reduceToInt] at c17
      refine z_aload_n (n := 21) C 1 dX8_make_20 rfl rfl ?_
      refine z_getR (n := 24) (q := 65) C K fF_RX8_15 dX8_make_21 rfl rfl sh_63 (by decide) rfl ?_
      refine z_iload (n := 26) C 0 dX8_make_24 rfl rfl ?_
      refine z_iconst (n := 27) (v := 0) C dX8_make_26 rfl rfl ?_
      refine z_iastN (n := 28) C K i dX8_make_27 rfl sh_65 (by decide) rfl (by omega) (by decide) ?_
      refine z_iincG (n := 31) (c := 1) (L' := [(4, _), (0, _), (1, _), (2, _), (3, _)]) C 0 dX8_make_28 rfl rfl rfl (by rw [hnL]; decide) rfl ?_
      refine z_goto (n := 14) C dX8_make_31 rfl ?_
      rw [nI_1]
      exact ih (i + 1) _ (by omega) ⟨by omega, fun q hq => by rw [upI_row _ _ hq]; exact hfr q hq, fun j hj => by
        by_cases e : j = i
        · subst e; rw [upI_same]
        · rw [upI_k _ _ e]; exact hv j (by omega)⟩
set_option maxHeartbeats 4000000 in
set_option maxRecDepth 100000 in
theorem l_X8_make {X : KX} {J : KJ} {t : Nat} (C : Cx X RX8 cX8_make 9) (K : Kx X) (hnL : xnL X = 5) {Q : KI → KJ → KR → Prop} (E : Ev X Q) {I : KI} {need : Nat} {hd : Nat → Nat} {hc : Nat} (hc5 : hc ≤ 5) (hn3 : need ≤ 3) (hh : ∀ x, x < hc → I 62 x = nI (hd x) ∧ hd x < 32) (hQ : ∀ I', (∀ q, ¬ (63 ≤ q ∧ q ≤ 66) → I' q = I q) → I' 63 5 = stI (weB hd hc need).1 → (weB hd hc need).1 ≤ 10 → ((weB hd hc need).1 ≠ 0 → rowB I' 66 (weB hd hc need).2 ∧ (weB hd hc need).2.length = 5) → Q I' J (rf t)) : ∀ (f m : Nat) (I1 : KI), 6 - m < f → (m ≤ 6 ∧ (∀ q, ¬ (63 ≤ q ∧ q ≤ 66) → I1 q = I q) ∧ I1 63 3 = nI need ∧ I1 63 4 = nI m ∧ I1 63 5 = -9 ∧ (∀ d, d < 5 → I1 64 d = nI (ablS hd hc d)) ∧ (∀ h, h < 5 → I1 65 h = 0) ∧ ∀ k, k < m → (wkLs hd hc need).find? (bdM k) = none) → Z X 0 0 (V X I1 J (rf t)) 49 [(0, .ref (xad X 63)), (1, .ref (xad X 62)), (2, .int (nI hc)), (3, .int (nI need))] [] := by
  intro f
  induction f with
  | zero => intro m I1 h; omega
  | succ f ih =>
    intro m I1 hf hi
    obtain ⟨hm6, hfr, hn1, hm1, h51, hab, hda, hno⟩ := hi
    refine z_aload_n (n := 50) C 0 dX8_make_49 rfl rfl ?_
    refine z_getI (n := 53) C K fF_RX8_25 dX8_make_50 rfl sh_63 (by decide) ?_
    rw [hm1]
    refine z_iconst (n := 54) (v := 5) C dX8_make_53 rfl rfl ?_
    refine z_icmp_gt (tgt := 87) (n := 57) C dX8_make_54 rfl rfl (fun c54 => ?_) (fun c54 => ?_)
    · refine z_vret C E dX8_make_87 ?_
      rw [fa_lt, nI_toInt (by omega)] at c54
      simp only [Int32.reduceToInt] at c54
      have hnil := weB_nil (weB_six (hno 5 (by omega)))
      exact hQ I1 hfr (by rw [h51, hnil]; rfl) (by rw [hnil]; decide) (fun e => absurd (by rw [hnil]) e)
    · rw [fa_lt, nI_toInt (by omega)] at c54
      simp only [Int32.reduceToInt] at c54
      have hm5 : m ≤ 5 := by omega
      refine z_aload_n (n := 58) C 0 dX8_make_57 rfl rfl ?_
      refine z_iconst (n := 59) (v := 0) C dX8_make_58 rfl rfl ?_
      refine z_si_2 (n := 62) (d' := (5 + 3)) C K dX8_make_59 rfl yk_X8_fill kT_yX8_fill kM_RX8_35 (by decide) hR0 rfl ?_
      refine wf_all (most := m) (hd := hd) hc5 hn3 hm5 5 I1 [] _ rfl hn1 hm1 hab hda (fun _ _ => Nat.zero_le _) (fun i hi => absurd hi (Nat.not_lt_zero _)) (fun I2 o hsome hf2 hr2 => ?_) (fun I2 hnone hf2 hd2 _ => ?_)
      · refine z_ifF_eq (n := 65) (tgt := 74) C (by decide) dX8_make_62 rfl rfl ?_
        refine z_aload_n (n := 66) C 0 dX8_make_65 rfl rfl ?_
        refine z_aload_n (n := 67) C 0 dX8_make_66 rfl rfl ?_
        refine z_getI (n := 70) C K fF_RX8_25 dX8_make_67 rfl sh_63 (by decide) ?_
        rw [show I2 63 4 = nI m by rw [hf2 63 (by decide) (by decide)]; exact hm1]
        obtain ⟨hwb, hol⟩ := weB_some hsome hno
        refine z_putI (n := 73) C K fF_RX8_28 dX8_make_70 rfl sh_63 (by decide) ?_
        refine z_vret C E dX8_make_73 ?_
        refine hQ _ (fun q hq => by rw [upI_row _ _ (by omega), hf2 q (by omega) (by omega)]; exact hfr q hq) (by rw [upI_same, hwb]; exact stI_row m) (by rw [hwb]; show m + 1 ≤ 10; omega) (fun _ => by rw [hwb]; exact ⟨hr2.fr (fun i _ => by rw [upI_row _ _ (by decide)]), hol⟩)
      · refine z_ifT_eq (tgt := 74) C (by decide) dX8_make_62 rfl ?_
        refine z_aload_n (n := 75) C 0 dX8_make_74 rfl rfl ?_
        refine z_dup (n := 76) C dX8_make_75 rfl rfl ?_
        refine z_getI (n := 79) C K fF_RX8_25 dX8_make_76 rfl sh_63 (by decide) ?_
        rw [show I2 63 4 = nI m by rw [hf2 63 (by decide) (by decide)]; exact hm1]
        refine z_iconst (n := 80) (v := 1) C dX8_make_79 rfl rfl ?_
        refine z_iadd (n := 81) C dX8_make_80 rfl ?_
        rw [nI_1]
        refine z_putI (n := 84) C K fF_RX8_25 dX8_make_81 rfl sh_63 (by decide) ?_
        refine z_goto (n := 49) C dX8_make_84 rfl ?_
        exact ih (m + 1) _ (by omega) ⟨by omega, fun q hq => by rw [upI_row _ _ (by omega), hf2 q (by omega) (by omega)]; exact hfr q hq, by rw [upI_k _ _ (by decide), hf2 63 (by decide) (by decide)]; exact hn1, upI_same _ _ _ _, by rw [upI_k _ _ (by decide), hf2 63 (by decide) (by decide)]; exact h51, fun d hd5 => by rw [upI_row _ _ (by decide), hf2 64 (by decide) (by decide)]; exact hab d hd5, fun h hh5 => by rw [upI_row _ _ (by decide)]; exact hd2 h hh5, fun k hk => by
          by_cases e : k = m
          · subst e; exact hnone
          · exact hno k (by omega)⟩
set_option maxHeartbeats 4000000 in
set_option maxRecDepth 100000 in
theorem c_X8_make {ad : Nat → Nat} {I : KI} {J : KJ} {t : Nat} {need : Nat} {hd : Nat → Nat} {hc : Nat} (hc5 : hc ≤ 5) (hn3 : need ≤ 3) (hh : ∀ x, x < hc → I 62 x = nI (hd x) ∧ hd x < 32)  {Q : KI → KJ → KR → Prop} (hQ : ∀ I', (∀ q, ¬ (63 ≤ q ∧ q ≤ 66) → I' q = I q) → I' 63 5 = stI (weB hd hc need).1 → (weB hd hc need).1 ≤ 10 → ((weB hd hc need).1 ≠ 0 → rowB I' 66 (weB hd hc need).2 ∧ (weB hd hc need).2.length = 5) → Q I' J (rf t))  : Mv 9 yX8_make (wm yX8_make cX8_make 5 none) [.ref (ad 63), .ref (ad 62), .int (nI hc), .int (nI need)] ad I J (rf t) Q := by
  refine mv_of (own := RX8) yk_X8_make rfl (Nat.le_of_ble_eq_true rfl) rfl (fun X hA hnL C K E => ?_)
  subst hA
  refine z_aload_n (n := 1) C 0 dX8_make_0 rfl rfl ?_
  refine z_iload_n (n := 2) C 3 dX8_make_1 rfl rfl ?_
  refine z_putI (n := 5) C K fF_RX8_21 dX8_make_2 rfl sh_63 (by decide) ?_
  refine z_aload_n (n := 6) C 0 dX8_make_5 rfl rfl ?_
  refine z_bipush (n := 8) (v := (-9)) C dX8_make_6 rfl rfl ?_
  refine z_putI (n := 11) C K fF_RX8_28 dX8_make_8 rfl sh_63 (by decide) ?_
  refine z_iconst (n := 12) (v := 0) C dX8_make_11 rfl rfl ?_
  refine z_istore (n := 14) (L' := [(4, _), (0, _), (1, _), (2, _), (3, _)]) C dX8_make_12 rfl (by rw [hnL]; decide) rfl ?_
  refine mk_0 C K hnL (I := upI (upI I 63 3 (nI need)) 63 5 (-9)) (need := need) (hc := hc) (fun I1 hf1 hz1 => ?_) 6 0 _ (by omega) ⟨Nat.zero_le _, fun _ _ => rfl, fun j hj => by omega⟩
  refine z_aload_n (n := 35) C 0 dX8_make_34 rfl rfl ?_
  refine z_aload_n (n := 36) C 1 dX8_make_35 rfl rfl ?_
  refine z_iload_n (n := 37) C 2 dX8_make_36 rfl rfl ?_
  refine z_vi_2 (n := 40) (d' := 2) C K dX8_make_37 rfl yk_X8_isEnough yv_X8_isEnough kM_RX8_31 (by decide) hR0 rfl rfl sh_63 (by decide) (by decide) ?_
  refine c_X8_isEnough (hd := hd) hc5 (by rw [hf1 63 (by decide), upI_k _ _ (by decide), upI_same]) hn3 (fun x hx => by rw [hf1 62 (by decide), upI_row _ _ (by decide), upI_row _ _ (by decide)]; exact hh x hx) (fun I2 hf2 hv2 => ?_) (fun I2 d hf2 hd5 hp2 => ?_)
  · refine z_ifT_ne (tgt := 44) C (by decide) dX8_make_40 rfl ?_
    refine z_aload_n (n := 45) C 0 dX8_make_44 rfl rfl ?_
    refine z_iconst (n := 46) (v := 0) C dX8_make_45 rfl rfl ?_
    refine z_putI (n := 49) C K fF_RX8_25 dX8_make_46 rfl sh_63 (by decide) ?_
    exact l_X8_make C K hnL E hc5 hn3 hh hQ 7 0 _ (by omega) ⟨by decide, fun q hq => by rw [upI_row _ _ (by omega), hf2 q (by omega), hf1 q (by omega), upI_row _ _ (by omega), upI_row _ _ (by omega)], by rw [upI_k _ _ (by decide), hf2 63 (by decide), hf1 63 (by decide), upI_k _ _ (by decide), upI_same], upI_same _ _ _ _, by rw [upI_k _ _ (by decide), hf2 63 (by decide), hf1 63 (by decide), upI_same], fun d hd5 => by rw [upI_row _ _ (by decide)]; exact hv2 d hd5, fun h hh5 => by rw [upI_row _ _ (by decide), hf2 65 (by decide)]; exact hz1 h hh5, fun k hk => by omega⟩
  · refine z_ifF_ne (n := 43) (tgt := 44) C (by decide) dX8_make_40 rfl rfl ?_
    refine z_vret C E dX8_make_43 ?_
    have hnil := weB_nil (show wkLs hd hc need = [] from wk_none hd5 hp2 5 [] rfl (Nat.zero_le _))
    exact hQ I2 (fun q hq => by rw [hf2 q (by omega), hf1 q (by omega), upI_row _ _ (by omega), upI_row _ _ (by omega)]) (by rw [hf2 63 (by decide), hf1 63 (by decide), upI_same, hnil]; rfl) (by rw [hnil]; decide) (fun e => absurd (by rw [hnil]) e)
set_option maxHeartbeats 4000000 in
set_option maxRecDepth 100000 in
theorem c_X9_week {ad : Nat → Nat} {I : KI} {J : KJ} {t : Nat} {hv0 hc : Nat} {hd : Nat → Nat} (hm : cMi I hv0 hc hd) (hok : okMi hv0 hc hd) {nv kv : Int32}  {Q : Int32 → KI → KJ → KR → Prop} (hR : ∀ v, wkR nv kv = some v → Q v I J (rf t)) (hS : ∀ I', wkR nv kv = none → (∀ q, ¬ (63 ≤ q ∧ q ≤ 66) → I' q = I q) → Q (wkV (weB hd hc nv.toNatClampNeg) kv) I' J (rf t)) : Mi 10 yX9_week (wm yX9_week cX9_week 3 (some .int)) [.ref (ad 0), .int (nv), .int (kv)] ad I J (rf t) Q := by
  refine mi_of (own := RX9) yk_X9_week rfl (Nat.le_of_ble_eq_true rfl) rfl (fun X hA hnL C K E => ?_)
  subst hA
  refine z_iload_n (n := 1) C 1 dX9_week_0 rfl rfl ?_
  refine z_iconst (n := 2) (v := 0) C dX9_week_1 rfl rfl ?_
  refine z_iconst (n := 3) (v := 3) C dX9_week_2 rfl rfl ?_
  refine z_si_3 (n := 6) (d' := 1) C K dX9_week_3 rfl yk_X9_isWithin kT_yX9_isWithin kM_RX9_131 (by decide) hR0 rfl ?_
  refine c_inB (lo := 0) (hi := 3) (by decide) (by decide) (fun b3 => ?_) (fun b3 => ?_)
  · refine z_ifT_ne (tgt := 12) C (by decide) dX9_week_6 rfl ?_
    refine z_iload_n (n := 13) C 2 dX9_week_12 rfl rfl ?_
    refine z_iconst (n := 14) (v := (-1)) C dX9_week_13 rfl rfl ?_
    refine z_iconst (n := 15) (v := 4) C dX9_week_14 rfl rfl ?_
    refine z_si_3 (n := 18) (d' := 1) C K dX9_week_15 rfl yk_X9_isWithin kT_yX9_isWithin kM_RX9_131 (by decide) hR0 rfl ?_
    refine c_inB (lo := -1) (hi := 4) (by decide) (by decide) (fun b15 => ?_) (fun b15 => ?_)
    · refine z_ifT_ne (tgt := 23) C (by decide) dX9_week_18 rfl ?_
      obtain ⟨need, hn3, rfl⟩ := isB_of (h := 3) b3
      refine z_aload_n (n := 24) C 0 dX9_week_23 rfl rfl ?_
      refine z_getR (n := 27) (q := 63) C K fF_RX9_71 dX9_week_24 rfl rfl sh_0 (by decide) rfl ?_
      refine z_aload_n (n := 28) C 0 dX9_week_27 rfl rfl ?_
      refine z_getR (n := 31) (q := 62) C K fF_RX9_61 dX9_week_28 rfl rfl sh_0 (by decide) rfl ?_
      refine z_aload_n (n := 32) C 0 dX9_week_31 rfl rfl ?_
      refine z_getI (n := 35) C K fF_RX9_65 dX9_week_32 rfl sh_0 (by decide) ?_
      rw [hm.2.1]
      refine z_iload_n (n := 36) C 1 dX9_week_35 rfl rfl ?_
      refine z_vv_3 (n := 39) (d' := 9) C K dX9_week_36 rfl yk_X8_make yv_X8_make kM_RX9_293 (by decide) hR0 rfl rfl sh_63 (by decide) (by decide) ?_
      refine c_X8_make (hd := hd) hok.2.2.1 hn3 (fun x hx => ⟨hm.2.2 x hx, hok.2.2.2 x hx⟩) (fun I2 hf2 h5 hb hs => ?_)
      refine z_aload_n (n := 40) C 0 dX9_week_39 rfl rfl ?_
      refine z_getR (n := 43) (q := 63) C K fF_RX9_71 dX9_week_40 rfl rfl sh_0 (by decide) rfl ?_
      refine z_getI (n := 46) C K fF_RX9_297 dX9_week_43 rfl sh_63 (by decide) ?_
      rw [h5]
      refine z_bipush (n := 48) (v := (-9)) C dX9_week_46 rfl rfl ?_
      refine z_icmp_ne (tgt := 54) (n := 51) C dX9_week_48 rfl rfl (fun c48 => ?_) (fun c48 => ?_)
      · have hne : (weB hd hc need).1 ≠ 0 := fun e => c48 ((stI_eq (by omega)).mpr e)
        refine z_iload_n (n := 55) C 2 dX9_week_54 rfl rfl ?_
        refine z_iconst (n := 56) (v := (-1)) C dX9_week_55 rfl rfl ?_
        refine z_icmp_ne (tgt := 69) (n := 59) C dX9_week_56 rfl rfl (fun c56 => ?_) (fun c56 => ?_)
        · have hk0 : 0 ≤ kv.toInt := by
            have q9 := b15.1
            by_cases e : kv.toInt = -1
            · exfalso
              exact c56 (Int32.toInt_inj.mp (by rw [e]; decide))
            · omega
          obtain ⟨k, hk4, rfl⟩ := isB_of (h := 4) (show isB 0 (4 : Nat) kv from ⟨hk0, b15.2⟩)
          refine z_aload_n (n := 70) C 0 dX9_week_69 rfl rfl ?_
          refine z_getR (n := 73) (q := 63) C K fF_RX9_71 dX9_week_70 rfl rfl sh_0 (by decide) rfl ?_
          refine z_getR (n := 76) (q := 66) C K fF_RX9_300 dX9_week_73 rfl rfl sh_63 (by decide) rfl ?_
          refine z_iload_n (n := 77) C 2 dX9_week_76 rfl rfl ?_
          refine z_ialdN (n := 78) C K k dX9_week_77 rfl sh_66 (by decide) rfl (by omega) (by decide) ?_
          rw [(hs hne).1 k (by rw [(hs hne).2]; omega), (hs hne).2]
          refine z_iret C E dX9_week_78 ?_
          have hx := hS I2 (by unfold wkR; rw [if_neg (fun q => q b3), if_neg (fun q => q b15)]) hf2
          rw [nI_clamp (show need < 2 ^ 31 by omega)] at hx
          unfold wkV at hx
          rw [if_neg hne] at hx
          rw [if_neg c56, nI_clamp (show k < 2 ^ 31 by omega)] at hx
          exact hx
        · refine z_aload_n (n := 60) C 0 dX9_week_59 rfl rfl ?_
          refine z_getR (n := 63) (q := 63) C K fF_RX9_71 dX9_week_60 rfl rfl sh_0 (by decide) rfl ?_
          refine z_getI (n := 66) C K fF_RX9_297 dX9_week_63 rfl sh_63 (by decide) ?_
          rw [h5]
          refine z_goto (n := 78) C dX9_week_66 rfl ?_
          refine z_iret C E dX9_week_78 ?_
          have hx := hS I2 (by unfold wkR; rw [if_neg (fun q => q b3), if_neg (fun q => q b15)]) hf2
          rw [nI_clamp (show need < 2 ^ 31 by omega)] at hx
          unfold wkV at hx
          rw [if_neg hne] at hx
          rw [if_pos c56] at hx
          unfold stI
          rw [if_neg hne]
          exact hx
      · refine z_bipush (n := 53) (v := (-9)) C dX9_week_51 rfl rfl ?_
        refine z_iret C E dX9_week_53 ?_
        have hx := hS I2 (by unfold wkR; rw [if_neg (fun q => q b3), if_neg (fun q => q b15)]) hf2
        rw [nI_clamp (show need < 2 ^ 31 by omega)] at hx
        unfold wkV at hx
        rw [if_pos ((stI_eq (by omega)).mp c48)] at hx
        exact hx
    · refine z_ifF_ne (n := 21) (tgt := 23) C (by decide) dX9_week_18 rfl rfl ?_
      refine z_iconst (n := 22) (v := (-1)) C dX9_week_21 rfl rfl ?_
      refine z_iret C E dX9_week_22 ?_
      exact hR _ (by unfold wkR; rw [if_neg (fun q => q b3), if_pos b15])
  · refine z_ifF_ne (n := 9) (tgt := 12) C (by decide) dX9_week_6 rfl rfl ?_
    refine z_bipush (n := 11) (v := (-2)) C dX9_week_9 rfl rfl ?_
    refine z_iret C E dX9_week_11 ?_
    exact hR _ (by unfold wkR; rw [if_pos b3])
