set_option maxHeartbeats 4000000 in
set_option maxRecDepth 100000 in
theorem lay_0 {X : KX} {t : Nat} (C : Cx X RX10 cX10_layRopes 2) (K : Kx X) (hnL : xnL X = 12) {I : KI} {J : KJ} {at1 : Nat} {uv ev lv mv sv rv : Int32} (hN : ∀ I1, (∀ q, q ≠ 105 → I1 q = I q) → (∀ i, i < 8 → I1 105 i = -9) → Z X 0 0 (V X I1 J (rf t)) 79 ((7, .int (nI at1)) :: (6, .int uv) :: (5, .int ev) :: (4, .int lv) :: (3, .int mv) :: (0, .ref (xad X 85)) :: (1, .int sv) :: (2, .int rv) :: []) []) : ∀ (f i : Nat) (I1 : KI), 8 - i < f → (i ≤ 8 ∧ (∀ q, q ≠ 105 → I1 q = I q) ∧ ∀ j, j < i → I1 105 j = -9) → Z X 0 0 (V X I1 J (rf t)) 57 ((8, .int (nI i)) :: (7, .int (nI at1)) :: (6, .int uv) :: (5, .int ev) :: (4, .int lv) :: (3, .int mv) :: (0, .ref (xad X 85)) :: (1, .int sv) :: (2, .int rv) :: []) [] := by
  intro f
  induction f with
  | zero => intro i I1 h; omega
  | succ f ih =>
    intro i I1 hf hi
    obtain ⟨hi8, hfr, hv⟩ := hi
    refine z_iload (n := 59) C 0 dX10_layRopes_57 rfl rfl ?_
    refine z_bipush (n := 61) (v := 8) C dX10_layRopes_59 rfl rfl ?_
    refine z_icmp_ge (tgt := 79) (n := 64) C dX10_layRopes_61 rfl rfl (fun c61 => ?_) (fun c61 => ?_)
    · refine z_sub (L' := [(7, _), (6, _), (5, _), (4, _), (3, _), (0, _), (1, _), (2, _)]) [1, 2, 3, 4, 5, 6, 7, 8] rfl ?_
      rw [fa_le, nI_toInt (by omega)] at c61
      simp only [Int32.reduceToInt] at c61
      exact hN I1 hfr (fun j hj => hv j (by omega))
    · rw [fa_le, nI_toInt (by omega)] at c61
      simp only [Int32.reduceToInt] at c61
      refine z_aload_n (n := 65) C 6 dX10_layRopes_64 rfl rfl ?_
      refine z_getR (n := 68) (q := 105) C K fF_RX10_72 dX10_layRopes_65 rfl rfl sh_85 (by decide) rfl ?_
      refine z_iload (n := 70) C 0 dX10_layRopes_68 rfl rfl ?_
      refine z_bipush (n := 72) (v := (-9)) C dX10_layRopes_70 rfl rfl ?_
      refine z_iastN (n := 73) C K i dX10_layRopes_72 rfl sh_105 (by decide) rfl (by omega) (by decide) ?_
      refine z_iincG (n := 76) (c := 1) (L' := [(8, _), (7, _), (6, _), (5, _), (4, _), (3, _), (0, _), (1, _), (2, _)]) C 0 dX10_layRopes_73 rfl rfl rfl (by rw [hnL]; decide) rfl ?_
      refine z_goto (n := 57) C dX10_layRopes_76 rfl ?_
      rw [nI_1]
      exact ih (i + 1) _ (by omega) ⟨by omega, fun q hq => by rw [upI_row _ _ hq]; exact hfr q hq, fun j hj => by
        by_cases e : j = i
        · subst e; rw [upI_same]
        · rw [upI_k _ _ e]; exact hv j (by omega)⟩
set_option maxHeartbeats 4000000 in
set_option maxRecDepth 100000 in
theorem c_X10_layRopes {ad : Nat → Nat} {I : KI} {J : KJ} {t : Nat} {n c : Nat} {ki co ag re : Nat → Nat} {T : Nat → Nat → Nat} (hk : mKd I c ki co ag re T) (okk : okKd n c ki co ag re T) {set r : Nat} (hset0 : 0 < set) (hset : set < 2 ^ c) (hp8 : popS set ≤ 8) (hr11 : r ≤ 11)  {Q : KI → KJ → KR → Prop} (hQ : ∀ I' J', (∀ q, q ≠ 85 → q ≠ 105 → q ≠ 106 → I' q = I q) → (∀ j, j ≠ 35 → I' 85 j = I 85 j) → (∀ q, q ≠ 85 → J' q = J q) → (∀ j, j ≠ 36 → J' 85 j = J 85 j) → J' 85 36 = lN (rpLs set T ag r).length → I' 85 35 = stI (rpB set T ag r).1 → (rpB set T ag r).1 ≤ 10 → ((rpB set T ag r).1 ≠ 0 → (rpB set T ag r).2.length = rpL (popS set) ∧ ∀ i, i < 8 → I' 106 i = (if i < rpL (popS set) then seatI ((rpB set T ag r).2.getD (rpL (popS set) - 1 - i) 99) else -9)) → Q I' J' (rf t))  : Mv 2 yX10_layRopes (wm yX10_layRopes cX10_layRopes 12 none) [.ref (ad 85), .int (nI set), .int (nI r)] ad I J (rf t) Q := by
  refine mv_of (own := RX10) yk_X10_layRopes rfl (Nat.le_of_ble_eq_true rfl) rfl (fun X hA hnL C K E => ?_)
  subst hA
  have h1024 : 2 ^ c ≤ 2 ^ 10 := Nat.pow_le_pow_right (by decide) okk.1
  have hm1 := pop_pos (m := set) (by omega) hset0
  have hL8 := rpL_le hp8
  have hLe : rpL (popS set) % 2 = 0 := by unfold rpL; omega
  have hL2 : 2 ≤ rpL (popS set) := by unfold rpL; omega
  have hemp : rpE (popS set) = 98 ∨ rpE (popS set) + 2 = rpL (popS set) := by unfold rpE; split <;> omega
  refine z_aload_n (n := 1) C 0 dX10_layRopes_0 rfl rfl ?_
  refine z_lconst (n := 2) (v := 0) C dX10_layRopes_1 rfl rfl ?_
  refine z_putJ (n := 5) C K fF_RX10_268 dX10_layRopes_2 rfl sh_85 (by decide) ?_
  refine z_aload_n (n := 6) C 0 dX10_layRopes_5 rfl rfl ?_
  refine z_bipush (n := 8) (v := (-9)) C dX10_layRopes_6 rfl rfl ?_
  refine z_putI (n := 11) C K fF_RX10_272 dX10_layRopes_8 rfl sh_85 (by decide) ?_
  refine z_iload_n (n := 12) C 1 dX10_layRopes_11 rfl rfl ?_
  refine z_si_1 (n := 15) (d' := 1) C K dX10_layRopes_12 rfl yk_X10_bitsOf kT_yX10_bitsOf kM_RX10_211 (by decide) hR0 rfl ?_
  refine c_X10_bitsOf (by omega) ?_
  refine z_istore_n (n := 16) (L' := [(3, _), (0, _), (1, _), (2, _)]) C dX10_layRopes_15 rfl (by rw [hnL]; decide) rfl ?_
  refine z_iload_n (n := 17) C 0 dX10_layRopes_16 rfl rfl ?_
  refine z_iconst (n := 18) (v := 2) C dX10_layRopes_17 rfl rfl ?_
  refine z_irem (n := 19) C dX10_layRopes_18 rfl (by decide) ?_
  rw [show (2 : Int32) = nI 2 from rfl, pk_rem (by omega) (by decide) (by decide)]
  refine z_if_ne (tgt := 26) (n := 22) C dX10_layRopes_19 rfl rfl (fun c19 => ?_) (fun c19 => ?_)
  · have hod : popS set % 2 = 1 := by
      have : popS set % 2 ≠ 0 := fun e => c19 (by rw [e]; rfl)
      omega
    refine z_iload_n (n := 27) C 0 dX10_layRopes_26 rfl rfl ?_
    refine z_iconst (n := 28) (v := 1) C dX10_layRopes_27 rfl rfl ?_
    refine z_iadd (n := 29) C dX10_layRopes_28 rfl ?_
    rw [nI_1]
    have hrl : popS set + 1 = rpL (popS set) := by unfold rpL; omega
    rw [hrl]
    refine z_istore (n := 31) (L' := [(4, _), (3, _), (0, _), (1, _), (2, _)]) C dX10_layRopes_29 rfl (by rw [hnL]; decide) rfl ?_
    refine z_iload_n (n := 32) C 1 dX10_layRopes_31 rfl rfl ?_
    refine z_iconst (n := 33) (v := 2) C dX10_layRopes_32 rfl rfl ?_
    refine z_irem (n := 34) C dX10_layRopes_33 rfl (by decide) ?_
    rw [show (2 : Int32) = nI 2 from rfl, pk_rem (by omega) (by decide) (by decide)]
    refine z_if_ne (tgt := 42) (n := 37) C dX10_layRopes_34 rfl rfl (fun c34 => ?_) (fun c34 => ?_)
    · refine z_iload (n := 44) C 0 dX10_layRopes_42 rfl rfl ?_
      refine z_iconst (n := 45) (v := 2) C dX10_layRopes_44 rfl rfl ?_
      refine z_isub (n := 46) C dX10_layRopes_45 rfl ?_
      rw [show nI (rpL (popS set)) - 2 = empI (rpE (popS set)) from by rw [show nI (rpL (popS set)) - 2 = nI (rpL (popS set) - 2) from nI_sub (b := 2) (by omega) (by omega)]; unfold rpE; rw [if_pos hod]; unfold empI; rw [if_neg (by omega)]]
      refine z_istore (n := 48) (L' := [(5, _), (4, _), (3, _), (0, _), (1, _), (2, _)]) C dX10_layRopes_46 rfl (by rw [hnL]; decide) rfl ?_
      refine z_iconst (n := 49) (v := 0) C dX10_layRopes_48 rfl rfl ?_
      refine z_istore (n := 51) (L' := [(6, _), (5, _), (4, _), (3, _), (0, _), (1, _), (2, _)]) C dX10_layRopes_49 rfl (by rw [hnL]; decide) rfl ?_
      refine z_iconst (n := 52) (v := 0) C dX10_layRopes_51 rfl rfl ?_
      refine z_istore (n := 54) (L' := [(7, _), (6, _), (5, _), (4, _), (3, _), (0, _), (1, _), (2, _)]) C dX10_layRopes_52 rfl (by rw [hnL]; decide) rfl ?_
      refine z_iconst (n := 55) (v := 0) C dX10_layRopes_54 rfl rfl ?_
      refine z_istore (n := 57) (L' := [(8, _), (7, _), (6, _), (5, _), (4, _), (3, _), (0, _), (1, _), (2, _)]) C dX10_layRopes_55 rfl (by rw [hnL]; decide) rfl ?_
      refine lay_0 C K hnL (I := upI I 85 35 (-9)) (J := upJ J 85 36 0) (at1 := 0) (fun I1 hf1 hv1 => ?_) 9 0 _ (by omega) ⟨Nat.zero_le _, fun _ _ => rfl, fun j hj => by omega⟩
      have hk1 : mKd I1 c ki co ag re T := hk.fr (by rw [hf1 85 (by decide), upI_k _ _ (by decide)]) (fun q q1 q2 => by rw [hf1 q (by omega), upI_row _ _ (by omega)])
      refine z_iload (n := 81) C 2 dX10_layRopes_79 rfl rfl ?_
      refine z_if_ne (tgt := 87) (n := 84) C dX10_layRopes_81 rfl rfl (fun c81 => ?_) (fun c81 => ?_)
      · refine z_iload (n := 89) C 0 dX10_layRopes_87 rfl rfl ?_
        refine z_istore (n := 91) (L' := [(8, _), (7, _), (6, _), (5, _), (4, _), (3, _), (0, _), (1, _), (2, _)]) C dX10_layRopes_89 rfl (by rw [hnL]; decide) rfl ?_
        refine z_sub (L' := [(7, _), (6, _), (8, _), (5, _), (4, _), (3, _), (0, _), (1, _), (2, _)]) [1, 2, 0, 3, 4, 5, 6, 7, 8] rfl ?_
        have hne : ([] : List Nat).length ≠ rpE (popS set) := fun e => c81 (by rw [← e]; rfl)
        have hst : fillX (cdS set T ag r) (rpE (popS set)) (rpL (popS set) - 1) [] 0 = rpLs set T ag r := by
          unfold rpLs
          rw [← fillS_X hne, show rpL (popS set) - 1 + 1 = rpL (popS set) by omega]
        refine lay_all C K hnL (I0 := I1) (J0 := upJ J 85 36 0) (first := 0) hk1 okk hset hL8 hL2 hLe hemp hr11 (by decide) 9 (rpL (popS set) - 1) (by omega) I1 _ [] 0 0 0 (0, []) (by show 0 + (rpL (popS set) - 1 + 1) = _; omega) hne (Nat.zero_le _) ⟨fun y hy => absurd hy (List.not_mem_nil), fun i hi => absurd hi (Nat.not_lt_zero _)⟩ (Nat.zero_le _) ⟨fun _ _ _ _ => rfl, fun _ _ => rfl, fun _ _ => rfl, fun _ _ => rfl, fun i hi => absurd hi (Nat.not_lt_zero _), hv1 _ (by decide), fun i _ hi2 => hv1 i hi2, by decide, fun y hy _ => by rw [Nat.zero_testBit]; rfl, fun e => absurd rfl e, upJ_same _ _ _ _, by rw [hf1 85 (by decide), upI_same]; rfl, by decide, fun e => absurd rfl e⟩ (fun I2 J2 u2 f2 b2 hly2 hf2 hb2 => ?_)
        refine z_iload (n := 93) C 0 dX10_layRopes_91 rfl rfl ?_
        refine z_iload (n := 95) C 2 dX10_layRopes_93 rfl rfl ?_
        refine z_icmpT_lt (tgt := 387) C (by unfold bk; rw [if_neg (fun q => absurd q.1 (by show ¬ 0 = rpE (popS set) + 1; omega))]; decide) dX10_layRopes_95 rfl ?_
        refine z_vret C E dX10_layRopes_387 ?_
        obtain ⟨a1, a2, a3, a4, a5, a6, a7, a8, a9, a10, a11, a12, a13, a14⟩ := hly2
        exact hQ I2 J2 (fun q q1 q2 q3 => by rw [a1 q q1 q2 q3, hf1 q q2, upI_row _ _ q1]) (fun j hj => by rw [a2 j hj, hf1 85 (by decide), upI_k _ _ hj]) (fun q hq => by rw [a3 q hq, upJ_row _ _ hq]) (fun j hj => by rw [a4 j hj, upJ_k _ _ hj]) (by rw [a11, hf2, Nat.zero_add, hst]) (by rw [a12, hb2, hst]; rfl) (by rw [hb2, hst] at a13; exact a13) (fun e => by rw [hb2, hst] at a14; exact a14 e)
      · refine z_iconst (n := 85) (v := 1) C dX10_layRopes_84 rfl rfl ?_
        refine z_istore (n := 87) (L' := [(7, _), (6, _), (5, _), (4, _), (3, _), (0, _), (1, _), (2, _)]) C dX10_layRopes_85 rfl (by rw [hnL]; decide) rfl ?_
        refine z_iload (n := 89) C 0 dX10_layRopes_87 rfl rfl ?_
        refine z_istore (n := 91) (L' := [(8, _), (7, _), (6, _), (5, _), (4, _), (3, _), (0, _), (1, _), (2, _)]) C dX10_layRopes_89 rfl (by rw [hnL]; decide) rfl ?_
        refine z_sub (L' := [(7, _), (6, _), (8, _), (5, _), (4, _), (3, _), (0, _), (1, _), (2, _)]) [1, 2, 0, 3, 4, 5, 6, 7, 8] rfl ?_
        have he0 : rpE (popS set) = 0 := by
          unfold empI at c81
          by_cases e : rpE (popS set) = 98
          · rw [if_pos e] at c81; exact absurd c81 (by decide)
          · rw [if_neg e] at c81; exact nI_inj (b := 0) c81 (by omega) (by decide)
        have hst : fillX (cdS set T ag r) (rpE (popS set)) (rpL (popS set) - 2) [99] 0 = rpLs set T ag r := by
          unfold rpLs
          rw [← fillS_X (rs := [99]) (show ([99] : List Nat).length ≠ rpE (popS set) by rw [he0]; decide), show rpL (popS set) = rpL (popS set) - 2 + 1 + 1 by omega, fillS_emp (show ([] : List Nat).length = rpE (popS set) from he0.symm), show rpL (popS set) - 2 + 1 + 1 - 2 + 1 = rpL (popS set) - 2 + 1 by omega]
        refine lay_all C K hnL (I0 := I1) (J0 := upJ J 85 36 0) (first := 1) hk1 okk hset hL8 hL2 hLe hemp hr11 (by decide) 9 (rpL (popS set) - 2) (by omega) I1 _ [99] 0 0 0 (0, []) (by show 1 + (rpL (popS set) - 2 + 1) = _; omega) (by rw [he0]; decide) (Nat.le_refl _) ⟨fun y hy => Or.inl (List.mem_singleton.mp hy), fun i hi => by
          have hi0 : i = 0 := by have : i < 1 := hi; omega
          subst hi0
          rw [he0]
          exact ⟨fun _ => rfl, fun _ => rfl⟩⟩ (Nat.zero_le _) ⟨fun _ _ _ _ => rfl, fun _ _ => rfl, fun _ _ => rfl, fun _ _ => rfl, fun i hi => by
          have hi0 : i = 0 := by have : i < 1 := hi; omega
          subst hi0
          rw [hv1 0 (by decide)]; rfl, hv1 _ (by decide), fun i _ hi2 => hv1 i hi2, by decide, fun y hy _ => by rw [Nat.zero_testBit, List.contains_cons, show (y == 99) = false from beq_eq_false_iff_ne.mpr (by omega)]; rfl, fun e => absurd rfl e, upJ_same _ _ _ _, by rw [hf1 85 (by decide), upI_same]; rfl, by decide, fun e => absurd rfl e⟩ (fun I2 J2 u2 f2 b2 hly2 hf2 hb2 => ?_)
        refine z_iload (n := 93) C 0 dX10_layRopes_91 rfl rfl ?_
        refine z_iload (n := 95) C 2 dX10_layRopes_93 rfl rfl ?_
        refine z_icmpT_lt (tgt := 387) C (by unfold bk; rw [if_neg (fun q => absurd q.2 (by decide))]; decide) dX10_layRopes_95 rfl ?_
        refine z_vret C E dX10_layRopes_387 ?_
        obtain ⟨a1, a2, a3, a4, a5, a6, a7, a8, a9, a10, a11, a12, a13, a14⟩ := hly2
        exact hQ I2 J2 (fun q q1 q2 q3 => by rw [a1 q q1 q2 q3, hf1 q q2, upI_row _ _ q1]) (fun j hj => by rw [a2 j hj, hf1 85 (by decide), upI_k _ _ hj]) (fun q hq => by rw [a3 q hq, upJ_row _ _ hq]) (fun j hj => by rw [a4 j hj, upJ_k _ _ hj]) (by rw [a11, hf2, Nat.zero_add, hst]) (by rw [a12, hb2, hst]; rfl) (by rw [hb2, hst] at a13; exact a13) (fun e => by rw [hb2, hst] at a14; exact a14 e)
    · exact absurd (by rw [nI_inj (b := 0) c34 (by omega) (by decide)]; rfl) c19
  · have hev : popS set % 2 = 0 := nI_inj (b := 0) c19 (by omega) (by decide)
    refine z_iload_n (n := 23) C 0 dX10_layRopes_22 rfl rfl ?_
    refine z_goto (n := 29) C dX10_layRopes_23 rfl ?_
    have hrl : popS set = rpL (popS set) := by unfold rpL; omega
    refine z_istore (n := 31) (L' := [(4, _), (3, _), (0, _), (1, _), (2, _)]) C dX10_layRopes_29 rfl (by rw [hnL]; decide) rfl ?_
    refine z_iload_n (n := 32) C 1 dX10_layRopes_31 rfl rfl ?_
    refine z_iconst (n := 33) (v := 2) C dX10_layRopes_32 rfl rfl ?_
    refine z_irem (n := 34) C dX10_layRopes_33 rfl (by decide) ?_
    rw [show (2 : Int32) = nI 2 from rfl, pk_rem (by omega) (by decide) (by decide)]
    refine z_if_ne (tgt := 42) (n := 37) C dX10_layRopes_34 rfl rfl (fun c34 => ?_) (fun c34 => ?_)
    · exact absurd c19 c34
    · refine z_bipush (n := 39) (v := (-9)) C dX10_layRopes_37 rfl rfl ?_
      refine z_goto (n := 46) C dX10_layRopes_39 rfl ?_
      have hem9 : empI (rpE (popS set)) = -9 := by unfold rpE; rw [if_neg (by omega)]; rfl
      refine z_istore (n := 48) (L' := [(5, _), (4, _), (3, _), (0, _), (1, _), (2, _)]) C dX10_layRopes_46 rfl (by rw [hnL]; decide) rfl ?_
      refine z_iconst (n := 49) (v := 0) C dX10_layRopes_48 rfl rfl ?_
      refine z_istore (n := 51) (L' := [(6, _), (5, _), (4, _), (3, _), (0, _), (1, _), (2, _)]) C dX10_layRopes_49 rfl (by rw [hnL]; decide) rfl ?_
      refine z_iconst (n := 52) (v := 0) C dX10_layRopes_51 rfl rfl ?_
      refine z_istore (n := 54) (L' := [(7, _), (6, _), (5, _), (4, _), (3, _), (0, _), (1, _), (2, _)]) C dX10_layRopes_52 rfl (by rw [hnL]; decide) rfl ?_
      refine z_iconst (n := 55) (v := 0) C dX10_layRopes_54 rfl rfl ?_
      refine z_istore (n := 57) (L' := [(8, _), (7, _), (6, _), (5, _), (4, _), (3, _), (0, _), (1, _), (2, _)]) C dX10_layRopes_55 rfl (by rw [hnL]; decide) rfl ?_
      refine lay_0 C K hnL (I := upI I 85 35 (-9)) (J := upJ J 85 36 0) (at1 := 0) (fun I1 hf1 hv1 => ?_) 9 0 _ (by omega) ⟨Nat.zero_le _, fun _ _ => rfl, fun j hj => by omega⟩
      have hk1 : mKd I1 c ki co ag re T := hk.fr (by rw [hf1 85 (by decide), upI_k _ _ (by decide)]) (fun q q1 q2 => by rw [hf1 q (by omega), upI_row _ _ (by omega)])
      refine Eq.mp (congrArg (fun (z : Nat × Int32) => Z X 0 0 (V X I1 (upJ J 85 36 0) (rf t)) 79 [(7, .int 0), (6, .int 0), (5, .int z.2), (4, .int (nI z.1)), (3, .int (nI (popS set))), (0, .ref (xad X 85)), (1, .int (nI set)), (2, .int (nI r))] []) (show (rpL (popS set), empI (rpE (popS set))) = (popS set, -9) from Prod.ext hrl.symm hem9)) ?_
      show Z X 0 0 (V X I1 (upJ J 85 36 0) (rf t)) 79 [(7, .int 0), (6, .int 0), (5, .int (empI (rpE (popS set)))), (4, .int (nI (rpL (popS set)))), (3, .int (nI (popS set))), (0, .ref (xad X 85)), (1, .int (nI set)), (2, .int (nI r))] []
      refine z_iload (n := 81) C 2 dX10_layRopes_79 rfl rfl ?_
      refine z_if_ne (tgt := 87) (n := 84) C dX10_layRopes_81 rfl rfl (fun c81 => ?_) (fun c81 => ?_)
      · refine z_iload (n := 89) C 0 dX10_layRopes_87 rfl rfl ?_
        refine z_istore (n := 91) (L' := [(8, _), (7, _), (6, _), (5, _), (4, _), (3, _), (0, _), (1, _), (2, _)]) C dX10_layRopes_89 rfl (by rw [hnL]; decide) rfl ?_
        refine z_sub (L' := [(7, _), (6, _), (8, _), (5, _), (4, _), (3, _), (0, _), (1, _), (2, _)]) [1, 2, 0, 3, 4, 5, 6, 7, 8] rfl ?_
        have hne : ([] : List Nat).length ≠ rpE (popS set) := fun e => c81 (by rw [← e]; rfl)
        have hst : fillX (cdS set T ag r) (rpE (popS set)) (rpL (popS set) - 1) [] 0 = rpLs set T ag r := by
          unfold rpLs
          rw [← fillS_X hne, show rpL (popS set) - 1 + 1 = rpL (popS set) by omega]
        refine lay_all C K hnL (I0 := I1) (J0 := upJ J 85 36 0) (first := 0) hk1 okk hset hL8 hL2 hLe hemp hr11 (by decide) 9 (rpL (popS set) - 1) (by omega) I1 _ [] 0 0 0 (0, []) (by show 0 + (rpL (popS set) - 1 + 1) = _; omega) hne (Nat.zero_le _) ⟨fun y hy => absurd hy (List.not_mem_nil), fun i hi => absurd hi (Nat.not_lt_zero _)⟩ (Nat.zero_le _) ⟨fun _ _ _ _ => rfl, fun _ _ => rfl, fun _ _ => rfl, fun _ _ => rfl, fun i hi => absurd hi (Nat.not_lt_zero _), hv1 _ (by decide), fun i _ hi2 => hv1 i hi2, by decide, fun y hy _ => by rw [Nat.zero_testBit]; rfl, fun e => absurd rfl e, upJ_same _ _ _ _, by rw [hf1 85 (by decide), upI_same]; rfl, by decide, fun e => absurd rfl e⟩ (fun I2 J2 u2 f2 b2 hly2 hf2 hb2 => ?_)
        refine z_iload (n := 93) C 0 dX10_layRopes_91 rfl rfl ?_
        refine z_iload (n := 95) C 2 dX10_layRopes_93 rfl rfl ?_
        refine z_icmpT_lt (tgt := 387) C (by unfold bk; rw [if_neg (fun q => absurd q.1 (by show ¬ 0 = rpE (popS set) + 1; omega))]; decide) dX10_layRopes_95 rfl ?_
        refine z_vret C E dX10_layRopes_387 ?_
        obtain ⟨a1, a2, a3, a4, a5, a6, a7, a8, a9, a10, a11, a12, a13, a14⟩ := hly2
        exact hQ I2 J2 (fun q q1 q2 q3 => by rw [a1 q q1 q2 q3, hf1 q q2, upI_row _ _ q1]) (fun j hj => by rw [a2 j hj, hf1 85 (by decide), upI_k _ _ hj]) (fun q hq => by rw [a3 q hq, upJ_row _ _ hq]) (fun j hj => by rw [a4 j hj, upJ_k _ _ hj]) (by rw [a11, hf2, Nat.zero_add, hst]) (by rw [a12, hb2, hst]; rfl) (by rw [hb2, hst] at a13; exact a13) (fun e => by rw [hb2, hst] at a14; exact a14 e)
      · refine z_iconst (n := 85) (v := 1) C dX10_layRopes_84 rfl rfl ?_
        refine z_istore (n := 87) (L' := [(7, _), (6, _), (5, _), (4, _), (3, _), (0, _), (1, _), (2, _)]) C dX10_layRopes_85 rfl (by rw [hnL]; decide) rfl ?_
        refine z_iload (n := 89) C 0 dX10_layRopes_87 rfl rfl ?_
        refine z_istore (n := 91) (L' := [(8, _), (7, _), (6, _), (5, _), (4, _), (3, _), (0, _), (1, _), (2, _)]) C dX10_layRopes_89 rfl (by rw [hnL]; decide) rfl ?_
        refine z_sub (L' := [(7, _), (6, _), (8, _), (5, _), (4, _), (3, _), (0, _), (1, _), (2, _)]) [1, 2, 0, 3, 4, 5, 6, 7, 8] rfl ?_
        have he0 : rpE (popS set) = 0 := by
          unfold empI at c81
          by_cases e : rpE (popS set) = 98
          · rw [if_pos e] at c81; exact absurd c81 (by decide)
          · rw [if_neg e] at c81; exact nI_inj (b := 0) c81 (by omega) (by decide)
        have hst : fillX (cdS set T ag r) (rpE (popS set)) (rpL (popS set) - 2) [99] 0 = rpLs set T ag r := by
          unfold rpLs
          rw [← fillS_X (rs := [99]) (show ([99] : List Nat).length ≠ rpE (popS set) by rw [he0]; decide), show rpL (popS set) = rpL (popS set) - 2 + 1 + 1 by omega, fillS_emp (show ([] : List Nat).length = rpE (popS set) from he0.symm), show rpL (popS set) - 2 + 1 + 1 - 2 + 1 = rpL (popS set) - 2 + 1 by omega]
        refine lay_all C K hnL (I0 := I1) (J0 := upJ J 85 36 0) (first := 1) hk1 okk hset hL8 hL2 hLe hemp hr11 (by decide) 9 (rpL (popS set) - 2) (by omega) I1 _ [99] 0 0 0 (0, []) (by show 1 + (rpL (popS set) - 2 + 1) = _; omega) (by rw [he0]; decide) (Nat.le_refl _) ⟨fun y hy => Or.inl (List.mem_singleton.mp hy), fun i hi => by
          have hi0 : i = 0 := by have : i < 1 := hi; omega
          subst hi0
          rw [he0]
          exact ⟨fun _ => rfl, fun _ => rfl⟩⟩ (Nat.zero_le _) ⟨fun _ _ _ _ => rfl, fun _ _ => rfl, fun _ _ => rfl, fun _ _ => rfl, fun i hi => by
          have hi0 : i = 0 := by have : i < 1 := hi; omega
          subst hi0
          rw [hv1 0 (by decide)]; rfl, hv1 _ (by decide), fun i _ hi2 => hv1 i hi2, by decide, fun y hy _ => by rw [Nat.zero_testBit, List.contains_cons, show (y == 99) = false from beq_eq_false_iff_ne.mpr (by omega)]; rfl, fun e => absurd rfl e, upJ_same _ _ _ _, by rw [hf1 85 (by decide), upI_same]; rfl, by decide, fun e => absurd rfl e⟩ (fun I2 J2 u2 f2 b2 hly2 hf2 hb2 => ?_)
        refine z_iload (n := 93) C 0 dX10_layRopes_91 rfl rfl ?_
        refine z_iload (n := 95) C 2 dX10_layRopes_93 rfl rfl ?_
        refine z_icmpT_lt (tgt := 387) C (by unfold bk; rw [if_neg (fun q => absurd q.2 (by decide))]; decide) dX10_layRopes_95 rfl ?_
        refine z_vret C E dX10_layRopes_387 ?_
        obtain ⟨a1, a2, a3, a4, a5, a6, a7, a8, a9, a10, a11, a12, a13, a14⟩ := hly2
        exact hQ I2 J2 (fun q q1 q2 q3 => by rw [a1 q q1 q2 q3, hf1 q q2, upI_row _ _ q1]) (fun j hj => by rw [a2 j hj, hf1 85 (by decide), upI_k _ _ hj]) (fun q hq => by rw [a3 q hq, upJ_row _ _ hq]) (fun j hj => by rw [a4 j hj, upJ_k _ _ hj]) (by rw [a11, hf2, Nat.zero_add, hst]) (by rw [a12, hb2, hst]; rfl) (by rw [hb2, hst] at a13; exact a13) (fun e => by rw [hb2, hst] at a14; exact a14 e)
set_option maxHeartbeats 4000000 in
set_option maxRecDepth 100000 in
theorem c_X10_isRope {ad : Nat → Nat} {I : KI} {J : KJ} {t : Nat} {n c : Nat} {ki co ag re : Nat → Nat} {T : Nat → Nat → Nat} (hk : mKd I c ki co ag re T) (okk : okKd n c ki co ag re T) {setv rv : Int32} {Q : Int32 → KI → KJ → KR → Prop} (h1 : rpOk c setv rv = true → Q 1 I J (rf t)) (h0 : ¬ rpOk c setv rv = true → Q 0 I J (rf t)) : Mi 2 yX10_isRope (wm yX10_isRope cX10_isRope 3 (some .boolean)) [.ref (ad 85), .int (setv), .int (rv)] ad I J (rf t) Q := by
  refine mi_of (own := RX10) yk_X10_isRope rfl (Nat.le_of_ble_eq_true rfl) rfl (fun X hA hnL C K E => ?_)
  subst hA
  refine z_aload_n (n := 1) C 0 dX10_isRope_0 rfl rfl ?_
  refine z_iload_n (n := 2) C 1 dX10_isRope_1 rfl rfl ?_
  refine z_vi_1 (n := 5) (d' := 1) C K dX10_isRope_2 rfl yk_X10_isSet yv_X10_isSet kM_RX10_217 (by decide) hR0 rfl rfl sh_85 (by decide) (by decide) ?_
  refine c_X10_isSet hk.1 okk.1 (fun b2 => ?_) (fun b2 => ?_)
  · refine z_ifF_eq (n := 8) (tgt := 31) C (by decide) dX10_isRope_5 rfl rfl ?_
    obtain ⟨set, hset0, hset, rfl⟩ := b2
    have hS0 : isS c (nI set) := ⟨set, hset0, hset, rfl⟩
    have h1024 : 2 ^ c ≤ 2 ^ 10 := Nat.pow_le_pow_right (by decide) okk.1
    have e1 : (nI set).toNatClampNeg = set := nI_clamp (by omega)
    refine z_iload_n (n := 9) C 1 dX10_isRope_8 rfl rfl ?_
    refine z_si_1 (n := 12) (d' := 1) C K dX10_isRope_9 rfl yk_X10_bitsOf kT_yX10_bitsOf kM_RX10_211 (by decide) hR0 rfl ?_
    refine c_X10_bitsOf (by omega) ?_
    have hpl : popS set ≤ 10 := popS_le (show set < 2 ^ 10 by omega) (by decide)
    refine z_bipush (n := 14) (v := 8) C dX10_isRope_12 rfl rfl ?_
    refine z_icmp_gt (tgt := 31) (n := 17) C dX10_isRope_14 rfl rfl (fun c14 => ?_) (fun c14 => ?_)
    · rw [fa_lt, nI_toInt (by omega)] at c14
      simp only [Int32.reduceToInt] at c14
      refine z_iconst (n := 32) (v := 0) C dX10_isRope_31 rfl rfl ?_
      refine z_zret C E dX10_isRope_32 (by decide) ?_
      exact h0 (fun q => by have := (rpOk_t.mp q).2.1; rw [e1] at this; omega)
    · rw [fa_lt, nI_toInt (by omega)] at c14
      simp only [Int32.reduceToInt] at c14
      refine z_iload_n (n := 18) C 2 dX10_isRope_17 rfl rfl ?_
      refine z_iconst (n := 19) (v := 4) C dX10_isRope_18 rfl rfl ?_
      refine z_bipush (n := 21) (v := 11) C dX10_isRope_19 rfl rfl ?_
      refine z_si_3 (n := 24) (d' := 1) C K dX10_isRope_21 rfl yk_X10_within kT_yX10_within kM_RX10_92 (by decide) hR0 rfl ?_
      refine m_inB (lo := 4) (hi := 11) (by decide) (by decide) (fun b21 => ?_) (fun b21 => ?_)
      · refine z_ifF_eq (n := 27) (tgt := 31) C (by decide) dX10_isRope_24 rfl rfl ?_
        refine z_iconst (n := 28) (v := 1) C dX10_isRope_27 rfl rfl ?_
        refine z_goto (n := 32) C dX10_isRope_28 rfl ?_
        refine z_zret C E dX10_isRope_32 (by decide) ?_
        exact h1 (rpOk_t.mpr ⟨(isSB_t okk.1).mpr hS0, by rw [e1]; omega, b21⟩)
      · refine z_ifT_eq (tgt := 31) C (by decide) dX10_isRope_24 rfl ?_
        refine z_iconst (n := 32) (v := 0) C dX10_isRope_31 rfl rfl ?_
        refine z_zret C E dX10_isRope_32 (by decide) ?_
        exact h0 (fun q => b21 (rpOk_t.mp q).2.2)
  · refine z_ifT_eq (tgt := 31) C (by decide) dX10_isRope_5 rfl ?_
    refine z_iconst (n := 32) (v := 0) C dX10_isRope_31 rfl rfl ?_
    refine z_zret C E dX10_isRope_32 (by decide) ?_
    exact h0 (fun q => b2 ((isSB_t okk.1).mp (rpOk_t.mp q).1))
set_option maxHeartbeats 4000000 in
set_option maxRecDepth 100000 in
theorem c_X10_ways {ad : Nat → Nat} {I : KI} {J : KJ} {t : Nat} {n c : Nat} {ki co ag re : Nat → Nat} {T : Nat → Nat → Nat} (hk : mKd I c ki co ag re T) (okk : okKd n c ki co ag re T) {setv rv : Int32} {Q : Int64 → KI → KJ → KR → Prop} (hR : ¬ rpOk c setv rv = true → Q (-9223372036854775808) I J (rf t)) (hS : ∀ I' J', rpOk c setv rv = true → (∀ q, q ≠ 85 → q ≠ 105 → q ≠ 106 → I' q = I q) → (∀ j, j ≠ 35 → I' 85 j = I 85 j) → (∀ q, q ≠ 85 → J' q = J q) → (∀ j, j ≠ 36 → J' 85 j = J 85 j) → Q (lN (rpLs setv.toNatClampNeg T ag rv.toNatClampNeg).length) I' J' (rf t)) : Ml 3 yX10_ways (wm yX10_ways cX10_ways 3 (some .long)) [.ref (ad 85), .int (setv), .int (rv)] ad I J (rf t) Q := by
  refine ml_of (own := RX10) yk_X10_ways rfl (Nat.le_of_ble_eq_true rfl) rfl (fun X hA hnL C K E => ?_)
  subst hA
  refine z_aload_n (n := 1) C 0 dX10_ways_0 rfl rfl ?_
  refine z_iload_n (n := 2) C 1 dX10_ways_1 rfl rfl ?_
  refine z_iload_n (n := 3) C 2 dX10_ways_2 rfl rfl ?_
  refine z_vi_2 (n := 6) (d' := 2) C K dX10_ways_3 rfl yk_X10_isRope yv_X10_isRope kM_RX10_282 (by decide) hR0 rfl rfl sh_85 (by decide) (by decide) ?_
  refine c_X10_isRope hk okk (fun b3 => ?_) (fun b3 => ?_)
  · refine z_ifT_ne (tgt := 13) C (by decide) dX10_ways_6 rfl ?_
    obtain ⟨q1, q2, q3⟩ := rpOk_t.mp b3
    obtain ⟨set, hset0, hset, rfl⟩ := (isSB_t okk.1).mp q1
    obtain ⟨r, hr11, rfl⟩ := isB_of (h := 11) (show isB 0 (11 : Nat) rv from ⟨by have := q3.1; omega, q3.2⟩)
    have h1024 : 2 ^ c ≤ 2 ^ 10 := Nat.pow_le_pow_right (by decide) okk.1
    have e1 : (nI set).toNatClampNeg = set := nI_clamp (by omega)
    have e2 : (nI r).toNatClampNeg = r := nI_clamp (by omega)
    rw [e1] at q2
    have hL8 := rpL_le q2
    rw [e1, e2] at hS
    refine z_aload_n (n := 14) C 0 dX10_ways_13 rfl rfl ?_
    refine z_iload_n (n := 15) C 1 dX10_ways_14 rfl rfl ?_
    refine z_iload_n (n := 16) C 2 dX10_ways_15 rfl rfl ?_
    refine z_vv_2 (n := 19) (d' := 2) C K dX10_ways_16 rfl yk_X10_layRopes yv_X10_layRopes kM_RX10_285 (by decide) hR0 rfl rfl sh_85 (by decide) (by decide) ?_
    refine c_X10_layRopes hk okk hset0 hset q2 hr11 (fun I2 J2 hf2 hj2 hg2 hgj2 h36 h35 hb hs => ?_)
    refine z_aload_n (n := 20) C 0 dX10_ways_19 rfl rfl ?_
    refine z_getJ (n := 23) C K fF_RX10_268 dX10_ways_20 rfl sh_85 (by decide) ?_
    rw [h36]
    refine z_lret C E dX10_ways_23 ?_
    exact hS I2 J2 b3 hf2 hj2 hg2 hgj2
  · refine z_ifF_ne (n := 9) (tgt := 13) C (by decide) dX10_ways_6 rfl rfl ?_
    refine z_ldc2 (n := 12) C dX10_ways_9 kK_RX10_90 rfl ?_
    refine z_lret C E dX10_ways_12 ?_
    exact hR b3
set_option maxHeartbeats 4000000 in
set_option maxRecDepth 100000 in
theorem c_X10_friendly {ad : Nat → Nat} {I : KI} {J : KJ} {t : Nat} {n c : Nat} {ki co ag re : Nat → Nat} {T : Nat → Nat → Nat} (hk : mKd I c ki co ag re T) (okk : okKd n c ki co ag re T) {setv rv kv : Int32} {Q : Int32 → KI → KJ → KR → Prop} (hR : ∀ v, frdR c setv rv kv = some v → Q v I J (rf t)) (hS : ∀ I' J', frdR c setv rv kv = none → (∀ q, q ≠ 85 → q ≠ 105 → q ≠ 106 → I' q = I q) → (∀ j, j ≠ 35 → I' 85 j = I 85 j) → (∀ q, q ≠ 85 → J' q = J q) → (∀ j, j ≠ 36 → J' 85 j = J 85 j) → Q (frdV (rpB setv.toNatClampNeg T ag rv.toNatClampNeg) (rpL (popS setv.toNatClampNeg)) kv) I' J' (rf t)) : Mi 3 yX10_friendly (wm yX10_friendly cX10_friendly 4 (some .int)) [.ref (ad 85), .int (setv), .int (rv), .int (kv)] ad I J (rf t) Q := by
  refine mi_of (own := RX10) yk_X10_friendly rfl (Nat.le_of_ble_eq_true rfl) rfl (fun X hA hnL C K E => ?_)
  subst hA
  refine z_aload_n (n := 1) C 0 dX10_friendly_0 rfl rfl ?_
  refine z_iload_n (n := 2) C 1 dX10_friendly_1 rfl rfl ?_
  refine z_iload_n (n := 3) C 2 dX10_friendly_2 rfl rfl ?_
  refine z_vi_2 (n := 6) (d' := 2) C K dX10_friendly_3 rfl yk_X10_isRope yv_X10_isRope kM_RX10_282 (by decide) hR0 rfl rfl sh_85 (by decide) (by decide) ?_
  refine c_X10_isRope hk okk (fun b3 => ?_) (fun b3 => ?_)
  · refine z_ifT_ne (tgt := 12) C (by decide) dX10_friendly_6 rfl ?_
    refine z_iload_n (n := 13) C 3 dX10_friendly_12 rfl rfl ?_
    refine z_iconst (n := 14) (v := (-1)) C dX10_friendly_13 rfl rfl ?_
    refine z_bipush (n := 16) (v := 7) C dX10_friendly_14 rfl rfl ?_
    refine z_si_3 (n := 19) (d' := 1) C K dX10_friendly_16 rfl yk_X10_within kT_yX10_within kM_RX10_92 (by decide) hR0 rfl ?_
    refine m_inB (lo := -1) (hi := 7) (by decide) (by decide) (fun b16 => ?_) (fun b16 => ?_)
    · refine z_ifT_ne (tgt := 24) C (by decide) dX10_friendly_19 rfl ?_
      obtain ⟨q1, q2, q3⟩ := rpOk_t.mp b3
      obtain ⟨set, hset0, hset, rfl⟩ := (isSB_t okk.1).mp q1
      obtain ⟨r, hr11, rfl⟩ := isB_of (h := 11) (show isB 0 (11 : Nat) rv from ⟨by have := q3.1; omega, q3.2⟩)
      have h1024 : 2 ^ c ≤ 2 ^ 10 := Nat.pow_le_pow_right (by decide) okk.1
      have e1 : (nI set).toNatClampNeg = set := nI_clamp (by omega)
      have e2 : (nI r).toNatClampNeg = r := nI_clamp (by omega)
      rw [e1] at q2
      have hL8 := rpL_le q2
      rw [e1, e2] at hS
      refine z_aload_n (n := 25) C 0 dX10_friendly_24 rfl rfl ?_
      refine z_iload_n (n := 26) C 1 dX10_friendly_25 rfl rfl ?_
      refine z_iload_n (n := 27) C 2 dX10_friendly_26 rfl rfl ?_
      refine z_vv_2 (n := 30) (d' := 2) C K dX10_friendly_27 rfl yk_X10_layRopes yv_X10_layRopes kM_RX10_285 (by decide) hR0 rfl rfl sh_85 (by decide) (by decide) ?_
      refine c_X10_layRopes hk okk hset0 hset q2 hr11 (fun I2 J2 hf2 hj2 hg2 hgj2 h36 h35 hb hs => ?_)
      refine z_iload_n (n := 31) C 3 dX10_friendly_30 rfl rfl ?_
      refine z_iconst (n := 32) (v := (-1)) C dX10_friendly_31 rfl rfl ?_
      refine z_icmp_ne (tgt := 42) (n := 35) C dX10_friendly_32 rfl rfl (fun c32 => ?_) (fun c32 => ?_)
      · refine z_aload_n (n := 43) C 0 dX10_friendly_42 rfl rfl ?_
        refine z_getI (n := 46) C K fF_RX10_272 dX10_friendly_43 rfl sh_85 (by decide) ?_
        refine z_bipush (n := 48) (v := (-9)) C dX10_friendly_46 rfl rfl ?_
        rw [h35]
        refine z_icmp_ne (tgt := 56) (n := 51) C dX10_friendly_48 rfl rfl (fun c48 => ?_) (fun c48 => ?_)
        · have hk0 : 0 ≤ kv.toInt := by
            have q9 := b16.1
            by_cases e : kv.toInt = -1
            · exfalso
              exact c32 (Int32.toInt_inj.mp (by rw [e]; decide))
            · omega
          obtain ⟨k, hk7, rfl⟩ := isB_of (h := 7) (show isB 0 (7 : Nat) kv from ⟨hk0, b16.2⟩)
          refine z_aload_n (n := 57) C 0 dX10_friendly_56 rfl rfl ?_
          refine z_getR (n := 60) (q := 106) C K fF_RX10_75 dX10_friendly_57 rfl rfl sh_85 (by decide) rfl ?_
          refine z_iload_n (n := 61) C 3 dX10_friendly_60 rfl rfl ?_
          refine z_ialdN (n := 62) C K k dX10_friendly_61 rfl sh_106 (by decide) rfl (by omega) (by decide) ?_
          refine z_iret C E dX10_friendly_62 ?_
          have hx := hS I2 J2 (by unfold frdR; rw [if_neg (fun q => q b3), if_neg (fun q => q b16)]) hf2 hj2 hg2 hgj2
          unfold frdV at hx
          have hne : (rpB set T ag r).1 ≠ 0 := fun e => c48 ((stI_eq (by omega)).mpr e)
          rw [if_neg hne, if_neg c32, nI_clamp (show k < 2 ^ 31 by omega)] at hx
          rw [(hs hne).2 k (by omega)]
          exact hx
        · refine z_bipush (n := 53) (v := (-9)) C dX10_friendly_51 rfl rfl ?_
          refine z_goto (n := 62) C dX10_friendly_53 rfl ?_
          refine z_iret C E dX10_friendly_62 ?_
          have hx := hS I2 J2 (by unfold frdR; rw [if_neg (fun q => q b3), if_neg (fun q => q b16)]) hf2 hj2 hg2 hgj2
          unfold frdV at hx
          rw [if_pos ((stI_eq (by omega)).mp c48)] at hx
          exact hx
      · refine z_aload_n (n := 36) C 0 dX10_friendly_35 rfl rfl ?_
        refine z_getI (n := 39) C K fF_RX10_272 dX10_friendly_36 rfl sh_85 (by decide) ?_
        refine z_goto (n := 62) C dX10_friendly_39 rfl ?_
        refine z_iret C E dX10_friendly_62 ?_
        have hx := hS I2 J2 (by unfold frdR; rw [if_neg (fun q => q b3), if_neg (fun q => q b16)]) hf2 hj2 hg2 hgj2
        unfold frdV at hx
        rw [h35]
        by_cases e : (rpB set T ag r).1 = 0
        · rw [if_pos e] at hx
          rw [e]; exact hx
        · rw [if_neg e, if_pos c32] at hx
          unfold stI
          rw [if_neg e]; exact hx
    · refine z_ifF_ne (n := 22) (tgt := 24) C (by decide) dX10_friendly_19 rfl rfl ?_
      refine z_iconst (n := 23) (v := (-1)) C dX10_friendly_22 rfl rfl ?_
      refine z_iret C E dX10_friendly_23 ?_
      exact hR _ (by unfold frdR; rw [if_neg (fun q => q b3), if_pos b16])
  · refine z_ifF_ne (n := 9) (tgt := 12) C (by decide) dX10_friendly_6 rfl rfl ?_
    refine z_bipush (n := 11) (v := (-2)) C dX10_friendly_9 rfl rfl ?_
    refine z_iret C E dX10_friendly_11 ?_
    exact hR _ (by unfold frdR; rw [if_pos b3])
