set_option maxHeartbeats 4000000 in
set_option maxRecDepth 100000 in
theorem c_X1_isGate {ad : Nat → Nat} {I : KI} {J : KJ} {t : Nat} {pc : Nat → Nat} (hp : ∀ g, g < 7 → I 53 g = nI (pc g)) (hb : ∀ g, pc g ≤ 4) {v : Int32} {Q : Int32 → KI → KJ → KR → Prop} (h1 : gateB pc v = true → Q 1 I J (rf t)) (h0 : ¬ gateB pc v = true → Q 0 I J (rf t)) : Mi 1 yX1_isGate (wm yX1_isGate cX1_isGate 2 (some .boolean)) [.ref (ad 50), .int (v)] ad I J (rf t) Q := by
  refine mi_of (own := RX1) yk_X1_isGate rfl (Nat.le_of_ble_eq_true rfl) rfl (fun X hA hnL C K E => ?_)
  subst hA
  refine z_iload_n (n := 1) C 1 dX1_isGate_0 rfl rfl ?_
  refine z_if_lt (tgt := 23) (n := 4) C dX1_isGate_1 rfl rfl (fun c1 => ?_) (fun c1 => ?_)
  · refine z_iconst (n := 24) (v := 0) C dX1_isGate_23 rfl rfl ?_
    refine z_zret C E dX1_isGate_24 (by decide) ?_
    simp only [fa_lt, Int32.reduceToInt] at c1
    exact h0 (fun q => by have := (gateB_t.mp q).1.1; omega)
  · refine z_iload_n (n := 5) C 1 dX1_isGate_4 rfl rfl ?_
    refine z_bipush (n := 7) (v := 7) C dX1_isGate_5 rfl rfl ?_
    refine z_icmp_ge (tgt := 23) (n := 10) C dX1_isGate_7 rfl rfl (fun c7 => ?_) (fun c7 => ?_)
    · refine z_iconst (n := 24) (v := 0) C dX1_isGate_23 rfl rfl ?_
      refine z_zret C E dX1_isGate_24 (by decide) ?_
      simp only [fa_le, Int32.reduceToInt] at c7
      exact h0 (fun q => by have := (gateB_t.mp q).1.2; omega)
    · rw [fa_lt] at c1
      rw [fa_le] at c7
      simp only [Int32.reduceToInt] at c1 c7
      have hN : isN 7 v := ⟨by omega, by omega⟩
      obtain ⟨g, hg, rfl⟩ := isN_of hN
      have hpg := hb g
      refine z_aload_n (n := 11) C 0 dX1_isGate_10 rfl rfl ?_
      refine z_getR (n := 14) (q := 53) C K fF_RX1_22 dX1_isGate_11 rfl rfl sh_50 (by decide) rfl ?_
      refine z_iload_n (n := 15) C 1 dX1_isGate_14 rfl rfl ?_
      refine z_ialdN (n := 16) C K g dX1_isGate_15 rfl sh_53 (by decide) rfl hg (by decide) ?_
      rw [hp g hg]
      refine z_if_le (tgt := 23) (n := 19) C dX1_isGate_16 rfl rfl (fun c16 => ?_) (fun c16 => ?_)
      · refine z_iconst (n := 24) (v := 0) C dX1_isGate_23 rfl rfl ?_
        refine z_zret C E dX1_isGate_24 (by decide) ?_
        rw [fa_le, nI_toInt (by omega)] at c16
        simp only [Int32.reduceToInt] at c16
        exact h0 (fun q => by have := (gateB_t.mp q).2; rw [nI_clamp (by omega)] at this; omega)
      · refine z_iconst (n := 20) (v := 1) C dX1_isGate_19 rfl rfl ?_
        refine z_goto (n := 24) C dX1_isGate_20 rfl ?_
        refine z_zret C E dX1_isGate_24 (by decide) ?_
        rw [fa_le, nI_toInt (by omega)] at c16
        simp only [Int32.reduceToInt] at c16
        exact h1 (gateB_t.mpr ⟨hN, by rw [nI_clamp (by omega)]; omega⟩)
set_option maxHeartbeats 4000000 in
set_option maxRecDepth 100000 in
theorem l_X1_setFirstOrder {X : KX} {J : KJ} {t : Nat} (C : Cx X RX1 cX1_setFirstOrder 2) (K : Kx X) (hnL : xnL X = 2) {Q : KI → KJ → KR → Prop} (E : Ev X Q) {I : KI} {pc rdy : Nat → Nat} (hb : ∀ g, pc g ≤ 4) (hp : ∀ g, g < 7 → I 52 g = nI (rdy g) ∧ I 53 g = nI (pc g)) (hQ : ∀ I', (∀ q, ¬ (50 ≤ q ∧ q ≤ 53) → I' q = I q) → cGt I' pc rdy (gL pc 7) → Q I' J (rf t)) : ∀ (f g : Nat) (I1 : KI), 7 - g < f → (g ≤ 7 ∧ (∀ q, q ≠ 50 → q ≠ 51 → I1 q = I q) ∧ I1 50 0 = nI (gL pc g).length ∧ ordA I1 51 (gL pc g)) → Z X 0 0 (V X I1 J (rf t)) 7 [(1, .int (nI g)), (0, .ref (xad X 50))] [] := by
  intro f
  induction f with
  | zero => intro g I1 h; omega
  | succ f ih =>
    intro g I1 hf hi
    obtain ⟨hg7, hfr, h0, ho⟩ := hi
    have hp2 : ∀ g, g < 7 → I1 53 g = nI (pc g) := fun g hg => by rw [hfr 53 (by decide) (by decide)]; exact (hp g hg).2
    have hlen := gL_len pc g
    refine z_iload_n (n := 8) C 0 dX1_setFirstOrder_7 rfl rfl ?_
    refine z_bipush (n := 10) (v := 7) C dX1_setFirstOrder_8 rfl rfl ?_
    refine z_icmp_ge (tgt := 47) (n := 13) C dX1_setFirstOrder_10 rfl rfl (fun c10 => ?_) (fun c10 => ?_)
    · refine z_vret C E dX1_setFirstOrder_47 ?_
      rw [fa_le, nI_toInt (by omega)] at c10
      simp only [Int32.reduceToInt] at c10
      have e : g = 7 := by omega
      subst e
      exact hQ I1 (fun q hq => hfr q (by omega) (by omega)) ⟨h0, fun g hg => ⟨by rw [hfr 52 (by decide) (by decide)]; exact (hp g hg).1, hp2 g hg⟩, ho⟩
    · rw [fa_le, nI_toInt (by omega)] at c10
      simp only [Int32.reduceToInt] at c10
      have hg : g < 7 := by omega
      refine z_aload_n (n := 14) C 1 dX1_setFirstOrder_13 rfl rfl ?_
      refine z_iload_n (n := 15) C 0 dX1_setFirstOrder_14 rfl rfl ?_
      refine z_vi_1 (n := 18) (d' := 1) C K dX1_setFirstOrder_15 rfl yk_X1_isGate yv_X1_isGate kM_RX1_44 (by decide) hR0 rfl rfl sh_50 (by decide) (by decide) ?_
      refine c_X1_isGate hp2 hb (fun b15 => ?_) (fun b15 => ?_)
      · refine z_ifF_eq (n := 21) (tgt := 41) C (by decide) dX1_setFirstOrder_18 rfl rfl ?_
        refine z_aload_n (n := 22) C 1 dX1_setFirstOrder_21 rfl rfl ?_
        refine z_getR (n := 25) (q := 51) C K fF_RX1_15 dX1_setFirstOrder_22 rfl rfl sh_50 (by decide) rfl ?_
        refine z_aload_n (n := 26) C 1 dX1_setFirstOrder_25 rfl rfl ?_
        refine z_getI (n := 29) C K fF_RX1_9 dX1_setFirstOrder_26 rfl sh_50 (by decide) ?_
        rw [h0]
        refine z_iload_n (n := 30) C 0 dX1_setFirstOrder_29 rfl rfl ?_
        refine z_iastN (n := 31) C K (gL pc g).length dX1_setFirstOrder_30 rfl sh_51 (by decide) rfl (by omega) (by decide) ?_
        refine z_aload_n (n := 32) C 1 dX1_setFirstOrder_31 rfl rfl ?_
        refine z_dup (n := 33) C dX1_setFirstOrder_32 rfl rfl ?_
        refine z_getI (n := 36) C K fF_RX1_9 dX1_setFirstOrder_33 rfl sh_50 (by decide) ?_
        rw [upI_row _ _ (by decide), h0]
        refine z_iconst (n := 37) (v := 1) C dX1_setFirstOrder_36 rfl rfl ?_
        refine z_iadd (n := 38) C dX1_setFirstOrder_37 rfl ?_
        refine z_putI (n := 41) C K fF_RX1_9 dX1_setFirstOrder_38 rfl sh_50 (by decide) ?_
        refine z_iincG (n := 44) (c := 1) (L' := [(1, _), (0, _)]) C 0 dX1_setFirstOrder_41 rfl rfl rfl (by rw [hnL]; decide) rfl ?_
        refine z_goto (n := 7) C dX1_setFirstOrder_44 rfl ?_
        have hgt := b15
        rw [gateB_t, nI_clamp (by omega)] at hgt
        have eg : gL pc (g + 1) = gL pc g ++ [g] := by rw [gL, if_pos hgt.2]
        rw [nI_1, nI_1]
        exact ih (g + 1) _ (by omega) ⟨by omega, fun q h1 h2 => by rw [upI_row _ _ h1, upI_row _ _ h2]; exact hfr q h1 h2, by rw [upI_same, eg, List.length_append]; rfl, by rw [eg]; exact ho.snoc.fr (upI_row _ _ (by decide))⟩
      · refine z_ifT_eq (tgt := 41) C (by decide) dX1_setFirstOrder_18 rfl ?_
        refine z_iincG (n := 44) (c := 1) (L' := [(1, _), (0, _)]) C 0 dX1_setFirstOrder_41 rfl rfl rfl (by rw [hnL]; decide) rfl ?_
        refine z_goto (n := 7) C dX1_setFirstOrder_44 rfl ?_
        have hgt := b15
        rw [gateB_t, nI_clamp (by omega)] at hgt
        have eg : gL pc (g + 1) = gL pc g := by rw [gL, if_neg (fun q => hgt ⟨isN_nI (by omega) (by decide), q⟩)]
        rw [nI_1]
        exact ih (g + 1) _ (by omega) ⟨by omega, hfr, by rw [eg]; exact h0, by rw [eg]; exact ho⟩
set_option maxHeartbeats 4000000 in
set_option maxRecDepth 100000 in
theorem c_X1_setFirstOrder {ad : Nat → Nat} {I : KI} {J : KJ} {t : Nat} {pc rdy : Nat → Nat} (hb : ∀ g, pc g ≤ 4) (hp : ∀ g, g < 7 → I 52 g = nI (rdy g) ∧ I 53 g = nI (pc g))  {Q : KI → KJ → KR → Prop} (hQ : ∀ I', (∀ q, ¬ (50 ≤ q ∧ q ≤ 53) → I' q = I q) → cGt I' pc rdy (gL pc 7) → Q I' J (rf t)) : Mv 2 yX1_setFirstOrder (wm yX1_setFirstOrder cX1_setFirstOrder 2 none) [.ref (ad 50)] ad I J (rf t) Q := by
  refine mv_of (own := RX1) yk_X1_setFirstOrder rfl (Nat.le_of_ble_eq_true rfl) rfl (fun X hA hnL C K E => ?_)
  subst hA
  refine z_aload_n (n := 1) C 0 dX1_setFirstOrder_0 rfl rfl ?_
  refine z_iconst (n := 2) (v := 0) C dX1_setFirstOrder_1 rfl rfl ?_
  refine z_putI (n := 5) C K fF_RX1_9 dX1_setFirstOrder_2 rfl sh_50 (by decide) ?_
  refine z_iconst (n := 6) (v := 0) C dX1_setFirstOrder_5 rfl rfl ?_
  refine z_istore_n (n := 7) (L' := [(1, _), (0, _)]) C dX1_setFirstOrder_6 rfl (by rw [hnL]; decide) rfl ?_
  exact l_X1_setFirstOrder C K hnL E hb hp hQ 8 0 _ (by omega) ⟨by omega, fun q h1 _ => upI_row _ _ h1, by rw [upI_same]; rfl, fun k hk => by rw [gL] at hk; simp at hk⟩
set_option maxHeartbeats 4000000 in
set_option maxRecDepth 100000 in
theorem la_X1_gather {X : KX} {J : KJ} {t : Nat} (C : Cx X RX1 cX1_gather 3) (K : Kx X) (hnL : xnL X = 5) {I : KI} {sv : Int32} (hN : ∀ I1, (∀ q, ¬ (50 ≤ q ∧ q ≤ 53) → I1 q = I q) → (∀ g, g < 7 → I1 52 g = 0 ∧ I1 53 g = 0) → Z X 0 0 (V X I1 J (rf t)) 28 [(0, .ref (xad X 50)), (1, .ref (xad X 48)), (2, .int sv)] []) : ∀ (f g : Nat) (I1 : KI), 7 - g < f → (g ≤ 7 ∧ (∀ q, ¬ (50 ≤ q ∧ q ≤ 53) → I1 q = I q) ∧ ∀ x, x < g → I1 52 x = 0 ∧ I1 53 x = 0) → Z X 0 0 (V X I1 J (rf t)) 2 [(3, .int (nI g)), (0, .ref (xad X 50)), (1, .ref (xad X 48)), (2, .int sv)] [] := by
  intro f
  induction f with
  | zero => intro g I1 h; omega
  | succ f ih =>
    intro g I1 hf hi
    obtain ⟨hg7, hfr, hz⟩ := hi
    refine z_iload_n (n := 3) C 0 dX1_gather_2 rfl rfl ?_
    refine z_bipush (n := 5) (v := 7) C dX1_gather_3 rfl rfl ?_
    refine z_icmp_ge (tgt := 28) (n := 8) C dX1_gather_5 rfl rfl (fun c5 => ?_) (fun c5 => ?_)
    · refine z_sub (L' := [(0, _), (1, _), (2, _)]) [1, 2, 3] rfl ?_
      rw [fa_le, nI_toInt (by omega)] at c5
      simp only [Int32.reduceToInt] at c5
      exact hN I1 hfr (fun g hg => hz g (by omega))
    · rw [fa_le, nI_toInt (by omega)] at c5
      simp only [Int32.reduceToInt] at c5
      refine z_aload_n (n := 9) C 1 dX1_gather_8 rfl rfl ?_
      refine z_getR (n := 12) (q := 52) C K fF_RX1_19 dX1_gather_9 rfl rfl sh_50 (by decide) rfl ?_
      refine z_iload_n (n := 13) C 0 dX1_gather_12 rfl rfl ?_
      refine z_iconst (n := 14) (v := 0) C dX1_gather_13 rfl rfl ?_
      refine z_iastN (n := 15) C K g dX1_gather_14 rfl sh_52 (by decide) rfl (by omega) (by decide) ?_
      refine z_aload_n (n := 16) C 1 dX1_gather_15 rfl rfl ?_
      refine z_getR (n := 19) (q := 53) C K fF_RX1_22 dX1_gather_16 rfl rfl sh_50 (by decide) rfl ?_
      refine z_iload_n (n := 20) C 0 dX1_gather_19 rfl rfl ?_
      refine z_iconst (n := 21) (v := 0) C dX1_gather_20 rfl rfl ?_
      refine z_iastN (n := 22) C K g dX1_gather_21 rfl sh_53 (by decide) rfl (by omega) (by decide) ?_
      refine z_iincG (n := 25) (c := 1) (L' := [(3, _), (0, _), (1, _), (2, _)]) C 0 dX1_gather_22 rfl rfl rfl (by rw [hnL]; decide) rfl ?_
      refine z_goto (n := 2) C dX1_gather_25 rfl ?_
      rw [nI_1]
      exact ih (g + 1) _ (by omega) ⟨by omega, fun q hq => by rw [upI_row _ _ (by omega), upI_row _ _ (by omega)]; exact hfr q hq, fun x hx => by
        by_cases e : x = g
        · subst e; exact ⟨by rw [upI_p _ _ (by decide), upI_same], upI_same _ _ _ _⟩
        · rw [upI_k _ _ e, upI_k _ _ e, upI_k _ _ e, upI_k _ _ e]; exact hz x (by omega)⟩
set_option maxHeartbeats 4000000 in
set_option maxRecDepth 100000 in
theorem lb_X1_gather {X : KX} {J : KJ} {t : Nat} (C : Cx X RX1 cX1_gather 3) (K : Kx X) (hnL : xnL X = 5) {I : KI} {n c : Nat} {ki co ag re : Nat → Nat} {T : Nat → Nat → Nat} (hk : cKd I c ki co ag re T) (ok : okKd n c ki co ag re T) (hn7 : n ≤ 7) {set : Nat} (hset : set < 2 ^ c) (hN : ∀ I1, (∀ q, ¬ (50 ≤ q ∧ q ≤ 53) → I1 q = I q) → (∀ g, g < 7 → I1 52 g = nI (rdG set c co re g) ∧ I1 53 g = nI (pcG set c co ki ag g)) → Z X 0 0 (V X I1 J (rf t)) 104 [(0, .ref (xad X 50))] []) : ∀ (f x : Nat) (I1 : KI), 10 - x < f → (x ≤ 10 ∧ (∀ q, ¬ (50 ≤ q ∧ q ≤ 53) → I1 q = I q) ∧ ∀ g, g < 7 → I1 52 g = nI (mxS (atS set co g) re x) ∧ I1 53 g = nI (mxS (atS set co g) (fun x => paceS (ki x) (ag x)) x)) → Z X 0 0 (V X I1 J (rf t)) 30 [(3, .int (nI x)), (0, .ref (xad X 50)), (1, .ref (xad X 48)), (2, .int (nI set))] [] := by
  intro f
  induction f with
  | zero => intro x I1 h; omega
  | succ f ih =>
    intro x I1 hf hi
    obtain ⟨hx10, hfr, hz⟩ := hi
    have hc10 := ok.1
    have hs31 : set < 2 ^ 31 := by
      have : 2 ^ c ≤ 2 ^ 10 := Nat.pow_le_pow_right (by decide) hc10
      omega
    refine z_iload_n (n := 31) C 0 dX1_gather_30 rfl rfl ?_
    refine z_bipush (n := 33) (v := 10) C dX1_gather_31 rfl rfl ?_
    refine z_icmp_ge (tgt := 104) (n := 36) C dX1_gather_33 rfl rfl (fun c33 => ?_) (fun c33 => ?_)
    · refine z_sub (L' := [(0, _)]) [1] rfl ?_
      rw [fa_le, nI_toInt (by omega)] at c33
      simp only [Int32.reduceToInt] at c33
      have e : x = c + (10 - c) := by omega
      refine hN I1 hfr (fun g hg => ?_)
      have h1 := hz g hg
      rw [e, mxS_ext (fun y hy => atS_hi hset g y hy), mxS_ext (fun y hy => atS_hi hset g y hy)] at h1
      exact h1
    · rw [fa_le, nI_toInt (by omega)] at c33
      simp only [Int32.reduceToInt] at c33
      have hx : x < 10 := by omega
      refine z_iload_n (n := 37) C 3 dX1_gather_36 rfl rfl ?_
      refine z_iload_n (n := 38) C 0 dX1_gather_37 rfl rfl ?_
      refine z_ishr (n := 39) C dX1_gather_38 rfl ?_
      refine z_iconst (n := 40) (v := 1) C dX1_gather_39 rfl rfl ?_
      refine z_iand (n := 41) C dX1_gather_40 rfl ?_
      rw [bt_nI hs31 (by omega)]
      refine z_if_eq (tgt := 98) (n := 44) C dX1_gather_41 rfl rfl (fun c41 => ?_) (fun c41 => ?_)
      · refine z_iincG (n := 101) (c := 1) (L' := [(3, _), (0, _), (1, _), (2, _)]) C 0 dX1_gather_98 rfl rfl rfl (by rw [hnL]; decide) rfl ?_
        refine z_goto (n := 30) C dX1_gather_101 rfl ?_
        have hbit : set.testBit x = false := by
          cases hb : set.testBit x with
          | false => rfl
          | true => rw [hb] at c41; exact absurd c41 (by decide)
        rw [nI_1]
        exact ih (x + 1) _ (by omega) ⟨by omega, hfr, fun g hg => by
          rw [mxS, mxS, if_neg (by unfold atS; rw [hbit]; simp), if_neg (by unfold atS; rw [hbit]; simp)]
          exact hz g hg⟩
      · have hbit : set.testBit x = true := by
          cases hb : set.testBit x with
          | true => rfl
          | false => rw [hb] at c41; exact absurd rfl c41
        have hxc : x < c := by
          by_cases e : x < c
          · exact e
          · rw [Nat.testBit_lt_two_pow (Nat.lt_of_lt_of_le hset (Nat.pow_le_pow_right (by decide) (by omega)))] at hbit; cases hbit
        have hkx := hk.2 x hxc
        have hbx := ok.2.1 x hxc
        have hkf : I1 (75 + x) = I (75 + x) := hfr _ (by omega)
        have hgx := hz (co x) (by omega)
        have hrl : mxS (atS set co (co x)) re x ≤ 60 := mxS_le x (fun y hy hq => by have := ok.2.1 y (by omega); omega)
        have hpl : mxS (atS set co (co x)) (fun x => paceS (ki x) (ag x)) x ≤ 4 := mxS_le x (fun y _ _ => (paceS_b _ _).2)
        have hpb := paceS_b (ki x) (ag x)
        refine z_aload_n (n := 45) C 2 dX1_gather_44 rfl rfl ?_
        refine z_iload_n (n := 46) C 0 dX1_gather_45 rfl rfl ?_
        refine z_aaldN (n := 47) (q := (75 + x)) (ci := 0) C K x dX1_gather_46 rfl (by decide) sh_48 (by decide) rfl hx (by decide) (rf_children hx) ?_
        refine z_getI (n := 50) C K fF_RX1_25 dX1_gather_47 rfl (sh_child hx) (lt_child hx) ?_
        rw [hkf, hkx.2.1]
        refine z_istore (n := 52) (L' := [(4, _), (3, _), (0, _), (1, _), (2, _)]) C dX1_gather_50 rfl (by rw [hnL]; decide) rfl ?_
        refine z_aload_n (n := 53) C 2 dX1_gather_52 rfl rfl ?_
        refine z_getR (n := 56) (q := 52) C K fF_RX1_19 dX1_gather_53 rfl rfl sh_50 (by decide) rfl ?_
        refine z_iload (n := 58) C 0 dX1_gather_56 rfl rfl ?_
        refine z_aload_n (n := 59) C 2 dX1_gather_58 rfl rfl ?_
        refine z_getR (n := 62) (q := 52) C K fF_RX1_19 dX1_gather_59 rfl rfl sh_50 (by decide) rfl ?_
        refine z_iload (n := 64) C 0 dX1_gather_62 rfl rfl ?_
        refine z_ialdN (n := 65) C K (co x) dX1_gather_64 rfl sh_52 (by decide) rfl (by omega) (by decide) ?_
        rw [hgx.1]
        refine z_aload_n (n := 66) C 3 dX1_gather_65 rfl rfl ?_
        refine z_iload_n (n := 67) C 1 dX1_gather_66 rfl rfl ?_
        refine z_aaldN (n := 68) (q := (75 + x)) (ci := 0) C K x dX1_gather_67 rfl (by decide) sh_48 (by decide) rfl hx (by decide) (rf_children hx) ?_
        refine z_getI (n := 71) C K fF_RX1_30 dX1_gather_68 rfl (sh_child hx) (lt_child hx) ?_
        rw [hkf, hkx.2.2.2.1]
        refine z_max (n := 74) C dX1_gather_71 rfl kM_RX1_32 (by decide) hR0 rfl ?_
        rw [max_nI (by omega) (by omega)]
        refine z_iastN (n := 75) C K (co x) dX1_gather_74 rfl sh_52 (by decide) rfl (by omega) (by decide) ?_
        refine z_aload_n (n := 76) C 2 dX1_gather_75 rfl rfl ?_
        refine z_getR (n := 79) (q := 53) C K fF_RX1_22 dX1_gather_76 rfl rfl sh_50 (by decide) rfl ?_
        refine z_iload (n := 81) C 0 dX1_gather_79 rfl rfl ?_
        refine z_aload_n (n := 82) C 2 dX1_gather_81 rfl rfl ?_
        refine z_getR (n := 85) (q := 53) C K fF_RX1_22 dX1_gather_82 rfl rfl sh_50 (by decide) rfl ?_
        refine z_iload (n := 87) C 0 dX1_gather_85 rfl rfl ?_
        refine z_ialdN (n := 88) C K (co x) dX1_gather_87 rfl sh_53 (by decide) rfl (by omega) (by decide) ?_
        rw [upI_row _ _ (by decide), hgx.2]
        refine z_aload_n (n := 89) C 3 dX1_gather_88 rfl rfl ?_
        refine z_iload_n (n := 90) C 1 dX1_gather_89 rfl rfl ?_
        refine z_aaldN (n := 91) (q := (75 + x)) (ci := 0) C K x dX1_gather_90 rfl (by decide) sh_48 (by decide) rfl hx (by decide) (rf_children hx) ?_
        refine z_vi_0 (n := 94) (d' := 1) C K dX1_gather_91 rfl yk_X0_pace yv_X0_pace kM_RX1_38 (by decide) hR0 rfl rfl (sh_child hx) (by decide) (lt_child hx) ?_
        refine c_X0_pace hx (by rw [upI_row _ _ (by omega), hkf]; exact hkx.1) (by rw [upI_row _ _ (by omega), hkf]; exact hkx.2.2.1) (by omega) (by omega) ?_
        refine z_max (n := 97) C dX1_gather_94 rfl kM_RX1_32 (by decide) hR0 rfl ?_
        rw [max_nI (by omega) (by omega)]
        refine z_iastN (n := 98) C K (co x) dX1_gather_97 rfl sh_53 (by decide) rfl (by omega) (by decide) ?_
        refine z_iincG (n := 101) (c := 1) (L' := [(3, _), (4, _), (0, _), (1, _), (2, _)]) C 1 dX1_gather_98 rfl rfl rfl (by rw [hnL]; decide) rfl ?_
        refine z_goto (n := 30) C dX1_gather_101 rfl ?_
        refine z_sub (L' := [(3, _), (0, _), (1, _), (2, _)]) [0, 2, 3, 4] rfl ?_
        rw [nI_1]
        refine ih (x + 1) _ (by omega) ⟨by omega, fun q hq => by rw [upI_row _ _ (by omega), upI_row _ _ (by omega)]; exact hfr q hq, fun g hg => ?_⟩
        rw [mxS, mxS]
        by_cases e : co x = g
        · subst e
          rw [if_pos (by unfold atS; rw [hbit]; simp), if_pos (by unfold atS; rw [hbit]; simp)]
          exact ⟨by rw [upI_p _ _ (by decide), upI_same], upI_same _ _ _ _⟩
        · rw [if_neg (by unfold atS; simp [e]), if_neg (by unfold atS; simp [e])]
          have e2 : g ≠ co x := fun q => e q.symm
          rw [upI_k _ _ e2, upI_k _ _ e2, upI_k _ _ e2, upI_k _ _ e2]
          exact hz g hg
set_option maxHeartbeats 4000000 in
set_option maxRecDepth 100000 in
theorem c_X1_gather {ad : Nat → Nat} {I : KI} {J : KJ} {t : Nat} {n c : Nat} {ki co ag re : Nat → Nat} {T : Nat → Nat → Nat} (hk : cKd I c ki co ag re T) (ok : okKd n c ki co ag re T) (hn7 : n ≤ 7) {set : Nat} (hset : set < 2 ^ c) {Q : KI → KJ → KR → Prop} (hQ : ∀ I', (∀ q, ¬ (50 ≤ q ∧ q ≤ 53) → I' q = I q) → cGt I' (pcG set c co ki ag) (rdG set c co re) (gL (pcG set c co ki ag) 7) → Q I' J (rf t)) : Mv 3 yX1_gather (wm yX1_gather cX1_gather 5 none) [.ref (ad 50), .ref (ad 48), .int (nI set)] ad I J (rf t) Q := by
  refine mv_of (own := RX1) yk_X1_gather rfl (Nat.le_of_ble_eq_true rfl) rfl (fun X hA hnL C K E => ?_)
  subst hA
  refine z_iconst (n := 1) (v := 0) C dX1_gather_0 rfl rfl ?_
  refine z_istore_n (n := 2) (L' := [(3, _), (0, _), (1, _), (2, _)]) C dX1_gather_1 rfl (by rw [hnL]; decide) rfl ?_
  refine la_X1_gather C K hnL (fun I1 hf1 hz1 => ?_) 8 0 I (by omega) ⟨by omega, fun _ _ => rfl, fun x hx => by omega⟩
  refine z_iconst (n := 29) (v := 0) C dX1_gather_28 rfl rfl ?_
  refine z_istore_n (n := 30) (L' := [(3, _), (0, _), (1, _), (2, _)]) C dX1_gather_29 rfl (by rw [hnL]; decide) rfl ?_
  refine lb_X1_gather C K hnL (hk.fr ok.1 (by rw [hf1 0 (by decide)]) (fun p h1 h2 => hf1 p (by omega))) ok hn7 hset (fun I2 hf2 hz2 => ?_) 11 0 I1 (by omega) ⟨by omega, fun _ _ => rfl, hz1⟩
  refine z_aload_n (n := 105) C 0 dX1_gather_104 rfl rfl ?_
  refine z_vv_0 (n := 108) (d' := 2) C K dX1_gather_105 rfl yk_X1_setFirstOrder yv_X1_setFirstOrder kM_RX1_41 (by decide) hR0 rfl rfl sh_50 (by decide) (by decide) ?_
  refine c_X1_setFirstOrder (pc := pcG set c co ki ag) (rdy := rdG set c co re) (fun g => pcG_le _ _ _ _ _ _) hz2 (fun I3 hf3 h3 => ?_)
  refine z_vret C E dX1_gather_108 ?_
  exact hQ I3 (fun q hq => by rw [hf3 q hq, hf2 q hq, hf1 q hq]) h3
