set_option maxHeartbeats 4000000 in
set_option maxRecDepth 100000 in
theorem lb_X10_laySetGates {X : KX} {t : Nat} (C : Cx X RX10 cX10_laySetGates 3) (K : Kx X) (hnL : xnL X = 6) {J : KJ} {Q : Int32 → KI → KJ → KR → Prop} (E : Ei X .int Q) {I : KI} {set L : Nat} {av : Int32} (hL : L ≤ 7) (hQ : Q (nI (L ^ L)) I J (rf t)) : ∀ (f j : Nat), L - j < f → j ≤ L → Z X 0 0 (V X I J (rf t)) 55 [(5, .int (nI j)), (4, .int (nI (L ^ j))), (3, .int (nI L)), (2, .int av), (0, .ref (xad X 85)), (1, .int (nI set))] [] := by
  intro f
  induction f with
  | zero => intro j h; omega
  | succ f ih =>
    intro j hf hi

    refine z_iload (n := 57) C 0 dX10_laySetGates_55 rfl rfl ?_
    refine z_iload_n (n := 58) C 2 dX10_laySetGates_57 rfl rfl ?_
    refine z_icmp_ge (tgt := 73) (n := 61) C dX10_laySetGates_58 rfl rfl (fun c58 => ?_) (fun c58 => ?_)
    · refine z_iload (n := 75) C 1 dX10_laySetGates_73 rfl rfl ?_
      refine z_iret C E dX10_laySetGates_75 ?_
      rw [fa_le, nI_toInt (by omega), nI_toInt (by omega)] at c58
      have e : j = L := by omega
      subst e
      exact hQ
    · rw [fa_le, nI_toInt (by omega), nI_toInt (by omega)] at c58
      refine z_iload (n := 63) C 1 dX10_laySetGates_61 rfl rfl ?_
      refine z_iload_n (n := 64) C 2 dX10_laySetGates_63 rfl rfl ?_
      refine z_imul (n := 65) C dX10_laySetGates_64 rfl ?_
      rw [mul_nI, ← Nat.pow_succ]
      refine z_istore (n := 67) (L' := [(4, _), (5, _), (3, _), (2, _), (0, _), (1, _)]) C dX10_laySetGates_65 rfl (by rw [hnL]; decide) rfl ?_
      refine z_iincG (n := 70) (c := 1) (L' := [(5, _), (4, _), (3, _), (2, _), (0, _), (1, _)]) C 1 dX10_laySetGates_67 rfl rfl rfl (by rw [hnL]; decide) rfl ?_
      refine z_goto (n := 55) C dX10_laySetGates_70 rfl ?_
      rw [nI_1]
      exact ih (j + 1) (by omega) (by omega)
set_option maxHeartbeats 4000000 in
set_option maxRecDepth 100000 in
theorem la_X10_laySetGates {X : KX} {t : Nat} (C : Cx X RX10 cX10_laySetGates 3) (K : Kx X) (hnL : xnL X = 6) {J : KJ} {Q : Int32 → KI → KJ → KR → Prop} (E : Ei X .int Q) {I : KI} {n : Nat} {c : Nat} {ki co ag re : Nat → Nat} {T : Nat → Nat → Nat} (hk : mKd I c ki co ag re T) (okk : okKd n c ki co ag re T) (hn7 : n ≤ 7) {set : Nat} (hset : set < 2 ^ 31) (hQ : ∀ I', (∀ q, q ≠ 85 → q ≠ 104 → I' q = I q) → (∀ j, j ≠ 27 → I' 85 j = I 85 j) → mSg I' (gL (pcG set c co ki ag) 7) → Q (nI ((gL (pcG set c co ki ag) 7).length ^ (gL (pcG set c co ki ag) 7).length)) I' J (rf t)) : ∀ (f g : Nat) (I1 : KI), 7 - g < f → (g ≤ 7 ∧ (∀ q, q ≠ 104 → I1 q = I q) ∧ ordA I1 104 (gL (pcG set c co ki ag) g)) → Z X 0 0 (V X I1 J (rf t)) 11 [(4, .int (nI g)), (3, .int (nI (gL (pcG set c co ki ag) g).length)), (2, .int (nI (cmS set co c))), (0, .ref (xad X 85)), (1, .int (nI set))] [] := by
  intro f
  induction f with
  | zero => intro g I1 h; omega
  | succ f ih =>
    intro g I1 hf hi
    obtain ⟨hg7, hfr, ho⟩ := hi
    have hlen := gL_len (pcG set c co ki ag) g
    have hcm := cmS_lt31 okk hn7 set
    have hbt := cmS_gate (set := set) (c := c) (co := co) (ki := ki) (ag := ag) (g := g)
    refine z_iload (n := 13) C 0 dX10_laySetGates_11 rfl rfl ?_
    refine z_bipush (n := 15) (v := 7) C dX10_laySetGates_13 rfl rfl ?_
    refine z_icmp_ge (tgt := 44) (n := 18) C dX10_laySetGates_15 rfl rfl (fun c15 => ?_) (fun c15 => ?_)
    · rw [fa_le, nI_toInt (by omega)] at c15
      simp only [Int32.reduceToInt] at c15
      have e : g = 7 := by omega
      subst e
      refine z_aload_n (n := 45) C 3 dX10_laySetGates_44 rfl rfl ?_
      refine z_iload_n (n := 46) C 1 dX10_laySetGates_45 rfl rfl ?_
      refine z_putI (n := 49) C K fF_RX10_181 dX10_laySetGates_46 rfl sh_85 (by decide) ?_
      refine z_iconst (n := 50) (v := 1) C dX10_laySetGates_49 rfl rfl ?_
      refine z_istore (n := 52) (L' := [(4, _), (3, _), (2, _), (0, _), (1, _)]) C dX10_laySetGates_50 rfl (by rw [hnL]; decide) rfl ?_
      refine z_iconst (n := 53) (v := 0) C dX10_laySetGates_52 rfl rfl ?_
      refine z_istore (n := 55) (L' := [(5, _), (4, _), (3, _), (2, _), (0, _), (1, _)]) C dX10_laySetGates_53 rfl (by rw [hnL]; decide) rfl ?_
      exact lb_X10_laySetGates C K hnL E hlen (hQ _ (fun q q1 q2 => by rw [upI_row _ _ q1]; exact hfr q q2) (fun j hj => by rw [upI_k _ _ hj, hfr 85 (by decide)]) ⟨upI_same _ _ _ _, ho.fr (upI_row _ _ (by decide))⟩) 8 0 (by omega) (Nat.zero_le _)
    · rw [fa_le, nI_toInt (by omega)] at c15
      simp only [Int32.reduceToInt] at c15
      refine z_iload_n (n := 19) C 2 dX10_laySetGates_18 rfl rfl ?_
      refine z_iload (n := 21) C 0 dX10_laySetGates_19 rfl rfl ?_
      refine z_si_2 (n := 24) (d' := 1) C K dX10_laySetGates_21 rfl yk_X10_has kT_yX10_has kM_RX10_178 (by decide) hR0 rfl ?_
      refine c_X10_has (by omega) (by omega) (fun b21 => ?_) (fun b21 => ?_)
      · refine z_ifF_eq (n := 27) (tgt := 38) C (by decide) dX10_laySetGates_24 rfl rfl ?_
        refine z_aload_n (n := 28) C 3 dX10_laySetGates_27 rfl rfl ?_
        refine z_getR (n := 31) (q := 104) C K fF_RX10_65 dX10_laySetGates_28 rfl rfl sh_85 (by decide) rfl ?_
        refine z_iload_n (n := 32) C 1 dX10_laySetGates_31 rfl rfl ?_
        refine z_iload (n := 34) C 0 dX10_laySetGates_32 rfl rfl ?_
        refine z_iastN (n := 35) C K (gL (pcG set c co ki ag) g).length dX10_laySetGates_34 rfl sh_104 (by decide) rfl (by omega) (by decide) ?_
        refine z_iincG (n := 38) (c := 1) (L' := [(3, _), (4, _), (2, _), (0, _), (1, _)]) C 1 dX10_laySetGates_35 rfl rfl rfl (by rw [hnL]; decide) rfl ?_
        refine z_iincG (n := 41) (c := 1) (L' := [(4, _), (3, _), (2, _), (0, _), (1, _)]) C 1 dX10_laySetGates_38 rfl rfl rfl (by rw [hnL]; decide) rfl ?_
        refine z_goto (n := 11) C dX10_laySetGates_41 rfl ?_
        rw [hbt] at b21
        have eg : gL (pcG set c co ki ag) (g + 1) = gL (pcG set c co ki ag) g ++ [g] := by rw [gL, if_pos (of_decide_eq_true b21)]
        have el : nI (gL (pcG set c co ki ag) g).length + 1 = nI (gL (pcG set c co ki ag) (g + 1)).length := by rw [eg, List.length_append, nI_1]; rfl
        rw [nI_1, el]
        exact ih (g + 1) _ (by omega) ⟨by omega, fun q hq => by rw [upI_row _ _ hq]; exact hfr q hq, by rw [eg]; exact ho.snoc⟩
      · refine z_ifT_eq (tgt := 38) C (by decide) dX10_laySetGates_24 rfl ?_
        refine z_iincG (n := 41) (c := 1) (L' := [(4, _), (3, _), (2, _), (0, _), (1, _)]) C 0 dX10_laySetGates_38 rfl rfl rfl (by rw [hnL]; decide) rfl ?_
        refine z_goto (n := 11) C dX10_laySetGates_41 rfl ?_
        rw [hbt] at b21
        have eg : gL (pcG set c co ki ag) (g + 1) = gL (pcG set c co ki ag) g := by rw [gL, if_neg (of_decide_eq_false b21)]
        rw [nI_1, ← eg]
        exact ih (g + 1) _ (by omega) ⟨by omega, hfr, by rw [eg]; exact ho⟩
set_option maxHeartbeats 4000000 in
set_option maxRecDepth 100000 in
theorem c_X10_laySetGates {ad : Nat → Nat} {I : KI} {J : KJ} {t : Nat} {n : Nat} {c : Nat} {ki co ag re : Nat → Nat} {T : Nat → Nat → Nat} (hk : mKd I c ki co ag re T) (okk : okKd n c ki co ag re T) (hn7 : n ≤ 7) {set : Nat} (hset : set < 2 ^ 31)  {Q : Int32 → KI → KJ → KR → Prop} (hQ : ∀ I', (∀ q, q ≠ 85 → q ≠ 104 → I' q = I q) → (∀ j, j ≠ 27 → I' 85 j = I 85 j) → mSg I' (gL (pcG set c co ki ag) 7) → Q (nI ((gL (pcG set c co ki ag) 7).length ^ (gL (pcG set c co ki ag) 7).length)) I' J (rf t))  : Mi 3 yX10_laySetGates (wm yX10_laySetGates cX10_laySetGates 6 (some .int)) [.ref (ad 85), .int (nI set)] ad I J (rf t) Q := by
  refine mi_of (own := RX10) yk_X10_laySetGates rfl (Nat.le_of_ble_eq_true rfl) rfl (fun X hA hnL C K E => ?_)
  subst hA
  refine z_aload_n (n := 1) C 0 dX10_laySetGates_0 rfl rfl ?_
  refine z_iload_n (n := 2) C 1 dX10_laySetGates_1 rfl rfl ?_
  refine z_vi_1 (n := 5) (d' := 2) C K dX10_laySetGates_2 rfl yk_X10_cornersOf yv_X10_cornersOf kM_RX10_208 (by decide) hR0 rfl rfl sh_85 (by decide) (by decide) ?_
  refine c_X10_cornersOf hk okk hn7 hset ?_
  refine z_istore_n (n := 6) (L' := [(2, _), (0, _), (1, _)]) C dX10_laySetGates_5 rfl (by rw [hnL]; decide) rfl ?_
  refine z_iconst (n := 7) (v := 0) C dX10_laySetGates_6 rfl rfl ?_
  refine z_istore_n (n := 8) (L' := [(3, _), (2, _), (0, _), (1, _)]) C dX10_laySetGates_7 rfl (by rw [hnL]; decide) rfl ?_
  refine z_iconst (n := 9) (v := 0) C dX10_laySetGates_8 rfl rfl ?_
  refine z_istore (n := 11) (L' := [(4, _), (3, _), (2, _), (0, _), (1, _)]) C dX10_laySetGates_9 rfl (by rw [hnL]; decide) rfl ?_
  exact la_X10_laySetGates C K hnL E hk okk hn7 hset hQ 8 0 I (by omega) ⟨by omega, fun _ _ => rfl, fun k hk => by rw [gL] at hk; simp at hk⟩
set_option maxHeartbeats 4000000 in
set_option maxRecDepth 100000 in
theorem l_X10_layOrder {X : KX} {t : Nat} (C : Cx X RX10 cX10_layOrder 2) (K : Kx X) (hnL : xnL X = 6) {J : KJ} {Q : Int32 → KI → KJ → KR → Prop} (E : Ei X .boolean Q) {I : KI} {G : List Nat} (hG : mSg I G) (hL4 : G.length ≤ 4) {code : Nat} (hcode : code < 256) (h1 : ∀ q I', loS G.length G.length code 0 = some q → (∀ x, x ≠ 102 → I' x = I x) → (q.length = G.length → mGt I' (od G q)) → Q 1 I' J (rf t)) (h0 : ∀ I', loS G.length G.length code 0 = none → (∀ x, x ≠ 102 → I' x = I x) → Q 0 I' J (rf t)) : ∀ (f k left had : Nat) (sfx : List Nat) (I1 : KI), k < f → (k ≤ G.length ∧ left < 256 ∧ had < 16 ∧ (∀ x, x ≠ 102 → I1 x = I x) ∧ sfx.length = G.length - k ∧ loS G.length G.length code 0 = (loS G.length k left had).map (fun l => l ++ sfx) ∧ ∀ i, k ≤ i → i < G.length → I1 102 i = nI (G.getD (sfx.getD (i - k) 0) 0)) → Z X 0 0 (V X I1 J (rf t)) 12 [(4, .int (nI k + (-1))), (3, .int (nI had)), (2, .int (nI left)), (0, .ref (xad X 85)), (1, .int (nI code))] [] := by
  intro f
  induction f with
  | zero => intro k left had sfx I1 h; omega
  | succ f ih =>
    intro k left had sfx I1 hf hi
    obtain ⟨hkL, hleft, hhad, hfr, hsl, hlo, hv⟩ := hi
    have hG1 : mSg I1 G := hG.fr (by rw [hfr 85 (by decide)]) (hfr 104 (by decide))
    refine z_iload (n := 14) C 0 dX10_layOrder_12 rfl rfl ?_
    refine z_if_lt (tgt := 70) (n := 17) C dX10_layOrder_14 rfl rfl (fun c14 => ?_) (fun c14 => ?_)
    · refine z_iconst (n := 71) (v := 1) C dX10_layOrder_70 rfl rfl ?_
      refine z_zret C E dX10_layOrder_71 (by decide) ?_
      rw [fa_lt, nI_m1 _ (by omega)] at c14
      simp only [Int32.reduceToInt] at c14
      have e : k = 0 := by omega
      subst e
      rw [loS] at hlo
      exact h1 sfx I1 hlo hfr (fun hq => ⟨by rw [od_len, hq]; exact hG1.1, fun i hi => by
        rw [od_len] at hi
        rw [hv i (Nat.zero_le _) (by omega), od_get hi, Nat.sub_zero]⟩)
    · rw [fa_lt, nI_m1 _ (by omega)] at c14
      simp only [Int32.reduceToInt] at c14
      obtain ⟨k, rfl⟩ : ∃ k2, k = k2 + 1 := ⟨k - 1, by omega⟩
      rw [nI_prd]
      refine z_iload_n (n := 18) C 2 dX10_layOrder_17 rfl rfl ?_
      refine z_aload_n (n := 19) C 3 dX10_layOrder_18 rfl rfl ?_
      refine z_getI (n := 22) C K fF_RX10_181 dX10_layOrder_19 rfl sh_85 (by decide) ?_
      rw [hG1.1]
      refine z_irem (n := 23) C dX10_layOrder_22 rfl (fun e => by have := nI_inj (b := 0) e (by omega) (by decide); omega) ?_
      rw [pk_rem (by omega) (by omega) (by omega)]
      obtain ⟨g, eg⟩ : ∃ g, left % G.length = g := ⟨_, rfl⟩
      have hg : g < G.length := by rw [← eg]; exact Nat.mod_lt _ (by omega)
      rw [loS, eg] at hlo
      rw [eg]
      refine z_istore (n := 25) (L' := [(5, _), (4, _), (3, _), (2, _), (0, _), (1, _)]) C dX10_layOrder_23 rfl (by rw [hnL]; decide) rfl ?_
      refine z_iload_n (n := 26) C 3 dX10_layOrder_25 rfl rfl ?_
      refine z_aload_n (n := 27) C 4 dX10_layOrder_26 rfl rfl ?_
      refine z_getI (n := 30) C K fF_RX10_181 dX10_layOrder_27 rfl sh_85 (by decide) ?_
      rw [hG1.1]
      refine z_idiv (n := 31) C dX10_layOrder_30 rfl (fun e => by have := nI_inj (b := 0) e (by omega) (by decide); omega) ?_
      rw [pk_div (by omega) (by omega) (by omega)]
      have hdl : left / G.length ≤ left := Nat.div_le_self _ _
      refine z_istore_n (n := 32) (L' := [(2, _), (5, _), (4, _), (3, _), (0, _), (1, _)]) C dX10_layOrder_31 rfl (by rw [hnL]; decide) rfl ?_
      refine z_iload_n (n := 33) C 3 dX10_layOrder_32 rfl rfl ?_
      refine z_iload (n := 35) C 1 dX10_layOrder_33 rfl rfl ?_
      refine z_si_2 (n := 38) (d' := 1) C K dX10_layOrder_35 rfl yk_X10_has kT_yX10_has kM_RX10_178 (by decide) hR0 rfl ?_
      refine c_X10_has (by omega) (by omega) (fun b35 => ?_) (fun b35 => ?_)
      · refine z_ifF_eq (n := 41) (tgt := 43) C (by decide) dX10_layOrder_38 rfl rfl ?_
        refine z_iconst (n := 42) (v := 0) C dX10_layOrder_41 rfl rfl ?_
        refine z_zret C E dX10_layOrder_42 (by decide) ?_
        exact h0 I1 (by rw [hlo, if_pos b35]; rfl) hfr
      · refine z_ifT_eq (tgt := 43) C (by decide) dX10_layOrder_38 rfl ?_
        refine z_iload_n (n := 44) C 3 dX10_layOrder_43 rfl rfl ?_
        refine z_iconst (n := 45) (v := 1) C dX10_layOrder_44 rfl rfl ?_
        refine z_iload (n := 47) C 1 dX10_layOrder_45 rfl rfl ?_
        refine z_ishl (n := 48) C dX10_layOrder_47 rfl ?_
        rw [one_shl g (by omega)]
        refine z_ior (n := 49) C dX10_layOrder_48 rfl ?_
        rw [or_nI]
        refine z_istore_n (n := 50) (L' := [(3, _), (2, _), (5, _), (4, _), (0, _), (1, _)]) C dX10_layOrder_49 rfl (by rw [hnL]; decide) rfl ?_
        refine z_aload_n (n := 51) C 4 dX10_layOrder_50 rfl rfl ?_
        refine z_getR (n := 54) (q := 102) C K fF_RX10_59 dX10_layOrder_51 rfl rfl sh_85 (by decide) rfl ?_
        refine z_iload (n := 56) C 3 dX10_layOrder_54 rfl rfl ?_
        refine z_aload_n (n := 57) C 4 dX10_layOrder_56 rfl rfl ?_
        refine z_getR (n := 60) (q := 104) C K fF_RX10_65 dX10_layOrder_57 rfl rfl sh_85 (by decide) rfl ?_
        refine z_iload (n := 62) C 2 dX10_layOrder_60 rfl rfl ?_
        refine z_ialdN (n := 63) C K g dX10_layOrder_62 rfl sh_104 (by decide) rfl (by omega) (by decide) ?_
        rw [hG1.2 g hg]
        refine z_iastN (n := 64) C K k dX10_layOrder_63 rfl sh_102 (by decide) rfl (by omega) (by decide) ?_
        refine z_iincG (n := 67) (c := (-1)) (L' := [(4, _), (3, _), (2, _), (5, _), (0, _), (1, _)]) C 3 dX10_layOrder_64 rfl rfl rfl (by rw [hnL]; decide) rfl ?_
        refine z_goto (n := 12) C dX10_layOrder_67 rfl ?_
        refine z_sub (L' := [(4, _), (3, _), (2, _), (0, _), (1, _)]) [0, 1, 2, 4, 5] rfl ?_
        rw [if_neg (fun e => by rw [b35] at e; cases e)] at hlo
        have h2g : 2 ^ g < 2 ^ 4 := Nat.pow_lt_pow_right (by decide) (by omega)
        refine ih k (left / G.length) (had ||| 2 ^ g) (g :: sfx) _ (by omega) ⟨by omega, by omega, Nat.or_lt_two_pow (n := 4) hhad h2g, fun x hx => by rw [upI_row _ _ hx]; exact hfr x hx, by rw [List.length_cons, hsl]; omega, ?_, fun i hi hi2 => ?_⟩
        · rw [hlo, Option.map_map]
          congr 1
          funext l
          show l ++ [g] ++ sfx = l ++ g :: sfx
          rw [List.append_assoc]; rfl
        · by_cases e : i = k
          · subst e; rw [upI_same, Nat.sub_self]; rfl
          · rw [upI_k _ _ e, hv i (by omega) hi2, show i - k = (i - (k + 1)) + 1 by omega]; rfl
set_option maxHeartbeats 4000000 in
set_option maxRecDepth 100000 in
theorem c_X10_layOrder {ad : Nat → Nat} {I : KI} {J : KJ} {t : Nat} {G : List Nat} (hG : mSg I G) (hL4 : G.length ≤ 4) {code : Nat} (hcode : code < 256)  {Q : Int32 → KI → KJ → KR → Prop} (h1 : ∀ q I', loS G.length G.length code 0 = some q → (∀ x, x ≠ 102 → I' x = I x) → (q.length = G.length → mGt I' (od G q)) → Q 1 I' J (rf t)) (h0 : ∀ I', loS G.length G.length code 0 = none → (∀ x, x ≠ 102 → I' x = I x) → Q 0 I' J (rf t))  : Mi 2 yX10_layOrder (wm yX10_layOrder cX10_layOrder 6 (some .boolean)) [.ref (ad 85), .int (nI code)] ad I J (rf t) Q := by
  refine mi_of (own := RX10) yk_X10_layOrder rfl (Nat.le_of_ble_eq_true rfl) rfl (fun X hA hnL C K E => ?_)
  subst hA
  refine z_iload_n (n := 1) C 1 dX10_layOrder_0 rfl rfl ?_
  refine z_istore_n (n := 2) (L' := [(2, _), (0, _), (1, _)]) C dX10_layOrder_1 rfl (by rw [hnL]; decide) rfl ?_
  refine z_iconst (n := 3) (v := 0) C dX10_layOrder_2 rfl rfl ?_
  refine z_istore_n (n := 4) (L' := [(3, _), (2, _), (0, _), (1, _)]) C dX10_layOrder_3 rfl (by rw [hnL]; decide) rfl ?_
  refine z_aload_n (n := 5) C 2 dX10_layOrder_4 rfl rfl ?_
  refine z_getI (n := 8) C K fF_RX10_181 dX10_layOrder_5 rfl sh_85 (by decide) ?_
  refine z_iconst (n := 9) (v := 1) C dX10_layOrder_8 rfl rfl ?_
  refine z_isub (n := 10) C dX10_layOrder_9 rfl ?_
  rw [hG.1, sub_one]
  refine z_istore (n := 12) (L' := [(4, _), (3, _), (2, _), (0, _), (1, _)]) C dX10_layOrder_10 rfl (by rw [hnL]; decide) rfl ?_
  exact l_X10_layOrder C K hnL E hG hL4 hcode h1 h0 (G.length + 1) G.length code 0 [] I (by omega) ⟨Nat.le_refl _, hcode, by decide, fun _ _ => rfl, by rw [Nat.sub_self]; rfl, by simp, fun i hi hi2 => by omega⟩
set_option maxHeartbeats 4000000 in
set_option maxRecDepth 100000 in
theorem l_X10_mayStart {X : KX} {t : Nat} (C : Cx X RX10 cX10_mayStart 4) (K : Kx X) (hnL : xnL X = 7) {J : KJ} {Q : Int32 → KI → KJ → KR → Prop} (E : Ei X .boolean Q) {I : KI} {n r s : Nat} {rd : Nat → Nat → Nat} (hw : mTw I n r s rd) (ok : okTw n r s rd) {C0 : Nat → Nat → Nat} (hc : okW n r rd C0) (hW : mWy I n C0) {c : Nat} {ki co ag re : Nat → Nat} {T : Nat → Nat → Nat} (hk : mKd I c ki co ag re T) (okk : okKd n c ki co ag re T) {set a : Nat} (hset : set < 2 ^ c) (ha : a < n) (hL4 : (gL (pcG set c co ki ag) 7).length ≤ 4) (h1 : ∀ I', (∀ q, q ≠ 85 → q ≠ 102 → q ≠ 104 → I' q = I q) → (∀ j, j ≠ 27 → I' 85 j = I 85 j) → stB C0 s a (gL (pcG set c co ki ag) 7) = true → Q 1 I' J (rf t)) (h0 : ∀ I', (∀ q, q ≠ 85 → q ≠ 102 → q ≠ 104 → I' q = I q) → (∀ j, j ≠ 27 → I' 85 j = I 85 j) → ¬ stB C0 s a (gL (pcG set c co ki ag) 7) = true → Q 0 I' J (rf t)) : ∀ (f code mv : Nat) (I1 : KI), (gL (pcG set c co ki ag) 7).length ^ (gL (pcG set c co ki ag) 7).length - code < f → ((∀ q, q ≠ 85 → q ≠ 102 → q ≠ 104 → I1 q = I q) ∧ (∀ j, j ≠ 27 → I1 85 j = I 85 j) ∧ mSg I1 (gL (pcG set c co ki ag) 7) ∧ code ≤ (gL (pcG set c co ki ag) 7).length ^ (gL (pcG set c co ki ag) 7).length ∧ mv ≤ 1 ∧ (pmE (gL (pcG set c co ki ag) 7).length).all (fun q => wkB C0 s a (od (gL (pcG set c co ki ag) 7) q)) = (if mv = 1 then (pmF (gL (pcG set c co ki ag) 7).length code).all (fun q => wkB C0 s a (od (gL (pcG set c co ki ag) 7) q)) else false)) → Z X 0 0 (V X I1 J (rf t)) 22 [(5, .int (nI code)), (4, .int (nI mv)), (3, .int (nI ((gL (pcG set c co ki ag) 7).length ^ (gL (pcG set c co ki ag) 7).length))), (0, .ref (xad X 85)), (1, .int (nI set)), (2, .int (nI a))] [] := by
  intro f
  induction f with
  | zero => intro code mv I1 h; omega
  | succ f ih =>
    intro code mv I1 hf hi
    obtain ⟨hfr, hfj, hG1, hcl, hmv, hal⟩ := hi
    have hn7 := ok.1
    have hp4 := pow4 hL4
    have hw1 : mTw I1 n r s rd := hw.fr (hfj 5 (by decide)) (hfj 6 (by decide)) (hfj 7 (by decide)) (fun q q1 q2 => hfr q (by omega) (by omega) (by omega))
    have hW1 : mWy I1 n C0 := hW.fr (hfr 94 (by decide) (by decide) (by decide))
    have hmem := fun x (hx : x ∈ (gL (pcG set c co ki ag) 7)) => gatesOf_lt okk hx
    refine z_iload (n := 24) C 0 dX10_mayStart_22 rfl rfl ?_
    refine z_iload_n (n := 25) C 2 dX10_mayStart_24 rfl rfl ?_
    refine z_icmp_ge (tgt := 79) (n := 28) C dX10_mayStart_25 rfl rfl (fun c25 => ?_) (fun c25 => ?_)
    · refine z_iload (n := 81) C 1 dX10_mayStart_79 rfl rfl ?_
      refine z_zret C E dX10_mayStart_81 (by rcases (show mv = 0 ∨ mv = 1 by omega) with e | e <;> rw [e] <;> decide) ?_
      rw [fa_le, nI_toInt (by omega), nI_toInt (by omega)] at c25
      have ec : code = (gL (pcG set c co ki ag) 7).length ^ (gL (pcG set c co ki ag) 7).length := by omega
      rw [pmF_end (by omega)] at hal
      have hall : (ords (gL (pcG set c co ki ag) 7)).all (wkB C0 s a) = (pmE (gL (pcG set c co ki ag) 7).length).all (fun q => wkB C0 s a (od (gL (pcG set c co ki ag) 7) q)) := by unfold ords; rw [List.all_map]; rfl
      rcases (show mv = 0 ∨ mv = 1 by omega) with e | e
      · subst e
        exact h0 I1 hfr hfj (fun q => by have := (stB_t.mp q).2; rw [hall, hal] at this; cases this)
      · subst e
        exact h1 I1 hfr hfj (stB_t.mpr ⟨hL4, by rw [hall, hal]; rfl⟩)
    · refine z_iload (n := 30) C 1 dX10_mayStart_28 rfl rfl ?_
      refine z_if_eq (tgt := 79) (n := 33) C dX10_mayStart_30 rfl rfl (fun c30 => ?_) (fun c30 => ?_)
      · refine z_iload (n := 81) C 1 dX10_mayStart_79 rfl rfl ?_
        refine z_zret C E dX10_mayStart_81 (by rcases (show mv = 0 ∨ mv = 1 by omega) with e | e <;> rw [e] <;> decide) ?_
        have hall : (ords (gL (pcG set c co ki ag) 7)).all (wkB C0 s a) = (pmE (gL (pcG set c co ki ag) 7).length).all (fun q => wkB C0 s a (od (gL (pcG set c co ki ag) 7) q)) := by unfold ords; rw [List.all_map]; rfl
        rcases (show mv = 0 ∨ mv = 1 by omega) with e | e
        · subst e
          exact h0 I1 hfr hfj (fun q => by have := (stB_t.mp q).2; rw [hall, hal] at this; cases this)
        · subst e
          exact absurd c30 (by decide)
      · rw [fa_le, nI_toInt (by omega), nI_toInt (by omega)] at c25
        have hm1 : mv = 1 := by
          have : mv ≠ 0 := fun e => c30 (by rw [e]; rfl)
          omega
        have hcode : code < (gL (pcG set c co ki ag) 7).length ^ (gL (pcG set c co ki ag) 7).length := by omega
        refine z_aload_n (n := 34) C 3 dX10_mayStart_33 rfl rfl ?_
        refine z_iload (n := 36) C 0 dX10_mayStart_34 rfl rfl ?_
        refine z_vi_1 (n := 39) (d' := 2) C K dX10_mayStart_36 rfl yk_X10_layOrder yv_X10_layOrder kM_RX10_244 (by decide) hR0 rfl rfl sh_85 (by decide) (by decide) ?_
        refine c_X10_layOrder hG1 hL4 (by omega) (fun q I2 lyes hf2 hGq => ?_) (fun I2 lno hf2 => ?_)
        · refine z_ifT_ne (tgt := 45) C (by decide) dX10_mayStart_39 rfl ?_
          obtain ⟨hql, hqm⟩ := (pmE_fact hL4).2 q (pmF_mem hL4 hcode lyes)
          have hw2 : mTw I2 n r s rd := hw1.fr (by rw [hf2 85 (by decide)]) (by rw [hf2 85 (by decide)]) (by rw [hf2 85 (by decide)]) (fun q q1 q2 => hf2 q (by omega))
          have hW2 : mWy I2 n C0 := hW1.fr (hf2 94 (by decide))
          have hol : (od (gL (pcG set c co ki ag) 7) q).length ≤ 7 := by rw [od_len]; omega
          have hom : ∀ x, x ∈ od (gL (pcG set c co ki ag) 7) q → x < n := fun x hx => hmem x (od_mem hqm hx)
          refine z_aload_n (n := 46) C 3 dX10_mayStart_45 rfl rfl ?_
          refine z_iload_n (n := 47) C 5 dX10_mayStart_46 rfl rfl ?_
          refine z_vi_1 (n := 50) (d' := 2) C K dX10_mayStart_47 rfl yk_X10_crossingsOf yv_X10_crossingsOf kM_RX10_214 (by decide) hR0 rfl rfl sh_85 (by decide) (by decide) ?_
          refine c_X10_crossingsOf hw2 ok hc hW2 (hGq hql) hol hom ha (fun w1 => ?_) (fun w0 => ?_)
          · refine z_istore (n := 52) (L' := [(6, _), (5, _), (4, _), (3, _), (0, _), (1, _), (2, _)]) C dX10_mayStart_50 rfl (by rw [hnL]; decide) rfl ?_
            refine z_iload (n := 54) C 0 dX10_mayStart_52 rfl rfl ?_
            refine z_bipush (n := 56) (v := (-9)) C dX10_mayStart_54 rfl rfl ?_
            have hsn : s < n := ok.2.2.1 (by omega)
            have hle := crL_le hn7 ok.2.2.2 hc (od (gL (pcG set c co ki ag) 7) q ++ [s]) a (fun x hx => by
              rcases List.mem_append.mp hx with e | e
              · exact hom x e
              · rw [List.mem_singleton.mp e]; exact hsn) ha w1
            have hll : (od (gL (pcG set c co ki ag) 7) q ++ [s]).length ≤ 8 := by rw [List.length_append]; show (od (gL (pcG set c co ki ag) 7) q).length + 1 ≤ 8; omega
            rw [List.length_append] at hle
            have hle2 : crL C0 (od (gL (pcG set c co ki ag) 7) q ++ [s]) a ≤ 6 * ((od (gL (pcG set c co ki ag) 7) q).length + 1) := hle
            refine z_icmpF_eq (n := 59) (tgt := 70) C (fun e => by have e2 := congrArg Int32.toInt e; rw [nI_toInt (by omega)] at e2; simp only [Int32.reduceToInt] at e2; omega) dX10_mayStart_56 rfl rfl ?_
            refine z_iload (n := 61) C 0 dX10_mayStart_59 rfl rfl ?_
            refine z_bipush (n := 63) (v := 15) C dX10_mayStart_61 rfl rfl ?_
            refine z_icmp_gt (tgt := 70) (n := 66) C dX10_mayStart_63 rfl rfl (fun c63 => ?_) (fun c63 => ?_)
            · rw [fa_lt, nI_toInt (by omega)] at c63
              simp only [Int32.reduceToInt] at c63
              refine z_iconst (n := 71) (v := 0) C dX10_mayStart_70 rfl rfl ?_
              refine z_istore (n := 73) (L' := [(4, _), (6, _), (5, _), (3, _), (0, _), (1, _), (2, _)]) C dX10_mayStart_71 rfl (by rw [hnL]; decide) rfl ?_
              refine z_iincG (n := 76) (c := 1) (L' := [(5, _), (4, _), (6, _), (3, _), (0, _), (1, _), (2, _)]) C 2 dX10_mayStart_73 rfl rfl rfl (by rw [hnL]; decide) rfl ?_
              refine z_goto (n := 22) C dX10_mayStart_76 rfl ?_
              refine z_sub (L' := [(5, _), (4, _), (3, _), (0, _), (1, _), (2, _)]) [0, 1, 3, 4, 5, 6] rfl ?_
              rw [nI_1]
              have hwk : wkB C0 s a (od (gL (pcG set c co ki ag) 7) q) = false := eq_false_of_ne_true (fun e => by have := (wkB_t.mp e).2; omega)
              exact ih (code + 1) 0 _ (by omega) ⟨fun x h1 h2 h3 => by rw [hf2 x (by omega)]; exact hfr x h1 h2 h3, fun j hj => by rw [hf2 85 (by decide)]; exact hfj j hj, hG1.fr (by rw [hf2 85 (by decide)]) (hf2 104 (by decide)), by omega, by decide, by rw [hal, if_pos hm1, pmF_some hcode lyes, List.all_cons, hwk, Bool.false_and]; rfl⟩
            · rw [fa_lt, nI_toInt (by omega)] at c63
              simp only [Int32.reduceToInt] at c63
              refine z_iconst (n := 67) (v := 1) C dX10_mayStart_66 rfl rfl ?_
              refine z_goto (n := 71) C dX10_mayStart_67 rfl ?_
              refine z_istore (n := 73) (L' := [(4, _), (6, _), (5, _), (3, _), (0, _), (1, _), (2, _)]) C dX10_mayStart_71 rfl (by rw [hnL]; decide) rfl ?_
              refine z_iincG (n := 76) (c := 1) (L' := [(5, _), (4, _), (6, _), (3, _), (0, _), (1, _), (2, _)]) C 2 dX10_mayStart_73 rfl rfl rfl (by rw [hnL]; decide) rfl ?_
              refine z_goto (n := 22) C dX10_mayStart_76 rfl ?_
              refine z_sub (L' := [(5, _), (4, _), (3, _), (0, _), (1, _), (2, _)]) [0, 1, 3, 4, 5, 6] rfl ?_
              rw [nI_1]
              have hwk : wkB C0 s a (od (gL (pcG set c co ki ag) 7) q) = true := wkB_t.mpr ⟨w1, by omega⟩
              exact ih (code + 1) 1 _ (by omega) ⟨fun x h1 h2 h3 => by rw [hf2 x (by omega)]; exact hfr x h1 h2 h3, fun j hj => by rw [hf2 85 (by decide)]; exact hfj j hj, hG1.fr (by rw [hf2 85 (by decide)]) (hf2 104 (by decide)), by omega, by decide, by rw [hal, if_pos hm1, pmF_some hcode lyes, List.all_cons, hwk, Bool.true_and]; rfl⟩
          · refine z_istore (n := 52) (L' := [(6, _), (5, _), (4, _), (3, _), (0, _), (1, _), (2, _)]) C dX10_mayStart_50 rfl (by rw [hnL]; decide) rfl ?_
            refine z_iload (n := 54) C 0 dX10_mayStart_52 rfl rfl ?_
            refine z_bipush (n := 56) (v := (-9)) C dX10_mayStart_54 rfl rfl ?_
            refine z_icmpT_eq (tgt := 70) C (by decide) dX10_mayStart_56 rfl ?_
            refine z_iconst (n := 71) (v := 0) C dX10_mayStart_70 rfl rfl ?_
            refine z_istore (n := 73) (L' := [(4, _), (6, _), (5, _), (3, _), (0, _), (1, _), (2, _)]) C dX10_mayStart_71 rfl (by rw [hnL]; decide) rfl ?_
            refine z_iincG (n := 76) (c := 1) (L' := [(5, _), (4, _), (6, _), (3, _), (0, _), (1, _), (2, _)]) C 2 dX10_mayStart_73 rfl rfl rfl (by rw [hnL]; decide) rfl ?_
            refine z_goto (n := 22) C dX10_mayStart_76 rfl ?_
            refine z_sub (L' := [(5, _), (4, _), (3, _), (0, _), (1, _), (2, _)]) [0, 1, 3, 4, 5, 6] rfl ?_
            rw [nI_1]
            have hwk : wkB C0 s a (od (gL (pcG set c co ki ag) 7) q) = false := eq_false_of_ne_true (fun e => w0 (wkB_t.mp e).1)
            exact ih (code + 1) 0 _ (by omega) ⟨fun x h1 h2 h3 => by rw [hf2 x (by omega)]; exact hfr x h1 h2 h3, fun j hj => by rw [hf2 85 (by decide)]; exact hfj j hj, hG1.fr (by rw [hf2 85 (by decide)]) (hf2 104 (by decide)), by omega, by decide, by rw [hal, if_pos hm1, pmF_some hcode lyes, List.all_cons, hwk, Bool.false_and]; rfl⟩
        · refine z_ifF_ne (n := 42) (tgt := 45) C (by decide) dX10_mayStart_39 rfl rfl ?_
          refine z_goto (n := 73) C dX10_mayStart_42 rfl ?_
          refine z_iincG (n := 76) (c := 1) (L' := [(5, _), (4, _), (3, _), (0, _), (1, _), (2, _)]) C 0 dX10_mayStart_73 rfl rfl rfl (by rw [hnL]; decide) rfl ?_
          refine z_goto (n := 22) C dX10_mayStart_76 rfl ?_
          rw [nI_1]
          exact ih (code + 1) mv _ (by omega) ⟨fun x h1 h2 h3 => by rw [hf2 x (by omega)]; exact hfr x h1 h2 h3, fun j hj => by rw [hf2 85 (by decide)]; exact hfj j hj, hG1.fr (by rw [hf2 85 (by decide)]) (hf2 104 (by decide)), by omega, hmv, by rw [hal, if_pos hm1, if_pos hm1, pmF_none hcode lno]⟩
set_option maxHeartbeats 4000000 in
set_option maxRecDepth 100000 in
theorem c_X10_mayStart {ad : Nat → Nat} {I : KI} {J : KJ} {t : Nat} {n r s : Nat} {rd : Nat → Nat → Nat} (hw : mTw I n r s rd) (ok : okTw n r s rd) {C0 : Nat → Nat → Nat} (hc : okW n r rd C0) (hW : mWy I n C0) {c : Nat} {ki co ag re : Nat → Nat} {T : Nat → Nat → Nat} (hk : mKd I c ki co ag re T) (okk : okKd n c ki co ag re T) {set a : Nat} (hset : set < 2 ^ c) (ha : a < n)  {Q : Int32 → KI → KJ → KR → Prop} (h1 : ∀ I', (∀ q, q ≠ 85 → q ≠ 102 → q ≠ 104 → I' q = I q) → (∀ j, j ≠ 27 → I' 85 j = I 85 j) → stB C0 s a (gL (pcG set c co ki ag) 7) = true → Q 1 I' J (rf t)) (h0 : ∀ I', (∀ q, q ≠ 85 → q ≠ 102 → q ≠ 104 → I' q = I q) → (∀ j, j ≠ 27 → I' 85 j = I 85 j) → ¬ stB C0 s a (gL (pcG set c co ki ag) 7) = true → Q 0 I' J (rf t))  : Mi 4 yX10_mayStart (wm yX10_mayStart cX10_mayStart 7 (some .boolean)) [.ref (ad 85), .int (nI set), .int (nI a)] ad I J (rf t) Q := by
  refine mi_of (own := RX10) yk_X10_mayStart rfl (Nat.le_of_ble_eq_true rfl) rfl (fun X hA hnL C K E => ?_)
  subst hA
  have hn7 := ok.1
  have h1024 : 2 ^ c ≤ 2 ^ 10 := Nat.pow_le_pow_right (by decide) okk.1
  have hl7 := gL_len (pcG set c co ki ag) 7
  refine z_aload_n (n := 1) C 0 dX10_mayStart_0 rfl rfl ?_
  refine z_iload_n (n := 2) C 1 dX10_mayStart_1 rfl rfl ?_
  refine z_vi_1 (n := 5) (d' := 3) C K dX10_mayStart_2 rfl yk_X10_laySetGates yv_X10_laySetGates kM_RX10_241 (by decide) hR0 rfl rfl sh_85 (by decide) (by decide) ?_
  refine c_X10_laySetGates hk okk hn7 (by omega) (fun I1 hf1 hj1 hG1 => ?_)
  refine z_istore_n (n := 6) (L' := [(3, _), (0, _), (1, _), (2, _)]) C dX10_mayStart_5 rfl (by rw [hnL]; decide) rfl ?_
  refine z_aload_n (n := 7) C 1 dX10_mayStart_6 rfl rfl ?_
  refine z_getI (n := 10) C K fF_RX10_181 dX10_mayStart_7 rfl sh_85 (by decide) ?_
  refine z_iconst (n := 11) (v := 4) C dX10_mayStart_10 rfl rfl ?_
  rw [hG1.1]
  refine z_icmp_le (tgt := 16) (n := 14) C dX10_mayStart_11 rfl rfl (fun c11 => ?_) (fun c11 => ?_)
  · rw [fa_le, nI_toInt (by omega)] at c11
    simp only [Int32.reduceToInt] at c11
    have hL4 : (gL (pcG set c co ki ag) 7).length ≤ 4 := by omega
    refine z_iconst (n := 17) (v := 1) C dX10_mayStart_16 rfl rfl ?_
    refine z_istore (n := 19) (L' := [(4, _), (3, _), (0, _), (1, _), (2, _)]) C dX10_mayStart_17 rfl (by rw [hnL]; decide) rfl ?_
    refine z_iconst (n := 20) (v := 0) C dX10_mayStart_19 rfl rfl ?_
    refine z_istore (n := 22) (L' := [(5, _), (4, _), (3, _), (0, _), (1, _), (2, _)]) C dX10_mayStart_20 rfl (by rw [hnL]; decide) rfl ?_
    exact l_X10_mayStart C K hnL E hw ok hc hW hk okk hset ha hL4 h1 h0 _ 0 1 I1 (Nat.lt_succ_self _) ⟨fun q q1 q2 q3 => hf1 q q1 q3, hj1, hG1, Nat.zero_le _, by decide, by rw [if_pos rfl, pmF_0 hL4]⟩
  · refine z_iconst (n := 15) (v := 0) C dX10_mayStart_14 rfl rfl ?_
    refine z_zret C E dX10_mayStart_15 (by decide) ?_
    rw [fa_le, nI_toInt (by omega)] at c11
    simp only [Int32.reduceToInt] at c11
    exact h0 I1 (fun q q1 q2 q3 => hf1 q q1 q3) hj1 (fun q => by have := (stB_t.mp q).1; omega)
