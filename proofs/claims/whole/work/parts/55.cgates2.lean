set_option maxHeartbeats 4000000 in
set_option maxRecDepth 100000 in
theorem l_X1_orderBy {X : KX} {J : KJ} {t : Nat} (C : Cx X RX1 cX1_orderBy 3) (K : Kx X) (hnL : xnL X = 7) {Q : Int32 → KI → KJ → KR → Prop} (E : Ei X .boolean Q) {I : KI} {k c i n : Nat} (hk : k < 4) (hc : c ≤ 100) (hI : I (67 + 2 * k) 2 = nI c) (hin : i + n ≤ c) {pc rdy : Nat → Nat} (hb : ∀ g, pc g ≤ 4) {og : List Nat} (hG : cGt I pc rdy og) (hl7 : og.length ≤ 7) (hn : n = og.length) (h1 : ∀ I', (∀ q, q ≠ 51 → I' q = I q) → n = og.length → odS pc (fun j => I (68 + 2 * k) (i + j)) n = true → cGt I' pc rdy (ogS (fun j => I (68 + 2 * k) (i + j)) n) → Q 1 I' J (rf t)) (h0 : ∀ I', (∀ q, q ≠ 51 → I' q = I q) → ¬ (n = og.length ∧ odS pc (fun j => I (68 + 2 * k) (i + j)) n = true) → Q 0 I' J (rf t)) : ∀ (f j : Nat) (I1 : KI), n - j < f → (j ≤ n ∧ (∀ q, q ≠ 51 → I1 q = I q) ∧ odS pc (fun j => I (68 + 2 * k) (i + j)) j = true ∧ ordA I1 51 (ogS (fun j => I (68 + 2 * k) (i + j)) j)) → Z X 0 0 (V X I1 J (rf t)) 16 [(5, .int (nI j)), (4, .int (nI (seenS (fun j => I (68 + 2 * k) (i + j)) j))), (0, .ref (xad X 50)), (1, .ref (xad X (67 + 2 * k))), (2, .int (nI i)), (3, .int (nI n))] [] := by
  intro f
  induction f with
  | zero => intro j I1 h; omega
  | succ f ih =>
    intro j I1 hf hi
    obtain ⟨hjn, hfr, hod, ho⟩ := hi
    have hcnt : I1 50 0 = nI n := by rw [hfr 50 (by decide), hn]; exact hG.1
    have hp2 : ∀ g, g < 7 → I1 53 g = nI (pc g) := fun g hg => by rw [hfr 53 (by decide)]; exact (hG.2.1 g hg).2
    have hsl := seenS_lt j hod
    refine z_iload (n := 18) C 0 dX1_orderBy_16 rfl rfl ?_
    refine z_aload_n (n := 19) C 2 dX1_orderBy_18 rfl rfl ?_
    refine z_getI (n := 22) C K fF_RX1_9 dX1_orderBy_19 rfl sh_50 (by decide) ?_
    refine z_icmp_ge (tgt := 80) (n := 25) C dX1_orderBy_22 rfl rfl (fun c22 => ?_) (fun c22 => ?_)
    · refine z_iconst (n := 81) (v := 1) C dX1_orderBy_80 rfl rfl ?_
      refine z_zret C E dX1_orderBy_81 (by decide) ?_
      rw [hcnt, fa_le, nI_toInt (by omega), nI_toInt (by omega)] at c22
      have e : j = n := by omega
      subst e
      exact h1 I1 hfr hn hod ⟨by rw [ogS_len]; exact hcnt, fun g hg => by rw [hfr 52 (by decide), hfr 53 (by decide)]; exact hG.2.1 g hg, ho⟩
    · rw [hcnt, fa_le, nI_toInt (by omega), nI_toInt (by omega)] at c22
      refine z_aload_n (n := 26) C 3 dX1_orderBy_25 rfl rfl ?_
      refine z_iload_n (n := 27) C 4 dX1_orderBy_26 rfl rfl ?_
      refine z_iload (n := 29) C 0 dX1_orderBy_27 rfl rfl ?_
      refine z_iadd (n := 30) C dX1_orderBy_29 rfl ?_
      rw [nI_add]
      refine z_vi_1 (n := 33) (d' := 2) C K dX1_orderBy_30 rfl yk_X6_at yv_X6_at kM_RX1_48 (by decide) hR0 rfl rfl (sh_sheet hk) (by decide) (lt_sheet hk) ?_
      refine c_X6_at hk hc (by rw [hfr _ (by omega)]; exact hI) (fun a ha1 ha2 => ?_) (fun q => absurd (by rw [nI_toInt (by omega)]; omega) q)
      have ea : i + j = a := nI_inj ha1 (by omega) (by omega)
      subst ea
      rw [hfr _ (show 68 + 2 * k ≠ 51 by omega)]
      obtain ⟨v, hv⟩ : ∃ v, I (68 + 2 * k) (i + j) = v := ⟨_, rfl⟩
      rw [hv]
      refine z_istore (n := 35) (L' := [(6, _), (5, _), (4, _), (0, _), (1, _), (2, _), (3, _)]) C dX1_orderBy_33 rfl (by rw [hnL]; decide) rfl ?_
      refine z_aload_n (n := 36) C 3 dX1_orderBy_35 rfl rfl ?_
      refine z_iload (n := 38) C 0 dX1_orderBy_36 rfl rfl ?_
      refine z_vi_1 (n := 41) (d' := 1) C K dX1_orderBy_38 rfl yk_X1_isGate yv_X1_isGate kM_RX1_44 (by decide) hR0 rfl rfl sh_50 (by decide) (by decide) ?_
      refine c_X1_isGate hp2 hb (fun b38 => ?_) (fun b38 => ?_)
      · refine z_ifF_eq (n := 44) (tgt := 54) C (by decide) dX1_orderBy_41 rfl rfl ?_
        obtain ⟨hgN, hgp⟩ := gateB_t.mp b38
        obtain ⟨g, hg, rfl⟩ := isN_of hgN
        refine z_iload (n := 46) C 2 dX1_orderBy_44 rfl rfl ?_
        refine z_iload (n := 48) C 0 dX1_orderBy_46 rfl rfl ?_
        refine z_ishr (n := 49) C dX1_orderBy_48 rfl ?_
        refine z_iconst (n := 50) (v := 1) C dX1_orderBy_49 rfl rfl ?_
        refine z_iand (n := 51) C dX1_orderBy_50 rfl ?_
        rw [bt_nI (by omega) (by omega)]
        refine z_if_eq (tgt := 56) (n := 54) C dX1_orderBy_51 rfl rfl (fun c51 => ?_) (fun c51 => ?_)
        · have hbit : (seenS (fun j => I (68 + 2 * k) (i + j)) j).testBit g = false := by
            cases hz : (seenS (fun j => I (68 + 2 * k) (i + j)) j).testBit g with
            | false => rfl
            | true => rw [hz] at c51; exact absurd c51 (by decide)
          refine z_iload (n := 58) C 2 dX1_orderBy_56 rfl rfl ?_
          refine z_iconst (n := 59) (v := 1) C dX1_orderBy_58 rfl rfl ?_
          refine z_iload (n := 61) C 0 dX1_orderBy_59 rfl rfl ?_
          refine z_ishl (n := 62) C dX1_orderBy_61 rfl ?_
          rw [one_shl g (by omega)]
          refine z_ior (n := 63) C dX1_orderBy_62 rfl ?_
          rw [or_nI]
          refine z_istore (n := 65) (L' := [(4, _), (6, _), (5, _), (0, _), (1, _), (2, _), (3, _)]) C dX1_orderBy_63 rfl (by rw [hnL]; decide) rfl ?_
          refine z_aload_n (n := 66) C 3 dX1_orderBy_65 rfl rfl ?_
          refine z_getR (n := 69) (q := 51) C K fF_RX1_15 dX1_orderBy_66 rfl rfl sh_50 (by decide) rfl ?_
          refine z_iload (n := 71) C 2 dX1_orderBy_69 rfl rfl ?_
          refine z_iload (n := 73) C 1 dX1_orderBy_71 rfl rfl ?_
          refine z_iastN (n := 74) C K j dX1_orderBy_73 rfl sh_51 (by decide) rfl (by omega) (by decide) ?_
          refine z_iincG (n := 77) (c := 1) (L' := [(5, _), (4, _), (6, _), (0, _), (1, _), (2, _), (3, _)]) C 2 dX1_orderBy_74 rfl rfl rfl (by rw [hnL]; decide) rfl ?_
          refine z_goto (n := 16) C dX1_orderBy_77 rfl ?_
          refine z_sub (L' := [(5, _), (4, _), (0, _), (1, _), (2, _), (3, _)]) [0, 1, 3, 4, 5, 6] rfl ?_
          have ecd : (fun j => I (68 + 2 * k) (i + j)) j = nI g := hv
          have es : seenS (fun j => I (68 + 2 * k) (i + j)) (j + 1) = seenS (fun j => I (68 + 2 * k) (i + j)) j ||| 2 ^ g := by rw [seenS, hv, nI_clamp (by omega)]
          have eo : ogS (fun j => I (68 + 2 * k) (i + j)) (j + 1) = ogS (fun j => I (68 + 2 * k) (i + j)) j ++ [g] := by rw [ogS, hv, nI_clamp (by omega)]
          have hln := ogS_len (fun j => I (68 + 2 * k) (i + j)) j
          rw [nI_1, ← es]
          refine ih (j + 1) _ (by omega) ⟨by omega, fun q hq => by rw [upI_row _ _ hq]; exact hfr q hq, odS_t hod (by rw [hv]; exact b38) (by rw [hv, nI_clamp (by omega)]; exact hbit), ?_⟩
          have h9 := ho.snoc (g := g)
          rw [hln] at h9
          rw [eo]
          exact h9
        · refine z_iconst (n := 55) (v := 0) C dX1_orderBy_54 rfl rfl ?_
          refine z_zret C E dX1_orderBy_55 (by decide) ?_
          have hbit : (seenS (fun j => I (68 + 2 * k) (i + j)) j).testBit g = true := by
            cases hz : (seenS (fun j => I (68 + 2 * k) (i + j)) j).testBit g with
            | true => rfl
            | false => rw [hz] at c51; exact absurd rfl c51
          exact h0 I1 hfr (fun q => by rw [odS_f (k := j) (by omega) (fun z => by have := z.2; rw [hv, nI_clamp (by omega), hbit] at this; cases this)] at q; exact absurd q.2 (by decide))
      · refine z_ifT_eq (tgt := 54) C (by decide) dX1_orderBy_41 rfl ?_
        refine z_iconst (n := 55) (v := 0) C dX1_orderBy_54 rfl rfl ?_
        refine z_zret C E dX1_orderBy_55 (by decide) ?_
        exact h0 I1 hfr (fun q => by rw [odS_f (k := j) (by omega) (fun z => b38 (by rw [← hv]; exact z.1))] at q; exact absurd q.2 (by decide))
set_option maxHeartbeats 4000000 in
set_option maxRecDepth 100000 in
theorem c_X1_orderBy {ad : Nat → Nat} {I : KI} {J : KJ} {t : Nat} {k c i n : Nat} (hk : k < 4) (hc : c ≤ 100) (hI : I (67 + 2 * k) 2 = nI c) (hin : i + n ≤ c) {pc rdy : Nat → Nat} (hb : ∀ g, pc g ≤ 4) {og : List Nat} (hG : cGt I pc rdy og) (hl7 : og.length ≤ 7)  {Q : Int32 → KI → KJ → KR → Prop} (h1 : ∀ I', (∀ q, q ≠ 51 → I' q = I q) → n = og.length → odS pc (fun j => I (68 + 2 * k) (i + j)) n = true → cGt I' pc rdy (ogS (fun j => I (68 + 2 * k) (i + j)) n) → Q 1 I' J (rf t)) (h0 : ∀ I', (∀ q, q ≠ 51 → I' q = I q) → ¬ (n = og.length ∧ odS pc (fun j => I (68 + 2 * k) (i + j)) n = true) → Q 0 I' J (rf t))  : Mi 3 yX1_orderBy (wm yX1_orderBy cX1_orderBy 7 (some .boolean)) [.ref (ad 50), .ref (ad (67 + 2 * k)), .int (nI i), .int (nI n)] ad I J (rf t) Q := by
  refine mi_of (own := RX1) yk_X1_orderBy rfl (Nat.le_of_ble_eq_true rfl) rfl (fun X hA hnL C K E => ?_)
  subst hA
  refine z_iload_n (n := 1) C 3 dX1_orderBy_0 rfl rfl ?_
  refine z_aload_n (n := 2) C 0 dX1_orderBy_1 rfl rfl ?_
  refine z_getI (n := 5) C K fF_RX1_9 dX1_orderBy_2 rfl sh_50 (by decide) ?_
  refine z_icmp_eq (tgt := 10) (n := 8) C dX1_orderBy_5 rfl rfl (fun c5 => ?_) (fun c5 => ?_)
  · refine z_iconst (n := 11) (v := 0) C dX1_orderBy_10 rfl rfl ?_
    refine z_istore (n := 13) (L' := [(4, _), (0, _), (1, _), (2, _), (3, _)]) C dX1_orderBy_11 rfl (by rw [hnL]; decide) rfl ?_
    refine z_iconst (n := 14) (v := 0) C dX1_orderBy_13 rfl rfl ?_
    refine z_istore (n := 16) (L' := [(5, _), (4, _), (0, _), (1, _), (2, _), (3, _)]) C dX1_orderBy_14 rfl (by rw [hnL]; decide) rfl ?_
    rw [hG.1] at c5
    have hn : n = og.length := nI_inj c5 (by omega) (by omega)
    exact l_X1_orderBy C K hnL E hk hc hI hin hb hG hl7 hn h1 h0 (n + 1) 0 I (by omega) ⟨by omega, fun _ _ => rfl, rfl, fun z hz => by rw [ogS] at hz; simp at hz⟩
  · refine z_iconst (n := 9) (v := 0) C dX1_orderBy_8 rfl rfl ?_
    refine z_zret C E dX1_orderBy_9 (by decide) ?_
    rw [hG.1] at c5
    exact h0 I (fun _ _ => rfl) (fun q => c5 (by rw [q.1]))
