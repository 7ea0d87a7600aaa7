set_option maxHeartbeats 4000000 in
set_option maxRecDepth 100000 in
theorem c_X5_isBeside {ad : Nat → Nat} {I : KI} {J : KJ} {t : Nat} {m : Nat} (hm : m < 2 ^ 31) {Q : Int32 → KI → KJ → KR → Prop} (h1 : m % 2 = 1 → Q 1 I J (rf t)) (h0 : ¬ m % 2 = 1 → Q 0 I J (rf t)) : Mi 1 yX5_isBeside (wm yX5_isBeside cX5_isBeside 1 (some .boolean)) [.int (nI m)] ad I J (rf t) Q := by
  refine mi_of (own := RX5) yk_X5_isBeside rfl (Nat.le_of_ble_eq_true rfl) rfl (fun X hA hnL C K E => ?_)
  subst hA
  refine z_iload_n (n := 1) C 0 dX5_isBeside_0 rfl rfl ?_
  refine z_iconst (n := 2) (v := 2) C dX5_isBeside_1 rfl rfl ?_
  refine z_irem (n := 3) C dX5_isBeside_2 rfl (by decide) ?_
  rw [show (2 : Int32) = nI 2 from rfl, pk_rem (by omega) (by decide) (by decide)]
  refine z_iconst (n := 4) (v := 1) C dX5_isBeside_3 rfl rfl ?_
  refine z_icmp_ne (tgt := 11) (n := 7) C dX5_isBeside_4 rfl rfl (fun c4 => ?_) (fun c4 => ?_)
  · refine z_iconst (n := 12) (v := 0) C dX5_isBeside_11 rfl rfl ?_
    refine z_zret C E dX5_isBeside_12 (by decide) ?_
    exact h0 (fun q => c4 (by rw [q]; rfl))
  · refine z_iconst (n := 8) (v := 1) C dX5_isBeside_7 rfl rfl ?_
    refine z_goto (n := 12) C dX5_isBeside_8 rfl ?_
    refine z_zret C E dX5_isBeside_12 (by decide) ?_
    exact h1 (nI_inj (b := 1) c4 (by omega) (by decide))
set_option maxHeartbeats 4000000 in
set_option maxRecDepth 100000 in
theorem c_X5_bitAt {ad : Nat → Nat} {I : KI} {J : KJ} {t : Nat} {loops : Nat} {rs : List Nat} (hL : I 57 5 = nI loops) (hl8 : loops ≤ 8) (hr : rowA I 60 rs) (hlen : rs.length ≤ loops) (hin : ∀ i, rs.getD i 99 = 99 ∨ rs.getD i 99 < 10) {v : Int32} (hv : v.toInt < 0 ∨ isN rs.length v) {Q : Int32 → KI → KJ → KR → Prop} (hQ : Q (nI (bAt rs v)) I J (rf t)) : Mi 1 yX5_bitAt (wm yX5_bitAt cX5_bitAt 2 (some .int)) [.ref (ad 57), .int (v)] ad I J (rf t) Q := by
  refine mi_of (own := RX5) yk_X5_bitAt rfl (Nat.le_of_ble_eq_true rfl) rfl (fun X hA hnL C K E => ?_)
  subst hA
  refine z_iload_n (n := 1) C 1 dX5_bitAt_0 rfl rfl ?_
  refine z_if_lt (tgt := 32) (n := 4) C dX5_bitAt_1 rfl rfl (fun c1 => ?_) (fun c1 => ?_)
  · refine z_iconst (n := 33) (v := 0) C dX5_bitAt_32 rfl rfl ?_
    refine z_iret C E dX5_bitAt_33 ?_
    rw [fa_lt] at c1
    simp only [Int32.reduceToInt] at c1
    exact eqQ (by unfold bAt; rw [if_pos c1]; rfl) hQ
  · rw [fa_lt] at c1
    simp only [Int32.reduceToInt] at c1
    obtain ⟨i, hi, rfl⟩ := isN_of (hv.resolve_left c1)
    have ebt : bAt rs (nI i) = btS (rs.getD (rs.length - 1 - i) 99) := by unfold bAt; rw [if_neg (by rw [nI_toInt (by omega)]; omega), nI_clamp (by omega)]
    obtain ⟨s, es⟩ : ∃ s, rs.getD (rs.length - 1 - i) 99 = s := ⟨_, rfl⟩
    have hsb := hin (rs.length - 1 - i)
    rw [es] at hsb ebt
    refine z_iload_n (n := 5) C 1 dX5_bitAt_4 rfl rfl ?_
    refine z_aload_n (n := 6) C 0 dX5_bitAt_5 rfl rfl ?_
    refine z_getI (n := 9) C K fF_RX5_28 dX5_bitAt_6 rfl sh_57 (by decide) ?_
    rw [hL]
    refine z_icmpF_ge (n := 12) (tgt := 32) C (by rw [fa_le, nI_toInt (by omega), nI_toInt (by omega)]; omega) dX5_bitAt_9 rfl rfl ?_
    refine z_aload_n (n := 13) C 0 dX5_bitAt_12 rfl rfl ?_
    refine z_getR (n := 16) (q := 60) C K fF_RX5_18 dX5_bitAt_13 rfl rfl sh_57 (by decide) rfl ?_
    refine z_iload_n (n := 17) C 1 dX5_bitAt_16 rfl rfl ?_
    refine z_ialdN (n := 18) C K i dX5_bitAt_17 rfl sh_60 (by decide) rfl (by omega) (by decide) ?_
    rw [hr i hi, es]
    refine z_if_lt (tgt := 32) (n := 21) C dX5_bitAt_18 rfl rfl (fun c18 => ?_) (fun c18 => ?_)
    · refine z_iconst (n := 33) (v := 0) C dX5_bitAt_32 rfl rfl ?_
      refine z_iret C E dX5_bitAt_33 ?_
      have hs99 : s = 99 := by
        by_cases e : s = 99
        · exact e
        · exfalso
          rw [show seatI s = nI s from if_neg e, fa_lt, nI_toInt (by omega)] at c18
          simp only [Int32.reduceToInt] at c18
          omega
      exact eqQ (by rw [ebt, hs99]; rfl) hQ
    · have hs99 : s ≠ 99 := fun e => by rw [e] at c18; exact absurd c18 (by decide)
      have hs10 : s < 10 := hsb.resolve_left hs99
      refine z_iconst (n := 22) (v := 1) C dX5_bitAt_21 rfl rfl ?_
      refine z_aload_n (n := 23) C 0 dX5_bitAt_22 rfl rfl ?_
      refine z_getR (n := 26) (q := 60) C K fF_RX5_18 dX5_bitAt_23 rfl rfl sh_57 (by decide) rfl ?_
      refine z_iload_n (n := 27) C 1 dX5_bitAt_26 rfl rfl ?_
      refine z_ialdN (n := 28) C K i dX5_bitAt_27 rfl sh_60 (by decide) rfl (by omega) (by decide) ?_
      rw [hr i hi, es, show seatI s = nI s from if_neg hs99]
      refine z_ishl (n := 29) C dX5_bitAt_28 rfl ?_
      rw [one_shl s (by omega)]
      refine z_goto (n := 33) C dX5_bitAt_29 rfl ?_
      refine z_iret C E dX5_bitAt_33 ?_
      exact eqQ (by rw [ebt]; unfold btS; rw [if_neg hs99]) hQ
set_option maxHeartbeats 4000000 in
set_option maxRecDepth 100000 in
theorem c_X5_maySit {ad : Nat → Nat} {I : KI} {J : KJ} {t : Nat} {cnt loops emp W old c set r : Nat} {T : Nat → Nat → Nat} {ag : Nat → Nat} (hc10 : c ≤ 10) (hset : set < 2 ^ c) (hl8 : loops ≤ 8) (hW : W < 1024) (hold : ∀ x, x < c → old.testBit x = decide (r ≤ ag x)) (hold2 : old < 1024) (hWb : ∀ x y, set.testBit x = true → set.testBit y = true → T x y = 1 → W.testBit x = true ∧ W.testBit y = true) (hemp : emp % 2 = 0) (hemp2 : emp ≤ 98) (hC : rpC I cnt loops emp W old c (fun x => tm T c x 1 &&& set) (fun x => tm T c x 2 &&& set)) {rs : List Nat} (hlen : rs.length ≤ loops) (hr : rowA I 60 rs) (hin : ∀ y, y ∈ rs → y = 99 ∨ set.testBit y = true) {x : Nat} (hx : x < c) {Q : Int32 → KI → KJ → KR → Prop} (h1 : okS T ag r rs x = true → Q 1 I J (rf t)) (h0 : ¬ okS T ag r rs x = true → Q 0 I J (rf t)) : Mi 2 yX5_maySit (wm yX5_maySit cX5_maySit 4 (some .boolean)) [.ref (ad 57), .int (nI x), .int (nI rs.length)] ad I J (rf t) Q := by
  refine mi_of (own := RX5) yk_X5_maySit rfl (Nat.le_of_ble_eq_true rfl) rfl (fun X hA hnL C K E => ?_)
  subst hA
  have h1024 : 2 ^ c ≤ 2 ^ 10 := Nat.pow_le_pow_right (by decide) hc10
  have hs1024 : set < 1024 := by omega
  have hgi := getD_in hin
  have hgl : ∀ i, rs.getD i 99 = 99 ∨ rs.getD i 99 < 10 := fun i => (hgi i).imp id (fun q => bit_lt10 hs1024 q)
  have hgc : ∀ i, rs.getD i 99 = 99 ∨ (set.testBit (rs.getD i 99) = true ∧ rs.getD i 99 < c) := fun i => (hgi i).imp id (fun q => ⟨q, by
    by_cases e : rs.getD i 99 < c
    · exact e
    · rw [Nat.testBit_lt_two_pow (Nat.lt_of_lt_of_le hset (Nat.pow_le_pow_right (by decide) (by omega)))] at q; cases q⟩)
  have hbt0 := btS_lt hs1024 (hgi 0)
  have hbt1 := btS_lt hs1024 (hgi 1)
  refine z_iload_n (n := 1) C 2 dX5_maySit_0 rfl rfl ?_
  refine z_si_1 (n := 4) (d' := 1) C K dX5_maySit_1 rfl yk_X5_isBeside kT_yX5_isBeside kM_RX5_83 (by decide) hR0 rfl ?_
  refine c_X5_isBeside (by omega) (fun b1 => ?_) (fun b1 => ?_)
  · refine z_ifT_ne (tgt := 20) C (by decide) dX5_maySit_4 rfl ?_
    refine z_iload_n (n := 21) C 2 dX5_maySit_20 rfl rfl ?_
    refine z_si_1 (n := 24) (d' := 1) C K dX5_maySit_21 rfl yk_X5_isBeside kT_yX5_isBeside kM_RX5_83 (by decide) hR0 rfl ?_
    refine c_X5_isBeside (by omega) (fun b21 => ?_) (fun b21 => ?_)
    · refine z_ifF_eq (n := 27) (tgt := 45) C (by decide) dX5_maySit_24 rfl rfl ?_
      refine z_aload_n (n := 28) C 0 dX5_maySit_27 rfl rfl ?_
      refine z_iload_n (n := 29) C 2 dX5_maySit_28 rfl rfl ?_
      refine z_iconst (n := 30) (v := 1) C dX5_maySit_29 rfl rfl ?_
      refine z_isub (n := 31) C dX5_maySit_30 rfl ?_
      rw [nI_s1 _ (by omega)]
      refine z_vi_1 (n := 34) (d' := 1) C K dX5_maySit_31 rfl yk_X5_bitAt yv_X5_bitAt kM_RX5_87 (by decide) hR0 rfl rfl sh_57 (by decide) (by decide) ?_
      refine c_X5_bitAt hC.2.1 hl8 hr hlen hgl (Or.inr (isN_nI (by omega) (by omega))) ?_
      rw [bAt_1 (by omega) (by omega)]
      refine z_aload_n (n := 35) C 0 dX5_maySit_34 rfl rfl ?_
      refine z_iload_n (n := 36) C 2 dX5_maySit_35 rfl rfl ?_
      refine z_iconst (n := 37) (v := 2) C dX5_maySit_36 rfl rfl ?_
      refine z_isub (n := 38) C dX5_maySit_37 rfl ?_
      refine z_vi_1 (n := 41) (d' := 1) C K dX5_maySit_38 rfl yk_X5_bitAt yv_X5_bitAt kM_RX5_87 (by decide) hR0 rfl rfl sh_57 (by decide) (by decide) ?_
      refine c_X5_bitAt hC.2.1 hl8 hr hlen hgl (two_neg _ (by omega)) ?_
      rw [bAt_2 (by omega)]
      refine z_ior (n := 42) C dX5_maySit_41 rfl ?_
      rw [or_nI]
      refine z_goto (n := 52) C dX5_maySit_42 rfl ?_
      refine z_istore_n (n := 53) (L' := [(3, _), (0, _), (1, _), (2, _)]) C dX5_maySit_52 rfl (by rw [hnL]; decide) rfl ?_
      refine z_aload_n (n := 54) C 1 dX5_maySit_53 rfl rfl ?_
      refine z_getR (n := 57) (q := 59) C K fF_RX5_15 dX5_maySit_54 rfl rfl sh_57 (by decide) rfl ?_
      refine z_iload_n (n := 58) C 2 dX5_maySit_57 rfl rfl ?_
      refine z_ialdN (n := 59) C K x dX5_maySit_58 rfl sh_59 (by decide) rfl (by omega) (by decide) ?_
      rw [show I 59 x = nI (tm T c x 2 &&& set) from (hC.2.2.2.2.2 x hx).2]
      refine z_iload_n (n := 60) C 0 dX5_maySit_59 rfl rfl ?_
      refine z_iand (n := 61) C dX5_maySit_60 rfl ?_
      rw [and_nI]
      refine z_if_ne (tgt := 68) (n := 64) C dX5_maySit_61 rfl rfl (fun c61 => ?_) (fun c61 => ?_)
      · refine z_iconst (n := 69) (v := 0) C dX5_maySit_68 rfl rfl ?_
        refine z_zret C E dX5_maySit_69 (by decide) ?_
        exact h0 (fun q => by
          unfold okS at q
          rw [Bool.and_eq_true, Bool.and_eq_true, decide_eq_true b21, Bool.true_and, Bool.not_eq_true', Bool.not_eq_true'] at q
          exact c61 (by rw [and_or0.mpr ⟨(near_1 (hgc 0)).mpr q.2.1, (near_1 (hgc 1)).mpr q.2.2⟩]; rfl))
      · refine z_iconst (n := 65) (v := 1) C dX5_maySit_64 rfl rfl ?_
        refine z_goto (n := 69) C dX5_maySit_65 rfl ?_
        refine z_zret C E dX5_maySit_69 (by decide) ?_
        have hz := and_or0.mp (nI_inj (b := 0) c61 (by have := Nat.and_le_left (n := (tm T c x 2 &&& set)) (m := (btS (rs.getD 0 99) ||| btS (rs.getD 1 99))); have := Nat.and_le_right (n := tm T c x 2) (m := set); omega) (by decide))
        have z1 := (near_1 (hgc 0)).mp hz.1
        have z2 := (near_1 (hgc 1)).mp hz.2
        exact h1 (by unfold okS; rw [decide_eq_true b21, z1, z2]; rfl)
    · refine z_ifT_eq (tgt := 45) C (by decide) dX5_maySit_24 rfl ?_
      exact absurd b1 b21
  · refine z_ifF_ne (n := 7) (tgt := 20) C (by decide) dX5_maySit_4 rfl rfl ?_
    refine z_aload_n (n := 8) C 0 dX5_maySit_7 rfl rfl ?_
    refine z_getI (n := 11) C K fF_RX5_35 dX5_maySit_8 rfl sh_57 (by decide) ?_
    rw [hC.2.2.2.1]
    refine z_iload_n (n := 12) C 1 dX5_maySit_11 rfl rfl ?_
    refine z_ishr (n := 13) C dX5_maySit_12 rfl ?_
    refine z_iconst (n := 14) (v := 1) C dX5_maySit_13 rfl rfl ?_
    refine z_iand (n := 15) C dX5_maySit_14 rfl ?_
    rw [bt_nI (by omega) (by omega)]
    refine z_if_ne (tgt := 20) (n := 18) C dX5_maySit_15 rfl rfl (fun c15 => ?_) (fun c15 => ?_)
    · refine z_iload_n (n := 21) C 2 dX5_maySit_20 rfl rfl ?_
      refine z_si_1 (n := 24) (d' := 1) C K dX5_maySit_21 rfl yk_X5_isBeside kT_yX5_isBeside kM_RX5_83 (by decide) hR0 rfl ?_
      refine c_X5_isBeside (by omega) (fun b21 => ?_) (fun b21 => ?_)
      · refine z_ifF_eq (n := 27) (tgt := 45) C (by decide) dX5_maySit_24 rfl rfl ?_
        exact absurd b21 b1
      · refine z_ifT_eq (tgt := 45) C (by decide) dX5_maySit_24 rfl ?_
        refine z_aload_n (n := 46) C 0 dX5_maySit_45 rfl rfl ?_
        refine z_iload_n (n := 47) C 2 dX5_maySit_46 rfl rfl ?_
        refine z_iconst (n := 48) (v := 2) C dX5_maySit_47 rfl rfl ?_
        refine z_isub (n := 49) C dX5_maySit_48 rfl ?_
        refine z_vi_1 (n := 52) (d' := 1) C K dX5_maySit_49 rfl yk_X5_bitAt yv_X5_bitAt kM_RX5_87 (by decide) hR0 rfl rfl sh_57 (by decide) (by decide) ?_
        refine c_X5_bitAt hC.2.1 hl8 hr hlen hgl (two_neg _ (by omega)) ?_
        rw [bAt_2 (by omega)]
        refine z_istore_n (n := 53) (L' := [(3, _), (0, _), (1, _), (2, _)]) C dX5_maySit_52 rfl (by rw [hnL]; decide) rfl ?_
        refine z_aload_n (n := 54) C 1 dX5_maySit_53 rfl rfl ?_
        refine z_getR (n := 57) (q := 59) C K fF_RX5_15 dX5_maySit_54 rfl rfl sh_57 (by decide) rfl ?_
        refine z_iload_n (n := 58) C 2 dX5_maySit_57 rfl rfl ?_
        refine z_ialdN (n := 59) C K x dX5_maySit_58 rfl sh_59 (by decide) rfl (by omega) (by decide) ?_
        rw [show I 59 x = nI (tm T c x 2 &&& set) from (hC.2.2.2.2.2 x hx).2]
        refine z_iload_n (n := 60) C 0 dX5_maySit_59 rfl rfl ?_
        refine z_iand (n := 61) C dX5_maySit_60 rfl ?_
        rw [and_nI]
        refine z_if_ne (tgt := 68) (n := 64) C dX5_maySit_61 rfl rfl (fun c61 => ?_) (fun c61 => ?_)
        · refine z_iconst (n := 69) (v := 0) C dX5_maySit_68 rfl rfl ?_
          refine z_zret C E dX5_maySit_69 (by decide) ?_
          exact h0 (fun q => by
            unfold okS at q
            rw [Bool.and_eq_true, Bool.and_eq_true, Bool.not_eq_true', Bool.not_eq_true'] at q
            exact c61 (by rw [(near_1 (hgc 1)).mpr q.2.2]; rfl))
        · refine z_iconst (n := 65) (v := 1) C dX5_maySit_64 rfl rfl ?_
          refine z_goto (n := 69) C dX5_maySit_65 rfl ?_
          refine z_zret C E dX5_maySit_69 (by decide) ?_
          have hz := nI_inj (b := 0) c61 (by have := Nat.and_le_left (n := (tm T c x 2 &&& set)) (m := btS (rs.getD 1 99)); have := Nat.and_le_right (n := tm T c x 2) (m := set); omega) (by decide)
          have z2 := (near_1 (hgc 1)).mp hz
          have hage : (decide (rs.length % 2 = 1) || decide (r ≤ ag x)) = true := by
            rw [hold x hx] at c15
            have h9 : decide (r ≤ ag x) = true := by
              cases hz : decide (r ≤ ag x) with
              | true => rfl
              | false => rw [hz] at c15; exact absurd rfl c15
            rw [h9, Bool.or_true]
          exact h1 (by unfold okS; rw [hage, decide_eq_false b21, z2]; rfl)
    · refine z_iconst (n := 19) (v := 0) C dX5_maySit_18 rfl rfl ?_
      refine z_zret C E dX5_maySit_19 (by decide) ?_
      exact h0 (fun q => by unfold okS at q; rw [hold x hx] at c15; rw [decide_eq_false b1, decide_eq_false (fun q2 => by rw [decide_eq_true q2] at c15; cases c15), Bool.or_false, Bool.false_and] at q; cases q)
set_option maxHeartbeats 4000000 in
set_option maxRecDepth 100000 in
theorem c_X5_hope {ad : Nat → Nat} {I : KI} {J : KJ} {t : Nat} {cnt loops emp W old c set r : Nat} {T : Nat → Nat → Nat} {ag : Nat → Nat} (hc10 : c ≤ 10) (hset : set < 2 ^ c) (hl8 : loops ≤ 8) (hW : W < 1024) (hold : ∀ x, x < c → old.testBit x = decide (r ≤ ag x)) (hold2 : old < 1024) (hWb : ∀ x y, set.testBit x = true → set.testBit y = true → T x y = 1 → W.testBit x = true ∧ W.testBit y = true) (hemp : emp % 2 = 0) (hemp2 : emp ≤ 98) (hC : rpC I cnt loops emp W old c (fun x => tm T c x 1 &&& set) (fun x => tm T c x 2 &&& set)) {rs : List Nat} (hlen : rs.length ≤ loops) (hr : rowA I 60 rs) (hin : ∀ y, y ∈ rs → y = 99 ∨ set.testBit y = true) {left : Nat} (hlt : left < 1024) {Q : Int32 → KI → KJ → KR → Prop} (hQ : Q (nI (hpS W left rs)) I J (rf t)) : Mi 2 yX5_hope (wm yX5_hope cX5_hope 4 (some .int)) [.ref (ad 57), .int (nI rs.length), .int (nI left)] ad I J (rf t) Q := by
  refine mi_of (own := RX5) yk_X5_hope rfl (Nat.le_of_ble_eq_true rfl) rfl (fun X hA hnL C K E => ?_)
  subst hA
  have h1024 : 2 ^ c ≤ 2 ^ 10 := Nat.pow_le_pow_right (by decide) hc10
  have hs1024 : set < 1024 := by omega
  have hgi := getD_in hin
  have hgl : ∀ i, rs.getD i 99 = 99 ∨ rs.getD i 99 < 10 := fun i => (hgi i).imp id (fun q => bit_lt10 hs1024 q)
  have hgc : ∀ i, rs.getD i 99 = 99 ∨ (set.testBit (rs.getD i 99) = true ∧ rs.getD i 99 < c) := fun i => (hgi i).imp id (fun q => ⟨q, by
    by_cases e : rs.getD i 99 < c
    · exact e
    · rw [Nat.testBit_lt_two_pow (Nat.lt_of_lt_of_le hset (Nat.pow_le_pow_right (by decide) (by omega)))] at q; cases q⟩)
  have hbt0 := btS_lt hs1024 (hgi 0)
  have hbt1 := btS_lt hs1024 (hgi 1)
  refine z_iload_n (n := 1) C 1 dX5_hope_0 rfl rfl ?_
  refine z_si_1 (n := 4) (d' := 1) C K dX5_hope_1 rfl yk_X5_isBeside kT_yX5_isBeside kM_RX5_83 (by decide) hR0 rfl ?_
  refine c_X5_isBeside (by omega) (fun b1 => ?_) (fun b1 => ?_)
  · refine z_ifF_eq (n := 7) (tgt := 19) C (by decide) dX5_hope_4 rfl rfl ?_
    refine z_iload_n (n := 8) C 2 dX5_hope_7 rfl rfl ?_
    refine z_aload_n (n := 9) C 0 dX5_hope_8 rfl rfl ?_
    refine z_iload_n (n := 10) C 1 dX5_hope_9 rfl rfl ?_
    refine z_iconst (n := 11) (v := 1) C dX5_hope_10 rfl rfl ?_
    refine z_isub (n := 12) C dX5_hope_11 rfl ?_
    rw [nI_s1 _ (by omega)]
    refine z_vi_1 (n := 15) (d' := 1) C K dX5_hope_12 rfl yk_X5_bitAt yv_X5_bitAt kM_RX5_87 (by decide) hR0 rfl rfl sh_57 (by decide) (by decide) ?_
    refine c_X5_bitAt hC.2.1 hl8 hr hlen hgl (Or.inr (isN_nI (by omega) (by omega))) ?_
    rw [bAt_1 (by omega) (by omega)]
    refine z_ior (n := 16) C dX5_hope_15 rfl ?_
    rw [or_nI]
    refine z_goto (n := 20) C dX5_hope_16 rfl ?_
    have eop : opS left rs = left ||| btS (rs.getD 0 99) := by unfold opS; rw [if_pos b1]
    rw [← eop]
    have hand : opS left rs &&& W < 1024 := Nat.lt_of_le_of_lt Nat.and_le_right hW
    refine z_istore_n (n := 21) (L' := [(3, _), (0, _), (1, _), (2, _)]) C dX5_hope_20 rfl (by rw [hnL]; decide) rfl ?_
    refine z_iload_n (n := 22) C 0 dX5_hope_21 rfl rfl ?_
    refine z_aload_n (n := 23) C 1 dX5_hope_22 rfl rfl ?_
    refine z_getI (n := 26) C K fF_RX5_38 dX5_hope_23 rfl sh_57 (by decide) ?_
    rw [hC.2.2.2.2.1]
    refine z_iand (n := 27) C dX5_hope_26 rfl ?_
    rw [and_nI]
    refine z_si_1 (n := 30) (d' := 1) C K dX5_hope_27 rfl yk_J6_bitCount_0f7a4 kT_yJ6_bitCount_0f7a4 kM_RX5_56 (by decide) hR0 rfl ?_
    refine c_J6_bitCount_0f7a4 hand ?_
    rw [popS_of (show opS left rs &&& W < 2 ^ 10 from hand) (by decide)]
    have hpl := pop_le (opS left rs &&& W) 10
    refine z_iconst (n := 31) (v := 2) C dX5_hope_30 rfl rfl ?_
    refine z_idiv (n := 32) C dX5_hope_31 rfl (by decide) ?_
    refine z_iret C E dX5_hope_32 ?_
    exact eqQ (by rw [show (2 : Int32) = nI 2 from rfl, pk_div (by omega) (by decide) (by decide)]; rfl) hQ
  · refine z_ifT_eq (tgt := 19) C (by decide) dX5_hope_4 rfl ?_
    refine z_iload_n (n := 20) C 2 dX5_hope_19 rfl rfl ?_
    have eop : opS left rs = left := by unfold opS; rw [if_neg b1]
    rw [← eop]
    have hand : opS left rs &&& W < 1024 := Nat.lt_of_le_of_lt Nat.and_le_right hW
    refine z_istore_n (n := 21) (L' := [(3, _), (0, _), (1, _), (2, _)]) C dX5_hope_20 rfl (by rw [hnL]; decide) rfl ?_
    refine z_iload_n (n := 22) C 0 dX5_hope_21 rfl rfl ?_
    refine z_aload_n (n := 23) C 1 dX5_hope_22 rfl rfl ?_
    refine z_getI (n := 26) C K fF_RX5_38 dX5_hope_23 rfl sh_57 (by decide) ?_
    rw [hC.2.2.2.2.1]
    refine z_iand (n := 27) C dX5_hope_26 rfl ?_
    rw [and_nI]
    refine z_si_1 (n := 30) (d' := 1) C K dX5_hope_27 rfl yk_J6_bitCount_0f7a4 kT_yJ6_bitCount_0f7a4 kM_RX5_56 (by decide) hR0 rfl ?_
    refine c_J6_bitCount_0f7a4 hand ?_
    rw [popS_of (show opS left rs &&& W < 2 ^ 10 from hand) (by decide)]
    have hpl := pop_le (opS left rs &&& W) 10
    refine z_iconst (n := 31) (v := 2) C dX5_hope_30 rfl rfl ?_
    refine z_idiv (n := 32) C dX5_hope_31 rfl (by decide) ?_
    refine z_iret C E dX5_hope_32 ?_
    exact eqQ (by rw [show (2 : Int32) = nI 2 from rfl, pk_div (by omega) (by decide) (by decide)]; rfl) hQ
set_option maxHeartbeats 4000000 in
set_option maxRecDepth 100000 in
theorem l_X5_take {X : KX} {J : KJ} {t : Nat} (C : Cx X RX5 cX5_take 1) (K : Kx X) (hnL : xnL X = 3) {Q : KI → KJ → KR → Prop} (E : Ev X Q) {I : KI} {loops : Nat} {rs : List Nat} {av : Int32} (hl8 : loops ≤ 8) (hL : I 57 5 = nI loops) (hlen : rs.length = loops) (hr : rowA I 60 rs) (hQ : ∀ I1, (∀ q, q ≠ 61 → I1 q = I q) → rowA I1 61 rs → Q I1 J (rf t)) : ∀ (f i : Nat) (I1 : KI), loops - i < f → (i ≤ loops ∧ (∀ q, q ≠ 61 → I1 q = I q) ∧ ∀ j, j < i → I1 61 j = I 60 j) → Z X 0 0 (V X I1 J (rf t)) 25 [(2, .int (nI i)), (0, .ref (xad X 57)), (1, .int av)] [] := by
  intro f
  induction f with
  | zero => intro i I1 h; omega
  | succ f ih =>
    intro i I1 hf hi
    obtain ⟨hil, hfr, hv⟩ := hi
    refine z_iload_n (n := 26) C 0 dX5_take_25 rfl rfl ?_
    refine z_aload_n (n := 27) C 1 dX5_take_26 rfl rfl ?_
    refine z_getI (n := 30) C K fF_RX5_28 dX5_take_27 rfl sh_57 (by decide) ?_
    rw [hfr 57 (by decide), hL]
    refine z_icmp_ge (tgt := 51) (n := 33) C dX5_take_30 rfl rfl (fun c30 => ?_) (fun c30 => ?_)
    · refine z_vret C E dX5_take_51 ?_
      rw [fa_le, nI_toInt (by omega), nI_toInt (by omega)] at c30
      exact hQ I1 hfr (fun j hj => by rw [hv j (by omega)]; exact hr j hj)
    · rw [fa_le, nI_toInt (by omega), nI_toInt (by omega)] at c30
      refine z_aload_n (n := 34) C 1 dX5_take_33 rfl rfl ?_
      refine z_getR (n := 37) (q := 61) C K fF_RX5_21 dX5_take_34 rfl rfl sh_57 (by decide) rfl ?_
      refine z_iload_n (n := 38) C 0 dX5_take_37 rfl rfl ?_
      refine z_aload_n (n := 39) C 1 dX5_take_38 rfl rfl ?_
      refine z_getR (n := 42) (q := 60) C K fF_RX5_18 dX5_take_39 rfl rfl sh_57 (by decide) rfl ?_
      refine z_iload_n (n := 43) C 0 dX5_take_42 rfl rfl ?_
      refine z_ialdN (n := 44) C K i dX5_take_43 rfl sh_60 (by decide) rfl (by omega) (by decide) ?_
      rw [hfr 60 (by decide)]
      refine z_iastN (n := 45) C K i dX5_take_44 rfl sh_61 (by decide) rfl (by omega) (by decide) ?_
      refine z_iincG (n := 48) (c := 1) (L' := [(2, _), (0, _), (1, _)]) C 0 dX5_take_45 rfl rfl rfl (by rw [hnL]; decide) rfl ?_
      refine z_goto (n := 25) C dX5_take_48 rfl ?_
      rw [nI_1]
      exact ih (i + 1) _ (by omega) ⟨by omega, fun q hq => by rw [upI_row _ _ hq]; exact hfr q hq, fun j hj => by
        by_cases e : j = i
        · subst e; rw [upI_same]
        · rw [upI_k _ _ e]; exact hv j (by omega)⟩
set_option maxHeartbeats 4000000 in
set_option maxRecDepth 100000 in
theorem c_X5_take {ad : Nat → Nat} {I : KI} {J : KJ} {t : Nat} {cnt loops emp W old c set : Nat} {T : Nat → Nat → Nat} (hC : rpC I cnt loops emp W old c (fun x => tm T c x 1 &&& set) (fun x => tm T c x 2 &&& set)) (hl8 : loops ≤ 8) {rs : List Nat} {f : Nat} {b : Nat × List Nat} (hlen : rs.length = loops) (hr : rowA I 60 rs) (hF : I 57 9 = nI f) (hB : I 57 10 = nI b.1 + (-1)) (hb10 : b.1 ≤ 10) (hbs : b.1 ≠ 0 → rowA I 61 b.2 ∧ b.2.length = loops)  {Q : KI → KJ → KR → Prop} (hQ : ∀ I', (∀ q, q ≠ 57 → q ≠ 61 → I' q = I q) → (∀ j, j ≠ 9 → j ≠ 10 → I' 57 j = I 57 j) → I' 57 9 = nI (f + 1) → I' 57 10 = nI (bsF (rowF T) [rs] b).1 + (-1) → (bsF (rowF T) [rs] b).1 ≤ 10 → ((bsF (rowF T) [rs] b).1 ≠ 0 → rowA I' 61 (bsF (rowF T) [rs] b).2 ∧ (bsF (rowF T) [rs] b).2.length = loops) → Q I' J (rf t))  : Mv 1 yX5_take (wm yX5_take cX5_take 3 none) [.ref (ad 57), .int (nI (rowS T rs))] ad I J (rf t) Q := by
  refine mv_of (own := RX5) yk_X5_take rfl (Nat.le_of_ble_eq_true rfl) rfl (fun X hA hnL C K E => ?_)
  subst hA
  have hrl := rowS_le T rs
  refine z_aload_n (n := 1) C 0 dX5_take_0 rfl rfl ?_
  refine z_dup (n := 2) C dX5_take_1 rfl rfl ?_
  refine z_getI (n := 5) C K fF_RX5_41 dX5_take_2 rfl sh_57 (by decide) ?_
  refine z_iconst (n := 6) (v := 1) C dX5_take_5 rfl rfl ?_
  rw [hF]
  refine z_iadd (n := 7) C dX5_take_6 rfl ?_
  rw [nI_1]
  refine z_putI (n := 10) C K fF_RX5_41 dX5_take_7 rfl sh_57 (by decide) ?_
  refine z_iload_n (n := 11) C 1 dX5_take_10 rfl rfl ?_
  refine z_aload_n (n := 12) C 0 dX5_take_11 rfl rfl ?_
  refine z_getI (n := 15) C K fF_RX5_44 dX5_take_12 rfl sh_57 (by decide) ?_
  rw [upI_k _ _ (by decide), hB]
  refine z_icmp_le (tgt := 51) (n := 18) C dX5_take_15 rfl rfl (fun c15 => ?_) (fun c15 => ?_)
  · refine z_vret C E dX5_take_51 ?_
    rw [fa_le, nI_m1 _ (by omega), nI_toInt (by omega)] at c15
    have ebn : bsF (rowF T) [rs] b = b := by rw [bsF, if_neg (show ¬ b.1 < rowF T rs by unfold rowF; omega)]; rfl
    exact hQ _ (fun q q1 _ => upI_row _ _ q1) (fun j j1 _ => upI_k _ _ j1) (upI_same _ _ _ _) (by rw [upI_k _ _ (by decide), ebn]; exact hB) (by rw [ebn]; exact hb10) (by rw [ebn]; exact fun e => ⟨(hbs e).1.fr (fun i _ => by rw [upI_row _ _ (by decide)]), (hbs e).2⟩)
  · rw [fa_le, nI_m1 _ (by omega), nI_toInt (by omega)] at c15
    have hlt : b.1 < rowF T rs := by unfold rowF; omega
    have ebn : bsF (rowF T) [rs] b = (rowF T rs, rs) := by rw [bsF, if_pos hlt]; rfl
    refine z_aload_n (n := 19) C 0 dX5_take_18 rfl rfl ?_
    refine z_iload_n (n := 20) C 1 dX5_take_19 rfl rfl ?_
    refine z_putI (n := 23) C K fF_RX5_44 dX5_take_20 rfl sh_57 (by decide) ?_
    refine z_iconst (n := 24) (v := 0) C dX5_take_23 rfl rfl ?_
    refine z_istore_n (n := 25) (L' := [(2, _), (0, _), (1, _)]) C dX5_take_24 rfl (by rw [hnL]; decide) rfl ?_
    refine l_X5_take C K hnL E (I := upI (upI I 57 9 (nI (f + 1))) 57 10 (nI (rowS T rs))) hl8 (by rw [upI_k _ _ (by decide), upI_k _ _ (by decide)]; exact hC.2.1) hlen (hr.fr (fun i _ => by rw [upI_row _ _ (by decide), upI_row _ _ (by decide)])) (fun I1 hf1 hr1 => ?_) (loops + 1) 0 _ (by omega) ⟨Nat.zero_le _, fun _ _ => rfl, fun j hj => by omega⟩
    refine hQ I1 (fun q q1 q2 => by rw [hf1 q q2, upI_row _ _ q1, upI_row _ _ q1]) (fun j j1 j2 => by rw [hf1 57 (by decide), upI_k _ _ j2, upI_k _ _ j1]) (by rw [hf1 57 (by decide), upI_k _ _ (by decide), upI_same]) (by rw [hf1 57 (by decide), upI_same, ebn]; exact nI_back _) (by rw [ebn]; show rowF T rs ≤ 10; unfold rowF; omega) (fun _ => by rw [ebn]; exact ⟨hr1, hlen⟩)
set_option maxHeartbeats 4000000 in
set_option maxRecDepth 100000 in
theorem fill_0 {ad : Nat → Nat} {J : KJ} {t : Nat} {cnt loops emp W old c set r : Nat} {T : Nat → Nat → Nat} {ag : Nat → Nat} (hc10 : c ≤ 10) (hset : set < 2 ^ c) (hl8 : loops ≤ 8) (hW : W < 1024) (hold : ∀ x, x < c → old.testBit x = decide (r ≤ ag x)) (hold2 : old < 1024) (hWb : ∀ x y, set.testBit x = true → set.testBit y = true → T x y = 1 → W.testBit x = true ∧ W.testBit y = true) (hemp : emp % 2 = 0) (hemp2 : emp ≤ 98) : fillP ad J t cnt loops emp W old c set r T ag 0 := by
  intro I rs left f b Q hlk hC hr hin hl hlt hF hB hb10 hbs hQ
  refine mv_of (own := RX5) yk_X5_fill rfl (Nat.le_of_ble_eq_true rfl) rfl (fun X hA hnL C K E => ?_)
  subst hA
  refine z_iload_n (n := 1) C 1 dX5_fill_0 rfl rfl ?_
  refine z_aload_n (n := 2) C 0 dX5_fill_1 rfl rfl ?_
  refine z_getI (n := 5) C K fF_RX5_28 dX5_fill_2 rfl sh_57 (by decide) ?_
  rw [hC.2.1]
  refine z_icmpF_lt (n := 8) (tgt := 14) C (by rw [fa_lt, nI_toInt (by omega), nI_toInt (by omega)]; omega) dX5_fill_5 rfl rfl ?_
  refine z_aload_n (n := 9) C 0 dX5_fill_8 rfl rfl ?_
  refine z_iload_n (n := 10) C 3 dX5_fill_9 rfl rfl ?_
  refine z_vv_1 (n := 13) (d' := 1) C K dX5_fill_10 rfl yk_X5_take yv_X5_take kM_RX5_72 (by decide) hR0 rfl rfl sh_57 (by decide) (by decide) ?_
  refine c_X5_take (T := T) hC hl8 (by omega) hr hF hB hb10 hbs (fun I2 hf2 hj2 h9 h10 hb2 hs2 => ?_)
  refine z_vret C E dX5_fill_13 ?_
  exact hQ I2 (f + 1) (fun q q1 _ q3 => hf2 q q1 q3) hj2 (fun i _ => by rw [hf2 60 (by decide) (by decide)]) (fun _ => rfl) h9 h10 hb2 hs2
set_option maxHeartbeats 4000000 in
set_option maxRecDepth 100000 in
theorem fill_L {X : KX} {J : KJ} {t k : Nat} (C : Cx X RX5 cX5_fill (k + 1 + 3)) (K : Kx X) (hnL : xnL X = 6) {cnt loops emp W old c set r : Nat} {T : Nat → Nat → Nat} {ag : Nat → Nat} (hc10 : c ≤ 10) (hset : set < 2 ^ c) (hl8 : loops ≤ 8) (hW : W < 1024) (hold : ∀ x, x < c → old.testBit x = decide (r ≤ ag x)) (hold2 : old < 1024) (hWb : ∀ x y, set.testBit x = true → set.testBit y = true → T x y = 1 → W.testBit x = true ∧ W.testBit y = true) (hemp : emp % 2 = 0) (hemp2 : emp ≤ 98) (hfill : fillP (xad X) J t cnt loops emp W old c set r T ag k) {Q : KI → KJ → KR → Prop} (E : Ev X Q) {I : KI} {rs : List Nat} {left f : Nat} {b : Nat × List Nat} (hlk : rs.length + (k + 1) = loops) (hC : rpC I cnt loops emp W old c (fun x => tm T c x 1 &&& set) (fun x => tm T c x 2 &&& set)) (hr : rowA I 60 rs) (hin : ∀ y, y ∈ rs → y = 99 ∨ set.testBit y = true) (hl : lfS set rs left) (hlt : left < 1024) (hQ : ∀ I' f', (∀ q, q ≠ 57 → q ≠ 60 → q ≠ 61 → I' q = I q) → (∀ j, j ≠ 9 → j ≠ 10 → I' 57 j = I 57 j) → (∀ i, i < rs.length → I' 60 i = I 60 i) → (cnt = 1 → f' = f + (fillX (cdS set T ag r) emp k rs 0).length) → I' 57 9 = nI f' → I' 57 10 = nI (bsF (rowF T) (fillX (cdS set T ag r) emp k rs 0) b).1 + (-1) → (bsF (rowF T) (fillX (cdS set T ag r) emp k rs 0) b).1 ≤ 10 → ((bsF (rowF T) (fillX (cdS set T ag r) emp k rs 0) b).1 ≠ 0 → rowA I' 61 (bsF (rowF T) (fillX (cdS set T ag r) emp k rs 0) b).2 ∧ (bsF (rowF T) (fillX (cdS set T ag r) emp k rs 0) b).2.length = loops) → Q I' J (rf t)) : ∀ (g x : Nat) (I1 : KI) (f1 : Nat) (b1 : Nat × List Nat), 10 - x < g → (x ≤ 10 ∧ (∀ q, q ≠ 57 → q ≠ 60 → q ≠ 61 → I1 q = I q) ∧ (∀ j, j ≠ 9 → j ≠ 10 → I1 57 j = I 57 j) ∧ (∀ i, i < rs.length → I1 60 i = I 60 i) ∧ (cnt = 1 → f1 + (fillX (cdS set T ag r) emp k rs x).length = f + (fillX (cdS set T ag r) emp k rs 0).length) ∧ I1 57 9 = nI f1 ∧ I1 57 10 = nI b1.1 + (-1) ∧ b1.1 ≤ 10 ∧ (b1.1 ≠ 0 → rowA I1 61 b1.2 ∧ b1.2.length = loops) ∧ bsF (rowF T) (fillX (cdS set T ag r) emp k rs x) b1 = bsF (rowF T) (fillX (cdS set T ag r) emp k rs 0) b) → Z X 0 0 (V X I1 J (rf t)) 66 [(4, .int (nI x)), (0, .ref (xad X 57)), (1, .int (nI rs.length)), (2, .int (nI left)), (3, .int (nI (rowS T rs)))] [] := by
  intro g
  induction g with
  | zero => intro x I1 f1 b1 h; omega
  | succ g ih =>
    intro x I1 f1 b1 hf hi
    obtain ⟨hx10, hfr, hfj, hfs, hfc, h9, h10, hb1, hs1, hbf⟩ := hi
    have hlen : rs.length ≤ loops := by omega
    have h1024 : 2 ^ c ≤ 2 ^ 10 := Nat.pow_le_pow_right (by decide) hc10
    have hs1024 : set < 1024 := by omega
    have hgi := getD_in hin
    have hgl : ∀ i, rs.getD i 99 = 99 ∨ rs.getD i 99 < 10 := fun i => (hgi i).imp id (fun q => bit_lt10 hs1024 q)
    have hgc : ∀ i, rs.getD i 99 = 99 ∨ (set.testBit (rs.getD i 99) = true ∧ rs.getD i 99 < c) := fun i => (hgi i).imp id (fun q => ⟨q, by
      by_cases e : rs.getD i 99 < c
      · exact e
      · rw [Nat.testBit_lt_two_pow (Nat.lt_of_lt_of_le hset (Nat.pow_le_pow_right (by decide) (by omega)))] at q; cases q⟩)
    have hbt0 := btS_lt hs1024 (hgi 0)
    have hbt1 := btS_lt hs1024 (hgi 1)
    have hrl := rowS_le T rs
    have hC1 : rpC I1 cnt loops emp W old c (fun x => tm T c x 1 &&& set) (fun x => tm T c x 2 &&& set) := hC.fr hfj (hfr 58 (by decide) (by decide) (by decide)) (hfr 59 (by decide) (by decide) (by decide))
    have hr1 : rowA I1 60 rs := hr.fr hfs
    refine z_iload (n := 68) C 0 dX5_fill_66 rfl rfl ?_
    refine z_bipush (n := 70) (v := 10) C dX5_fill_68 rfl rfl ?_
    refine z_icmp_ge (tgt := 156) (n := 73) C dX5_fill_70 rfl rfl (fun c70 => ?_) (fun c70 => ?_)
    · refine z_vret C E dX5_fill_156 ?_
      rw [fa_le, nI_toInt (by omega)] at c70
      simp only [Int32.reduceToInt] at c70
      rw [fillX_end _ _ _ _ (by omega)] at hbf hfc
      rw [bsF] at hbf
      exact hQ I1 f1 hfr hfj hfs (fun e => by have := hfc e; rw [← this]; rfl) h9 (by rw [← hbf]; exact h10) (by rw [← hbf]; exact hb1) (by rw [← hbf]; exact hs1)
    · rw [fa_le, nI_toInt (by omega)] at c70
      simp only [Int32.reduceToInt] at c70
      refine z_iload_n (n := 74) C 3 dX5_fill_73 rfl rfl ?_
      refine z_iload (n := 76) C 0 dX5_fill_74 rfl rfl ?_
      refine z_ishr (n := 77) C dX5_fill_76 rfl ?_
      refine z_iconst (n := 78) (v := 1) C dX5_fill_77 rfl rfl ?_
      refine z_iand (n := 79) C dX5_fill_78 rfl ?_
      rw [bt_nI (by omega) (by omega)]
      refine z_if_eq (tgt := 150) (n := 82) C dX5_fill_79 rfl rfl (fun c79 => ?_) (fun c79 => ?_)
      · refine z_iincG (n := 153) (c := 1) (L' := [(4, _), (0, _), (1, _), (2, _), (3, _)]) C 0 dX5_fill_150 rfl rfl rfl (by rw [hnL]; decide) rfl ?_
        refine z_goto (n := 66) C dX5_fill_153 rfl ?_
        rw [nI_1]
        have hst : fillX (cdS set T ag r) emp k rs x = fillX (cdS set T ag r) emp k rs (x + 1) := fillX_no (by omega) (eq_false_of_ne_true (fun q => by unfold cdS at q; rw [Bool.and_eq_true, Bool.and_eq_true] at q; have hz := hl x; rw [q.1, q.2.1] at hz; rw [hz] at c79; exact absurd c79 (by decide)))
        exact ih (x + 1) I1 f1 b1 (by omega) ⟨by omega, hfr, hfj, hfs, fun e => by rw [← hst]; exact hfc e, h9, h10, hb1, hs1, by rw [← hbf, hst]⟩
      · have hlx : left.testBit x = true := by
          cases hz : left.testBit x with
          | true => rfl
          | false => rw [hz] at c79; exact absurd rfl c79
        have hsx : set.testBit x = true ∧ rs.contains x = false := by
          have := hl x
          rw [hlx] at this
          revert this
          cases set.testBit x <;> cases rs.contains x <;> simp
        have hxc : x < c := by
          by_cases e : x < c
          · exact e
          · have q := hsx.1
            rw [Nat.testBit_lt_two_pow (Nat.lt_of_lt_of_le hset (Nat.pow_le_pow_right (by decide) (by omega)))] at q; cases q
        refine z_aload_n (n := 83) C 1 dX5_fill_82 rfl rfl ?_
        refine z_iload (n := 85) C 0 dX5_fill_83 rfl rfl ?_
        refine z_iload_n (n := 86) C 2 dX5_fill_85 rfl rfl ?_
        refine z_vi_2 (n := 89) (d' := 2) C K dX5_fill_86 rfl yk_X5_maySit yv_X5_maySit kM_RX5_79 (by omega) hR0 rfl rfl sh_57 (by decide) (by decide) ?_
        refine c_X5_maySit (W := W) hc10 hset hl8 hW hold hold2 hWb hemp hemp2 hC1 hlen hr1 hin hxc (fun b86 => ?_) (fun b86 => ?_)
        · refine z_ifF_eq (n := 92) (tgt := 150) C (by decide) dX5_fill_89 rfl rfl ?_
          have hcd : cdS set T ag r rs x = true := by unfold cdS; rw [hsx.1, hsx.2, b86]; rfl
          refine z_aload_n (n := 93) C 1 dX5_fill_92 rfl rfl ?_
          refine z_getR (n := 96) (q := 60) C K fF_RX5_18 dX5_fill_93 rfl rfl sh_57 (by decide) rfl ?_
          refine z_iload_n (n := 97) C 2 dX5_fill_96 rfl rfl ?_
          refine z_iload (n := 99) C 0 dX5_fill_97 rfl rfl ?_
          refine z_iastN (n := 100) C K rs.length dX5_fill_99 rfl sh_60 (by decide) rfl (by omega) (by decide) ?_
          refine z_iload_n (n := 101) C 2 dX5_fill_100 rfl rfl ?_
          refine z_si_1 (n := 104) (d' := 1) C K dX5_fill_101 rfl yk_X5_isBeside kT_yX5_isBeside kM_RX5_83 (by omega) hR0 rfl ?_
          refine c_X5_isBeside (by omega) (fun b101 => ?_) (fun b101 => ?_)
          · have hr2 : rowA (upI I1 60 rs.length (nI x)) 60 rs := hr1.fr (fun i hi => upI_k _ _ (by omega))
            have hrx : rowA (upI I1 60 rs.length (nI x)) 60 (x :: rs) := hr2.cons (by rw [upI_same]; exact (if_neg (by omega)).symm)
            have hC2 : rpC (upI I1 60 rs.length (nI x)) cnt loops emp W old c (fun x => tm T c x 1 &&& set) (fun x => tm T c x 2 &&& set) := hC1.fr (fun j _ _ => by rw [upI_row _ _ (by decide)]) (upI_row _ _ (by decide)) (upI_row _ _ (by decide))
            refine z_ifF_eq (n := 107) (tgt := 125) C (by decide) dX5_fill_104 rfl rfl ?_
            refine z_aload_n (n := 108) C 1 dX5_fill_107 rfl rfl ?_
            refine z_getR (n := 111) (q := 58) C K fF_RX5_9 dX5_fill_108 rfl rfl sh_57 (by decide) rfl ?_
            refine z_iload (n := 113) C 0 dX5_fill_111 rfl rfl ?_
            refine z_ialdN (n := 114) C K x dX5_fill_113 rfl sh_58 (by decide) rfl (by omega) (by decide) ?_
            refine z_aload_n (n := 115) C 1 dX5_fill_114 rfl rfl ?_
            refine z_iload_n (n := 116) C 2 dX5_fill_115 rfl rfl ?_
            refine z_iconst (n := 117) (v := 1) C dX5_fill_116 rfl rfl ?_
            refine z_isub (n := 118) C dX5_fill_117 rfl ?_
            rw [show upI I1 60 rs.length (nI x) 58 x = nI (tm T c x 1 &&& set) from (hC2.2.2.2.2.2 x hxc).1, nI_s1 _ (by omega)]
            refine z_vi_1 (n := 121) (d' := 1) C K dX5_fill_118 rfl yk_X5_bitAt yv_X5_bitAt kM_RX5_87 (by omega) hR0 rfl rfl sh_57 (by decide) (by decide) ?_
            refine c_X5_bitAt hC2.2.1 hl8 hr2 hlen hgl (Or.inr (isN_nI (by omega) (by omega))) ?_
            rw [bAt_1 (by omega) (by omega)]
            refine z_iand (n := 122) C dX5_fill_121 rfl ?_
            rw [and_nI]
            refine z_goto (n := 126) C dX5_fill_122 rfl ?_
            obtain ⟨mo, emo⟩ : ∃ mo, (tm T c x 1 &&& set) &&& btS (rs.getD 0 99) = mo := ⟨_, rfl⟩
            have hmo : mo < 1024 := by rw [← emo]; exact Nat.lt_of_le_of_lt Nat.and_le_right hbt0
            have hrow : rowS T (x :: rs) = rowS T rs + popS mo := by
              rw [rowS, ← emo, more_1 hs1024 (hgc 0)]
              by_cases e : frS T (rs.getD 0 99) x = true
              · rw [if_pos ⟨b101, e⟩, if_pos e]
              · rw [if_neg (fun q => e q.2), if_neg e]
            rw [emo]
            refine z_istore (n := 128) (L' := [(5, _), (4, _), (0, _), (1, _), (2, _), (3, _)]) C dX5_fill_126 rfl (by rw [hnL]; decide) rfl ?_
            refine z_aload_n (n := 129) C 2 dX5_fill_128 rfl rfl ?_
            refine z_iload_n (n := 130) C 3 dX5_fill_129 rfl rfl ?_
            refine z_iconst (n := 131) (v := 1) C dX5_fill_130 rfl rfl ?_
            refine z_iadd (n := 132) C dX5_fill_131 rfl ?_
            refine z_iload_n (n := 133) C 4 dX5_fill_132 rfl rfl ?_
            refine z_iconst (n := 134) (v := 1) C dX5_fill_133 rfl rfl ?_
            refine z_iload (n := 136) C 1 dX5_fill_134 rfl rfl ?_
            refine z_ishl (n := 137) C dX5_fill_136 rfl ?_
            refine z_iconst (n := 138) (v := (-1)) C dX5_fill_137 rfl rfl ?_
            rw [one_shl x (by omega)]
            refine z_ixor (n := 139) C dX5_fill_138 rfl ?_
            refine z_iand (n := 140) C dX5_fill_139 rfl ?_
            rw [clr_nI]
            have hcle := clr_le left (2 ^ x)
            refine z_iload_n (n := 141) C 5 dX5_fill_140 rfl rfl ?_
            refine z_iload (n := 143) C 0 dX5_fill_141 rfl rfl ?_
            refine z_si_1 (n := 146) (d' := 1) C K dX5_fill_143 rfl yk_J6_bitCount_0f7a4 kT_yJ6_bitCount_0f7a4 kM_RX5_56 (by omega) hR0 rfl ?_
            refine c_J6_bitCount_0f7a4 hmo ?_
            refine z_iadd (n := 147) C dX5_fill_146 rfl ?_
            rw [nI_add, ← hrow, nI_1]
            refine z_sv_4 (n := 150) (d' := (k + 3)) C K dX5_fill_147 rfl yk_X5_fill kT_yX5_fill kM_RX5_68 (by omega) hR0 rfl ?_
            refine hfill _ (x :: rs) (clr left (2 ^ x)) f1 b1 _ (by rw [List.length_cons]; omega) hC2 hrx (fun y hy => by
              rcases List.mem_cons.mp hy with e | e
              · exact Or.inr (e ▸ hsx.1)
              · exact hin y e) hl.cons (by omega) (by rw [upI_row _ _ (by decide)]; exact h9) (by rw [upI_row _ _ (by decide)]; exact h10) hb1 (fun e => ⟨(hs1 e).1.fr (fun i _ => by rw [upI_row _ _ (by decide)]), (hs1 e).2⟩) (fun I3 f3 hf3 hj3 hr3 hc3 h93 h103 hb3 hs3 => ?_)
            refine z_iincG (n := 153) (c := 1) (L' := [(4, _), (5, _), (0, _), (1, _), (2, _), (3, _)]) C 1 dX5_fill_150 rfl rfl rfl (by rw [hnL]; decide) rfl ?_
            refine z_goto (n := 66) C dX5_fill_153 rfl ?_
            refine z_sub (L' := [(4, _), (0, _), (1, _), (2, _), (3, _)]) [0, 2, 3, 4, 5] rfl ?_
            rw [nI_1]
            have hst : fillX (cdS set T ag r) emp k rs x = fillS (cdS set T ag r) emp k (x :: rs) ++ fillX (cdS set T ag r) emp k rs (x + 1) := fillX_yes (by omega) hcd
            exact ih (x + 1) I3 f3 _ (by omega) ⟨by omega, fun q q1 q2 q3 => by rw [hf3 q q1 q2 q3, upI_row _ _ q2]; exact hfr q q1 q2 q3, fun j j1 j2 => by rw [hj3 j j1 j2, upI_row _ _ (by decide)]; exact hfj j j1 j2, fun i hi => by rw [hr3 i (by rw [List.length_cons]; omega), upI_k _ _ (by omega)]; exact hfs i hi, fun e => by have q1 := hfc e; have q2 := hc3 e; rw [hst, List.length_append] at q1; omega, h93, h103, hb3, hs3, by rw [← hbf, hst, bsF_app]⟩
          · have hr2 : rowA (upI I1 60 rs.length (nI x)) 60 rs := hr1.fr (fun i hi => upI_k _ _ (by omega))
            have hrx : rowA (upI I1 60 rs.length (nI x)) 60 (x :: rs) := hr2.cons (by rw [upI_same]; exact (if_neg (by omega)).symm)
            have hC2 : rpC (upI I1 60 rs.length (nI x)) cnt loops emp W old c (fun x => tm T c x 1 &&& set) (fun x => tm T c x 2 &&& set) := hC1.fr (fun j _ _ => by rw [upI_row _ _ (by decide)]) (upI_row _ _ (by decide)) (upI_row _ _ (by decide))
            refine z_ifT_eq (tgt := 125) C (by decide) dX5_fill_104 rfl ?_
            refine z_iconst (n := 126) (v := 0) C dX5_fill_125 rfl rfl ?_
            obtain ⟨mo, emo⟩ : ∃ mo, 0 = mo := ⟨_, rfl⟩
            have hmo : mo < 1024 := by omega
            have hrow : rowS T (x :: rs) = rowS T rs + popS mo := by rw [rowS_even x (by omega), ← emo, popS_0]; rfl
            rw [show (0 : Int32) = nI mo by rw [← emo]; rfl]
            refine z_istore (n := 128) (L' := [(5, _), (4, _), (0, _), (1, _), (2, _), (3, _)]) C dX5_fill_126 rfl (by rw [hnL]; decide) rfl ?_
            refine z_aload_n (n := 129) C 2 dX5_fill_128 rfl rfl ?_
            refine z_iload_n (n := 130) C 3 dX5_fill_129 rfl rfl ?_
            refine z_iconst (n := 131) (v := 1) C dX5_fill_130 rfl rfl ?_
            refine z_iadd (n := 132) C dX5_fill_131 rfl ?_
            refine z_iload_n (n := 133) C 4 dX5_fill_132 rfl rfl ?_
            refine z_iconst (n := 134) (v := 1) C dX5_fill_133 rfl rfl ?_
            refine z_iload (n := 136) C 1 dX5_fill_134 rfl rfl ?_
            refine z_ishl (n := 137) C dX5_fill_136 rfl ?_
            refine z_iconst (n := 138) (v := (-1)) C dX5_fill_137 rfl rfl ?_
            rw [one_shl x (by omega)]
            refine z_ixor (n := 139) C dX5_fill_138 rfl ?_
            refine z_iand (n := 140) C dX5_fill_139 rfl ?_
            rw [clr_nI]
            have hcle := clr_le left (2 ^ x)
            refine z_iload_n (n := 141) C 5 dX5_fill_140 rfl rfl ?_
            refine z_iload (n := 143) C 0 dX5_fill_141 rfl rfl ?_
            refine z_si_1 (n := 146) (d' := 1) C K dX5_fill_143 rfl yk_J6_bitCount_0f7a4 kT_yJ6_bitCount_0f7a4 kM_RX5_56 (by omega) hR0 rfl ?_
            refine c_J6_bitCount_0f7a4 hmo ?_
            refine z_iadd (n := 147) C dX5_fill_146 rfl ?_
            rw [nI_add, ← hrow, nI_1]
            refine z_sv_4 (n := 150) (d' := (k + 3)) C K dX5_fill_147 rfl yk_X5_fill kT_yX5_fill kM_RX5_68 (by omega) hR0 rfl ?_
            refine hfill _ (x :: rs) (clr left (2 ^ x)) f1 b1 _ (by rw [List.length_cons]; omega) hC2 hrx (fun y hy => by
              rcases List.mem_cons.mp hy with e | e
              · exact Or.inr (e ▸ hsx.1)
              · exact hin y e) hl.cons (by omega) (by rw [upI_row _ _ (by decide)]; exact h9) (by rw [upI_row _ _ (by decide)]; exact h10) hb1 (fun e => ⟨(hs1 e).1.fr (fun i _ => by rw [upI_row _ _ (by decide)]), (hs1 e).2⟩) (fun I3 f3 hf3 hj3 hr3 hc3 h93 h103 hb3 hs3 => ?_)
            refine z_iincG (n := 153) (c := 1) (L' := [(4, _), (5, _), (0, _), (1, _), (2, _), (3, _)]) C 1 dX5_fill_150 rfl rfl rfl (by rw [hnL]; decide) rfl ?_
            refine z_goto (n := 66) C dX5_fill_153 rfl ?_
            refine z_sub (L' := [(4, _), (0, _), (1, _), (2, _), (3, _)]) [0, 2, 3, 4, 5] rfl ?_
            rw [nI_1]
            have hst : fillX (cdS set T ag r) emp k rs x = fillS (cdS set T ag r) emp k (x :: rs) ++ fillX (cdS set T ag r) emp k rs (x + 1) := fillX_yes (by omega) hcd
            exact ih (x + 1) I3 f3 _ (by omega) ⟨by omega, fun q q1 q2 q3 => by rw [hf3 q q1 q2 q3, upI_row _ _ q2]; exact hfr q q1 q2 q3, fun j j1 j2 => by rw [hj3 j j1 j2, upI_row _ _ (by decide)]; exact hfj j j1 j2, fun i hi => by rw [hr3 i (by rw [List.length_cons]; omega), upI_k _ _ (by omega)]; exact hfs i hi, fun e => by have q1 := hfc e; have q2 := hc3 e; rw [hst, List.length_append] at q1; omega, h93, h103, hb3, hs3, by rw [← hbf, hst, bsF_app]⟩
        · refine z_ifT_eq (tgt := 150) C (by decide) dX5_fill_89 rfl ?_
          refine z_iincG (n := 153) (c := 1) (L' := [(4, _), (0, _), (1, _), (2, _), (3, _)]) C 0 dX5_fill_150 rfl rfl rfl (by rw [hnL]; decide) rfl ?_
          refine z_goto (n := 66) C dX5_fill_153 rfl ?_
          rw [nI_1]
          have hst : fillX (cdS set T ag r) emp k rs x = fillX (cdS set T ag r) emp k rs (x + 1) := fillX_no (by omega) (eq_false_of_ne_true (fun q => by unfold cdS at q; rw [Bool.and_eq_true, Bool.and_eq_true] at q; exact b86 q.2.2))
          exact ih (x + 1) I1 f1 b1 (by omega) ⟨by omega, hfr, hfj, hfs, fun e => by rw [← hst]; exact hfc e, h9, h10, hb1, hs1, by rw [← hbf, hst]⟩
set_option maxHeartbeats 4000000 in
set_option maxRecDepth 100000 in
theorem fill_S {ad : Nat → Nat} {J : KJ} {t : Nat} {cnt loops emp W old c set r : Nat} {T : Nat → Nat → Nat} {ag : Nat → Nat} (hc10 : c ≤ 10) (hset : set < 2 ^ c) (hl8 : loops ≤ 8) (hW : W < 1024) (hold : ∀ x, x < c → old.testBit x = decide (r ≤ ag x)) (hold2 : old < 1024) (hWb : ∀ x y, set.testBit x = true → set.testBit y = true → T x y = 1 → W.testBit x = true ∧ W.testBit y = true) (hemp : emp % 2 = 0) (hemp2 : emp ≤ 98) {k : Nat} (hfill : fillP ad J t cnt loops emp W old c set r T ag k) : fillP ad J t cnt loops emp W old c set r T ag (k + 1) := by
  intro I rs left f b Q hlk hC hr hin hl hlt hF hB hb10 hbs hQ
  refine mv_of (own := RX5) yk_X5_fill rfl (Nat.le_of_ble_eq_true rfl) rfl (fun X hA hnL C K E => ?_)
  subst hA
  have hlen : rs.length ≤ loops := by omega
  have h1024 : 2 ^ c ≤ 2 ^ 10 := Nat.pow_le_pow_right (by decide) hc10
  have hs1024 : set < 1024 := by omega
  have hgi := getD_in hin
  have hgl : ∀ i, rs.getD i 99 = 99 ∨ rs.getD i 99 < 10 := fun i => (hgi i).imp id (fun q => bit_lt10 hs1024 q)
  have hgc : ∀ i, rs.getD i 99 = 99 ∨ (set.testBit (rs.getD i 99) = true ∧ rs.getD i 99 < c) := fun i => (hgi i).imp id (fun q => ⟨q, by
    by_cases e : rs.getD i 99 < c
    · exact e
    · rw [Nat.testBit_lt_two_pow (Nat.lt_of_lt_of_le hset (Nat.pow_le_pow_right (by decide) (by omega)))] at q; cases q⟩)
  have hbt0 := btS_lt hs1024 (hgi 0)
  have hbt1 := btS_lt hs1024 (hgi 1)
  have hrl := rowS_le T rs
  refine z_iload_n (n := 1) C 1 dX5_fill_0 rfl rfl ?_
  refine z_aload_n (n := 2) C 0 dX5_fill_1 rfl rfl ?_
  refine z_getI (n := 5) C K fF_RX5_28 dX5_fill_2 rfl sh_57 (by decide) ?_
  rw [hC.2.1]
  refine z_icmpT_lt (tgt := 14) C (by rw [fa_lt, nI_toInt (by omega), nI_toInt (by omega)]; omega) dX5_fill_5 rfl ?_
  refine z_aload_n (n := 15) C 0 dX5_fill_14 rfl rfl ?_
  refine z_getB (n := 18) C K fF_RX5_24 dX5_fill_15 rfl sh_57 (by decide) ?_
  refine z_if_ne (tgt := 37) (n := 21) C dX5_fill_18 rfl rfl (fun c18 => ?_) (fun c18 => ?_)
  · refine z_iload_n (n := 38) C 1 dX5_fill_37 rfl rfl ?_
    refine z_aload_n (n := 39) C 0 dX5_fill_38 rfl rfl ?_
    refine z_getI (n := 42) C K fF_RX5_32 dX5_fill_39 rfl sh_57 (by decide) ?_
    rw [hC.2.2.1]
    refine z_icmp_ne (tgt := 63) (n := 45) C dX5_fill_42 rfl rfl (fun c42 => ?_) (fun c42 => ?_)
    · refine z_iconst (n := 64) (v := 0) C dX5_fill_63 rfl rfl ?_
      refine z_istore (n := 66) (L' := [(4, _), (0, _), (1, _), (2, _), (3, _)]) C dX5_fill_64 rfl (by rw [hnL]; decide) rfl ?_
      have hne : rs.length ≠ emp := fun e => c42 (by rw [e]; unfold empI; rw [if_neg (by omega)])
      refine fill_L C K hnL hc10 hset hl8 hW hold hold2 hWb hemp hemp2 hfill E (by omega) hC hr hin hl hlt (fun I3 f3 q1 q2 q3 q4 q5 q6 q7 q8 => ?_) 11 0 I f b (by omega) ⟨Nat.zero_le _, fun _ _ _ _ => rfl, fun _ _ _ => rfl, fun _ _ => rfl, fun _ => rfl, hF, hB, hb10, hbs, rfl⟩
      rw [← fillS_X hne] at q4 q6 q7 q8
      exact hQ I3 f3 q1 q2 q3 q4 q5 q6 q7 q8
    · have hle : rs.length = emp := by
        unfold empI at c42
        by_cases e : emp = 98
        · rw [if_pos e] at c42
          have := congrArg Int32.toInt c42
          rw [nI_toInt (by omega)] at this
          simp only [Int32.reduceToInt] at this
          omega
        · rw [if_neg e] at c42
          exact nI_inj c42 (by omega) (by omega)
      have hr2 : rowA (upI I 60 rs.length (-9)) 60 (99 :: rs) := (hr.fr (fun i hi => upI_k _ _ (by omega))).cons (by rw [upI_same]; rfl)
      have hC2 : rpC (upI I 60 rs.length (-9)) cnt loops emp W old c (fun x => tm T c x 1 &&& set) (fun x => tm T c x 2 &&& set) := hC.fr (fun j _ _ => by rw [upI_row _ _ (by decide)]) (upI_row _ _ (by decide)) (upI_row _ _ (by decide))
      refine z_aload_n (n := 46) C 0 dX5_fill_45 rfl rfl ?_
      refine z_getR (n := 49) (q := 60) C K fF_RX5_18 dX5_fill_46 rfl rfl sh_57 (by decide) rfl ?_
      refine z_iload_n (n := 50) C 1 dX5_fill_49 rfl rfl ?_
      refine z_bipush (n := 52) (v := (-9)) C dX5_fill_50 rfl rfl ?_
      refine z_iastN (n := 53) C K rs.length dX5_fill_52 rfl sh_60 (by decide) rfl (by omega) (by decide) ?_
      refine z_aload_n (n := 54) C 0 dX5_fill_53 rfl rfl ?_
      refine z_iload_n (n := 55) C 1 dX5_fill_54 rfl rfl ?_
      refine z_iconst (n := 56) (v := 1) C dX5_fill_55 rfl rfl ?_
      refine z_iadd (n := 57) C dX5_fill_56 rfl ?_
      refine z_iload_n (n := 58) C 2 dX5_fill_57 rfl rfl ?_
      refine z_iload_n (n := 59) C 3 dX5_fill_58 rfl rfl ?_
      rw [nI_1, ← rowS_even (T := T) 99 (show rs.length % 2 = 0 by omega)]
      refine z_sv_4 (n := 62) (d' := (k + 3)) C K dX5_fill_59 rfl yk_X5_fill kT_yX5_fill kM_RX5_68 (by omega) hR0 rfl ?_
      refine hfill _ (99 :: rs) left f b _ (by rw [List.length_cons]; omega) hC2 hr2 (fun y hy => by
        rcases List.mem_cons.mp hy with e | e
        · exact Or.inl e
        · exact hin y e) (hl.none hs1024) hlt (by rw [upI_row _ _ (by decide)]; exact hF) (by rw [upI_row _ _ (by decide)]; exact hB) hb10 (fun e => ⟨(hbs e).1.fr (fun i _ => by rw [upI_row _ _ (by decide)]), (hbs e).2⟩) (fun I3 f3 hf3 hj3 hr3 hc3 h93 h103 hb3 hs3 => ?_)
      refine z_vret C E dX5_fill_62 ?_
      exact hQ I3 f3 (fun q q1 q2 q3 => by rw [hf3 q q1 q2 q3, upI_row _ _ q2]) (fun j j1 j2 => by rw [hj3 j j1 j2, upI_row _ _ (by decide)]) (fun i hi => by rw [hr3 i (by rw [List.length_cons]; omega), upI_k _ _ (by omega)]) (fun e => by rw [fillS_emp hle]; exact hc3 e) h93 (by rw [fillS_emp hle]; exact h103) (by rw [fillS_emp hle]; exact hb3) (by rw [fillS_emp hle]; exact hs3)
  · refine z_iload_n (n := 22) C 3 dX5_fill_21 rfl rfl ?_
    refine z_aload_n (n := 23) C 0 dX5_fill_22 rfl rfl ?_
    refine z_iload_n (n := 24) C 1 dX5_fill_23 rfl rfl ?_
    refine z_iload_n (n := 25) C 2 dX5_fill_24 rfl rfl ?_
    refine z_vi_2 (n := 28) (d' := 2) C K dX5_fill_25 rfl yk_X5_hope yv_X5_hope kM_RX5_76 (by omega) hR0 rfl rfl sh_57 (by decide) (by decide) ?_
    refine c_X5_hope (r := r) (ag := ag) hc10 hset hl8 hW hold hold2 hWb hemp hemp2 hC hlen hr hin hlt ?_
    have hhp : hpS W left rs ≤ 5 := by unfold hpS; have := pop_le (opS left rs &&& W) 10; omega
    refine z_iadd (n := 29) C dX5_fill_28 rfl ?_
    rw [nI_add]
    refine z_aload_n (n := 30) C 0 dX5_fill_29 rfl rfl ?_
    refine z_getI (n := 33) C K fF_RX5_44 dX5_fill_30 rfl sh_57 (by decide) ?_
    rw [hB]
    refine z_icmp_gt (tgt := 37) (n := 36) C dX5_fill_33 rfl rfl (fun c33 => ?_) (fun c33 => ?_)
    · refine z_iload_n (n := 38) C 1 dX5_fill_37 rfl rfl ?_
      refine z_aload_n (n := 39) C 0 dX5_fill_38 rfl rfl ?_
      refine z_getI (n := 42) C K fF_RX5_32 dX5_fill_39 rfl sh_57 (by decide) ?_
      rw [hC.2.2.1]
      refine z_icmp_ne (tgt := 63) (n := 45) C dX5_fill_42 rfl rfl (fun c42 => ?_) (fun c42 => ?_)
      · refine z_iconst (n := 64) (v := 0) C dX5_fill_63 rfl rfl ?_
        refine z_istore (n := 66) (L' := [(4, _), (0, _), (1, _), (2, _), (3, _)]) C dX5_fill_64 rfl (by rw [hnL]; decide) rfl ?_
        have hne : rs.length ≠ emp := fun e => c42 (by rw [e]; unfold empI; rw [if_neg (by omega)])
        refine fill_L C K hnL hc10 hset hl8 hW hold hold2 hWb hemp hemp2 hfill E (by omega) hC hr hin hl hlt (fun I3 f3 q1 q2 q3 q4 q5 q6 q7 q8 => ?_) 11 0 I f b (by omega) ⟨Nat.zero_le _, fun _ _ _ _ => rfl, fun _ _ _ => rfl, fun _ _ => rfl, fun _ => rfl, hF, hB, hb10, hbs, rfl⟩
        rw [← fillS_X hne] at q4 q6 q7 q8
        exact hQ I3 f3 q1 q2 q3 q4 q5 q6 q7 q8
      · have hle : rs.length = emp := by
          unfold empI at c42
          by_cases e : emp = 98
          · rw [if_pos e] at c42
            have := congrArg Int32.toInt c42
            rw [nI_toInt (by omega)] at this
            simp only [Int32.reduceToInt] at this
            omega
          · rw [if_neg e] at c42
            exact nI_inj c42 (by omega) (by omega)
        have hr2 : rowA (upI I 60 rs.length (-9)) 60 (99 :: rs) := (hr.fr (fun i hi => upI_k _ _ (by omega))).cons (by rw [upI_same]; rfl)
        have hC2 : rpC (upI I 60 rs.length (-9)) cnt loops emp W old c (fun x => tm T c x 1 &&& set) (fun x => tm T c x 2 &&& set) := hC.fr (fun j _ _ => by rw [upI_row _ _ (by decide)]) (upI_row _ _ (by decide)) (upI_row _ _ (by decide))
        refine z_aload_n (n := 46) C 0 dX5_fill_45 rfl rfl ?_
        refine z_getR (n := 49) (q := 60) C K fF_RX5_18 dX5_fill_46 rfl rfl sh_57 (by decide) rfl ?_
        refine z_iload_n (n := 50) C 1 dX5_fill_49 rfl rfl ?_
        refine z_bipush (n := 52) (v := (-9)) C dX5_fill_50 rfl rfl ?_
        refine z_iastN (n := 53) C K rs.length dX5_fill_52 rfl sh_60 (by decide) rfl (by omega) (by decide) ?_
        refine z_aload_n (n := 54) C 0 dX5_fill_53 rfl rfl ?_
        refine z_iload_n (n := 55) C 1 dX5_fill_54 rfl rfl ?_
        refine z_iconst (n := 56) (v := 1) C dX5_fill_55 rfl rfl ?_
        refine z_iadd (n := 57) C dX5_fill_56 rfl ?_
        refine z_iload_n (n := 58) C 2 dX5_fill_57 rfl rfl ?_
        refine z_iload_n (n := 59) C 3 dX5_fill_58 rfl rfl ?_
        rw [nI_1, ← rowS_even (T := T) 99 (show rs.length % 2 = 0 by omega)]
        refine z_sv_4 (n := 62) (d' := (k + 3)) C K dX5_fill_59 rfl yk_X5_fill kT_yX5_fill kM_RX5_68 (by omega) hR0 rfl ?_
        refine hfill _ (99 :: rs) left f b _ (by rw [List.length_cons]; omega) hC2 hr2 (fun y hy => by
          rcases List.mem_cons.mp hy with e | e
          · exact Or.inl e
          · exact hin y e) (hl.none hs1024) hlt (by rw [upI_row _ _ (by decide)]; exact hF) (by rw [upI_row _ _ (by decide)]; exact hB) hb10 (fun e => ⟨(hbs e).1.fr (fun i _ => by rw [upI_row _ _ (by decide)]), (hbs e).2⟩) (fun I3 f3 hf3 hj3 hr3 hc3 h93 h103 hb3 hs3 => ?_)
        refine z_vret C E dX5_fill_62 ?_
        exact hQ I3 f3 (fun q q1 q2 q3 => by rw [hf3 q q1 q2 q3, upI_row _ _ q2]) (fun j j1 j2 => by rw [hj3 j j1 j2, upI_row _ _ (by decide)]) (fun i hi => by rw [hr3 i (by rw [List.length_cons]; omega), upI_k _ _ (by omega)]) (fun e => by rw [fillS_emp hle]; exact hc3 e) h93 (by rw [fillS_emp hle]; exact h103) (by rw [fillS_emp hle]; exact hb3) (by rw [fillS_emp hle]; exact hs3)
    · refine z_vret C E dX5_fill_36 ?_
      rw [fa_lt, nI_m1 _ (by omega), nI_toInt (by omega)] at c33
      have hskip : bsF (rowF T) (fillS (cdS set T ag r) emp (k + 1) rs) b = b := bsF_skip _ _ (fun o ho => by
        have := hope_ok (r := r) (emp := emp) (ag := ag) hs1024 hemp hWb (k + 1) rs left hl hin o ho
        unfold rowF
        omega)
      exact hQ I f (fun _ _ _ _ => rfl) (fun _ _ _ => rfl) (fun _ _ => rfl) (fun e => by rw [hC.1, e] at c18; exact absurd c18 (by decide)) hF (by rw [hskip]; exact hB) (by rw [hskip]; exact hb10) (by rw [hskip]; exact hbs)
theorem fill_all {ad : Nat → Nat} {J : KJ} {t : Nat} {cnt loops emp W old c set r : Nat} {T : Nat → Nat → Nat} {ag : Nat → Nat} (hc10 : c ≤ 10) (hset : set < 2 ^ c) (hl8 : loops ≤ 8) (hW : W < 1024) (hold : ∀ x, x < c → old.testBit x = decide (r ≤ ag x)) (hold2 : old < 1024) (hWb : ∀ x y, set.testBit x = true → set.testBit y = true → T x y = 1 → W.testBit x = true ∧ W.testBit y = true) (hemp : emp % 2 = 0) (hemp2 : emp ≤ 98) : ∀ k, fillP ad J t cnt loops emp W old c set r T ag k
  | 0 => fill_0 hc10 hset hl8 hW hold hold2 hWb hemp hemp2
  | k + 1 => fill_S hc10 hset hl8 hW hold hold2 hWb hemp hemp2 (fill_all hc10 hset hl8 hW hold hold2 hWb hemp hemp2 k)
