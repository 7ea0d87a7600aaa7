theorem within06 {v : Int32} : isB 0 6 v ↔ isN 7 v := by unfold isB isN; omega
theorem cmS_lt31 {n c : Nat} {ki co ag re : Nat → Nat} {T : Nat → Nat → Nat} (okk : okKd n c ki co ag re T) (hn7 : n ≤ 7) (set : Nat) : cmS set co c < 128 := cmS_lt c (fun y hy => by have := (okk.2.1 y hy).2.1; omega)
set_option maxHeartbeats 4000000 in
set_option maxRecDepth 100000 in
theorem l_X10_whyNotLine {X : KX} {t : Nat} (C : Cx X RX10 cX10_whyNotLine 3) (K : Kx X) (hnL : xnL X = 12) {Q : Int32 → KI → KJ → KR → Prop} (E : Ei X .int Q) {I : KI} {J : KJ} {n r s : Nat} {rd : Nat → Nat → Nat} (hw : mTw I n r s rd) (ok : okTw n r s rd) {C0 : Nat → Nat → Nat} (hc : okW n r rd C0) (hW : mWy I n C0) {c : Nat} {ki co ag re : Nat → Nat} {T : Nat → Nat → Nat} (hk : mKd I c ki co ag re T) (okk : okKd n c ki co ag re T) {th : Nat → Bool} {so ct : Nat → Nat} {ce : Nat → Nat → Int32} (hs : mSh I th so ct ce) (oks : okSh so ct) {k set a i m : Nat} (hk4 : k < 4) (hset : set < 2 ^ c) (ha : a < n) {cd : Nat → Int32} {sov : Int32} (him : i + m ≤ ct k) (hcd : ∀ j, j < m → ce k (i + j) = cd j) (hm : m = (gatesOf c co ki ag set).length) (h2 : ∀ v I', v = -2 ∨ v = -3 → (∀ q, q ≠ 85 → q ≠ 102 → I' q = I q) → (∀ j, j ≠ 27 → I' 85 j = I 85 j) → ¬ lnWk c s C0 co ki ag cd set a m = true → Q v I' J (rf t)) (h3 : ∀ I', (∀ q, q ≠ 85 → q ≠ 102 → I' q = I q) → (∀ j, j ≠ 27 → I' 85 j = I 85 j) → lnWk c s C0 co ki ag cd set a m = true → mGt I' (ogS cd m) → Q 0 I' J (rf t)) : ∀ (f j : Nat) (I1 : KI), m - j < f → (j ≤ m ∧ (∀ q, q ≠ 102 → I1 q = I q) ∧ odS (pcG set c co ki ag) cd j = true ∧ ordA I1 102 (ogS cd j)) → Z X 0 0 (V X I1 J (rf t)) 50 [(10, .int (nI j)), (9, .int (nI (seenS cd j))), (8, .int (nI (cmS set co c))), (0, .ref (xad X 85)), (1, .int (nI set)), (2, .int (nI a)), (3, .int (nI k)), (4, .int sov), (5, .int (nI i)), (6, .int (nI m))] [] := by
  intro f
  induction f with
  | zero => intro j I1 h; omega
  | succ f ih =>
    intro j I1 hf hi
    obtain ⟨hjm, hfr, hod, ho⟩ := hi
    have hn7 := ok.1
    have hsl := seenS_lt j hod
    have hok := oks k hk4
    have hcm := cmS_lt31 okk hn7 set
    have hl7 := gatesOf_len c co ki ag set
    have hz1 : mSh I1 th so ct ce := hs.fr (fun q q1 q2 => hfr q (by omega))
    have hzk := hz1 k hk4
    have hln := ogS_len cd j
    refine z_iload (n := 52) C 0 dX10_whyNotLine_50 rfl rfl ?_
    refine z_iload (n := 54) C 9 dX10_whyNotLine_52 rfl rfl ?_
    refine z_icmp_ge (tgt := 132) (n := 57) C dX10_whyNotLine_54 rfl rfl (fun c54 => ?_) (fun c54 => ?_)
    · rw [fa_le, nI_toInt (by omega), nI_toInt (by omega)] at c54
      have e : j = m := by omega
      subst e
      have hmem : ∀ x, x ∈ ogS cd j → x < n := fun x hx => ogS_lt okk hod hx
      have hG1 : mGt (upI I1 85 27 (nI j)) (ogS cd j) := ⟨by rw [upI_same, hln], ho.fr (upI_row _ _ (by decide))⟩
      have hw1 : mTw I1 n r s rd := hw.fr (by rw [hfr 85 (by decide)]) (by rw [hfr 85 (by decide)]) (by rw [hfr 85 (by decide)]) (fun q q1 q2 => hfr q (by omega))
      have hw2 : mTw (upI I1 85 27 (nI j)) n r s rd := hw1.fr (upI_k _ _ (by decide)) (upI_k _ _ (by decide)) (upI_k _ _ (by decide)) (fun q q1 q2 => upI_row _ _ (by omega))
      have hW2 : mWy (upI I1 85 27 (nI j)) n C0 := hW.fr (by rw [upI_row _ _ (by decide)]; exact hfr 94 (by decide))
      have hf3 : ∀ q, q ≠ 85 → q ≠ 102 → upI I1 85 27 (nI j) q = I q := fun q q1 q2 => by rw [upI_row _ _ q1]; exact hfr q q2
      have hf4 : ∀ x, x ≠ 27 → upI I1 85 27 (nI j) 85 x = I 85 x := fun x hx => by rw [upI_k _ _ hx, hfr 85 (by decide)]
      have hsn : s < n := ok.2.2.1 (by omega)
      refine z_aload_n (n := 133) C 3 dX10_whyNotLine_132 rfl rfl ?_
      refine z_iload (n := 135) C 9 dX10_whyNotLine_133 rfl rfl ?_
      refine z_putI (n := 138) C K fF_RX10_181 dX10_whyNotLine_135 rfl sh_85 (by decide) ?_
      refine z_aload_n (n := 139) C 3 dX10_whyNotLine_138 rfl rfl ?_
      refine z_iload_n (n := 140) C 5 dX10_whyNotLine_139 rfl rfl ?_
      refine z_vi_1 (n := 143) (d' := 2) C K dX10_whyNotLine_140 rfl yk_X10_crossingsOf yv_X10_crossingsOf kM_RX10_214 (by decide) hR0 rfl rfl sh_85 (by decide) (by decide) ?_
      refine c_X10_crossingsOf hw2 ok hc hW2 hG1 (by omega) hmem ha (fun w1 => ?_) (fun w0 => ?_)
      · refine z_istore (n := 145) (L' := [(10, _), (9, _), (8, _), (0, _), (1, _), (2, _), (3, _), (4, _), (5, _), (6, _)]) C dX10_whyNotLine_143 rfl (by rw [hnL]; decide) rfl ?_
        refine z_iload (n := 147) C 0 dX10_whyNotLine_145 rfl rfl ?_
        refine z_bipush (n := 149) (v := (-9)) C dX10_whyNotLine_147 rfl rfl ?_
        have hle := crL_le hn7 ok.2.2.2 hc (ogS cd j ++ [s]) a (fun x hx => by
          rcases List.mem_append.mp hx with e | e
          · exact hmem x e
          · rw [List.mem_singleton.mp e]; exact hsn) ha w1
        rw [List.length_append, hln] at hle
        have hle2 : crL C0 (ogS cd j ++ [s]) a ≤ 6 * (j + 1) := hle
        refine z_icmpF_eq (n := 152) (tgt := 159) C (fun e => by have e2 := congrArg Int32.toInt e; rw [nI_toInt (by omega)] at e2; simp only [Int32.reduceToInt] at e2; omega) dX10_whyNotLine_149 rfl rfl ?_
        refine z_iload (n := 154) C 0 dX10_whyNotLine_152 rfl rfl ?_
        refine z_bipush (n := 156) (v := 15) C dX10_whyNotLine_154 rfl rfl ?_
        refine z_icmp_le (tgt := 164) (n := 159) C dX10_whyNotLine_156 rfl rfl (fun c156 => ?_) (fun c156 => ?_)
        · rw [fa_le, nI_toInt (by omega)] at c156
          simp only [Int32.reduceToInt] at c156
          refine z_iconst (n := 165) (v := 0) C dX10_whyNotLine_164 rfl rfl ?_
          refine z_iret C E dX10_whyNotLine_165 ?_
          exact h3 _ hf3 hf4 (lnWk_t.mpr ⟨hm, hod, wkB_t.mpr ⟨w1, by omega⟩⟩) hG1
        · rw [fa_le, nI_toInt (by omega)] at c156
          simp only [Int32.reduceToInt] at c156
          refine z_bipush (n := 161) (v := (-3)) C dX10_whyNotLine_159 rfl rfl ?_
          refine z_goto (n := 165) C dX10_whyNotLine_161 rfl ?_
          refine z_iret C E dX10_whyNotLine_165 ?_
          exact h2 _ _ (Or.inr rfl) hf3 hf4 (fun q => by have := (wkB_t.mp (lnWk_t.mp q).2.2).2; omega)
      · refine z_istore (n := 145) (L' := [(10, _), (9, _), (8, _), (0, _), (1, _), (2, _), (3, _), (4, _), (5, _), (6, _)]) C dX10_whyNotLine_143 rfl (by rw [hnL]; decide) rfl ?_
        refine z_iload (n := 147) C 0 dX10_whyNotLine_145 rfl rfl ?_
        refine z_bipush (n := 149) (v := (-9)) C dX10_whyNotLine_147 rfl rfl ?_
        refine z_icmpT_eq (tgt := 159) C (by decide) dX10_whyNotLine_149 rfl ?_
        refine z_bipush (n := 161) (v := (-3)) C dX10_whyNotLine_159 rfl rfl ?_
        refine z_goto (n := 165) C dX10_whyNotLine_161 rfl ?_
        refine z_iret C E dX10_whyNotLine_165 ?_
        exact h2 _ _ (Or.inr rfl) hf3 hf4 (fun q => w0 (wkB_t.mp (lnWk_t.mp q).2.2).1)
    · rw [fa_le, nI_toInt (by omega), nI_toInt (by omega)] at c54
      refine z_aload_n (n := 58) C 3 dX10_whyNotLine_57 rfl rfl ?_
      refine z_getR (n := 61) (q := 88) C K fF_RX10_16 dX10_whyNotLine_58 rfl rfl sh_85 (by decide) rfl ?_
      refine z_bipush (n := 63) (v := 100) C dX10_whyNotLine_61 rfl rfl ?_
      refine z_iload_n (n := 64) C 6 dX10_whyNotLine_63 rfl rfl ?_
      rw [show (100 : Int32) = nI 100 from rfl]
      refine z_imul (n := 65) C dX10_whyNotLine_64 rfl ?_
      refine z_iload (n := 67) C 8 dX10_whyNotLine_65 rfl rfl ?_
      rw [mul_nI]
      refine z_iadd (n := 68) C dX10_whyNotLine_67 rfl ?_
      refine z_iload (n := 70) C 0 dX10_whyNotLine_68 rfl rfl ?_
      rw [nI_add]
      refine z_iadd (n := 71) C dX10_whyNotLine_70 rfl ?_
      rw [nI_add]
      refine z_ialdN (n := 72) C K (100 * k + i + j) dX10_whyNotLine_71 rfl sh_88 (by decide) rfl (by omega) (by decide) ?_
      rw [show 100 * k + i + j = 100 * k + (i + j) by omega, hzk.2.2 (i + j) (by omega), hcd j (by omega)]
      obtain ⟨v, hv⟩ : ∃ v, cd j = v := ⟨_, rfl⟩
      rw [hv]
      refine z_istore (n := 74) (L' := [(11, _), (10, _), (9, _), (8, _), (0, _), (1, _), (2, _), (3, _), (4, _), (5, _), (6, _)]) C dX10_whyNotLine_72 rfl (by rw [hnL]; decide) rfl ?_
      refine z_iload (n := 76) C 0 dX10_whyNotLine_74 rfl rfl ?_
      refine z_iconst (n := 77) (v := 0) C dX10_whyNotLine_76 rfl rfl ?_
      refine z_bipush (n := 79) (v := 6) C dX10_whyNotLine_77 rfl rfl ?_
      refine z_si_3 (n := 82) (d' := 1) C K dX10_whyNotLine_79 rfl yk_X10_within kT_yX10_within kM_RX10_92 (by decide) hR0 rfl ?_
      refine m_inB (lo := 0) (hi := 6) (by decide) (by decide) (fun b79 => ?_) (fun b79 => ?_)
      · refine z_ifF_eq (n := 85) (tgt := 105) C (by decide) dX10_whyNotLine_82 rfl rfl ?_
        obtain ⟨g, hg, rfl⟩ := isN_of (within06.mp b79)
        have hbt := cmS_gate (set := set) (c := c) (co := co) (ki := ki) (ag := ag) (g := g)
        refine z_iload (n := 87) C 3 dX10_whyNotLine_85 rfl rfl ?_
        refine z_iload (n := 89) C 0 dX10_whyNotLine_87 rfl rfl ?_
        refine z_si_2 (n := 92) (d' := 1) C K dX10_whyNotLine_89 rfl yk_X10_has kT_yX10_has kM_RX10_178 (by decide) hR0 rfl ?_
        refine c_X10_has (by omega) (by omega) (fun b89 => ?_) (fun b89 => ?_)
        · refine z_ifF_eq (n := 95) (tgt := 105) C (by decide) dX10_whyNotLine_92 rfl rfl ?_
          refine z_iload (n := 97) C 2 dX10_whyNotLine_95 rfl rfl ?_
          refine z_iload (n := 99) C 0 dX10_whyNotLine_97 rfl rfl ?_
          refine z_si_2 (n := 102) (d' := 1) C K dX10_whyNotLine_99 rfl yk_X10_has kT_yX10_has kM_RX10_178 (by decide) hR0 rfl ?_
          refine c_X10_has (by omega) (by omega) (fun b99 => ?_) (fun b99 => ?_)
          · refine z_ifF_eq (n := 105) (tgt := 108) C (by decide) dX10_whyNotLine_102 rfl rfl ?_
            refine z_bipush (n := 107) (v := (-2)) C dX10_whyNotLine_105 rfl rfl ?_
            refine z_iret C E dX10_whyNotLine_107 ?_
            exact h2 _ I1 (Or.inl rfl) (fun q q1 q2 => hfr q q2) (fun x hx => by rw [hfr 85 (by decide)]) (fun q => by have q2 := (lnWk_t.mp q).2.1; rw [odS_f (k := j) (by omega) (fun z => by have z1 := z.2; rw [hv, nI_clamp (by omega), b99] at z1; cases z1)] at q2; cases q2)
          · refine z_ifT_eq (tgt := 108) C (by decide) dX10_whyNotLine_102 rfl ?_
            rw [hbt, decide_eq_true_eq] at b89
            have hgb : gateB (pcG set c co ki ag) (nI g) = true := gateB_t.mpr ⟨isN_nI hg (by decide), by rw [nI_clamp (by omega)]; exact b89⟩
            refine z_iload (n := 110) C 2 dX10_whyNotLine_108 rfl rfl ?_
            refine z_iconst (n := 111) (v := 1) C dX10_whyNotLine_110 rfl rfl ?_
            refine z_iload (n := 113) C 0 dX10_whyNotLine_111 rfl rfl ?_
            refine z_ishl (n := 114) C dX10_whyNotLine_113 rfl ?_
            rw [one_shl g (by omega)]
            refine z_ior (n := 115) C dX10_whyNotLine_114 rfl ?_
            rw [or_nI]
            refine z_istore (n := 117) (L' := [(9, _), (11, _), (10, _), (8, _), (0, _), (1, _), (2, _), (3, _), (4, _), (5, _), (6, _)]) C dX10_whyNotLine_115 rfl (by rw [hnL]; decide) rfl ?_
            refine z_aload_n (n := 118) C 4 dX10_whyNotLine_117 rfl rfl ?_
            refine z_getR (n := 121) (q := 102) C K fF_RX10_59 dX10_whyNotLine_118 rfl rfl sh_85 (by decide) rfl ?_
            refine z_iload (n := 123) C 2 dX10_whyNotLine_121 rfl rfl ?_
            refine z_iload (n := 125) C 1 dX10_whyNotLine_123 rfl rfl ?_
            refine z_iastN (n := 126) C K j dX10_whyNotLine_125 rfl sh_102 (by decide) rfl (by omega) (by decide) ?_
            refine z_iincG (n := 129) (c := 1) (L' := [(10, _), (9, _), (11, _), (8, _), (0, _), (1, _), (2, _), (3, _), (4, _), (5, _), (6, _)]) C 2 dX10_whyNotLine_126 rfl rfl rfl (by rw [hnL]; decide) rfl ?_
            refine z_goto (n := 50) C dX10_whyNotLine_129 rfl ?_
            refine z_sub (L' := [(10, _), (9, _), (8, _), (0, _), (1, _), (2, _), (3, _), (4, _), (5, _), (6, _)]) [0, 1, 3, 4, 5, 6, 7, 8, 9, 10] rfl ?_
            have es : seenS cd (j + 1) = seenS cd j ||| 2 ^ g := by rw [seenS, hv, nI_clamp (by omega)]
            have eo : ogS cd (j + 1) = ogS cd j ++ [g] := by rw [ogS, hv, nI_clamp (by omega)]
            rw [nI_1, ← es]
            refine ih (j + 1) _ (by omega) ⟨by omega, fun q hq => by rw [upI_row _ _ hq]; exact hfr q hq, odS_t hod (by rw [hv]; exact hgb) (by rw [hv, nI_clamp (by omega)]; exact b99), ?_⟩
            have h9 := ho.snoc (g := g)
            rw [hln] at h9
            rw [eo]
            exact h9
        · refine z_ifT_eq (tgt := 105) C (by decide) dX10_whyNotLine_92 rfl ?_
          refine z_bipush (n := 107) (v := (-2)) C dX10_whyNotLine_105 rfl rfl ?_
          refine z_iret C E dX10_whyNotLine_107 ?_
          exact h2 _ I1 (Or.inl rfl) (fun q q1 q2 => hfr q q2) (fun x hx => by rw [hfr 85 (by decide)]) (fun q => by have q2 := (lnWk_t.mp q).2.1; rw [odS_f (k := j) (by omega) (fun z => by have z1 := (gateB_t.mp (hv ▸ z.1)).2; rw [nI_clamp (by omega)] at z1; rw [hbt, decide_eq_false_iff_not] at b89; exact b89 z1)] at q2; cases q2)
      · refine z_ifT_eq (tgt := 105) C (by decide) dX10_whyNotLine_82 rfl ?_
        refine z_bipush (n := 107) (v := (-2)) C dX10_whyNotLine_105 rfl rfl ?_
        refine z_iret C E dX10_whyNotLine_107 ?_
        exact h2 _ I1 (Or.inl rfl) (fun q q1 q2 => hfr q q2) (fun x hx => by rw [hfr 85 (by decide)]) (fun q => by have q2 := (lnWk_t.mp q).2.1; rw [odS_f (k := j) (by omega) (fun z => b79 (within06.mpr (gateB_t.mp (hv ▸ z.1)).1))] at q2; cases q2)
set_option maxHeartbeats 4000000 in
set_option maxRecDepth 100000 in
theorem c_X10_whyNotLine {ad : Nat → Nat} {I : KI} {J : KJ} {t : Nat} {n r s : Nat} {rd : Nat → Nat → Nat} (hw : mTw I n r s rd) (ok : okTw n r s rd) {C0 : Nat → Nat → Nat} (hc : okW n r rd C0) (hW : mWy I n C0) {c : Nat} {ki co ag re : Nat → Nat} {T : Nat → Nat → Nat} (hk : mKd I c ki co ag re T) (okk : okKd n c ki co ag re T) {th : Nat → Bool} {so ct : Nat → Nat} {ce : Nat → Nat → Int32} (hs : mSh I th so ct ce) (oks : okSh so ct) {k set a : Nat} (hk4 : k < 4) (hset : set < 2 ^ c) (ha : a < n) {cd : Nat → Int32} {sov iv nv : Int32} (hcd : ∀ i m : Nat, iv = nI i → nv = nI m → i + m ≤ 100 → ∀ j, j < m → ce k (i + j) = cd j)  {Q : Int32 → KI → KJ → KR → Prop} (h1 : ¬ rfS (th k) (so k) (ct k) sov iv nv = 0 → Q (-10 - nI (rfS (th k) (so k) (ct k) sov iv nv)) I J (rf t)) (h2 : ∀ v I', rfS (th k) (so k) (ct k) sov iv nv = 0 → v = -2 ∨ v = -3 → (∀ q, q ≠ 85 → q ≠ 102 → I' q = I q) → (∀ j, j ≠ 27 → I' 85 j = I 85 j) → ¬ lnWk c s C0 co ki ag cd set a nv.toNatClampNeg = true → Q v I' J (rf t)) (h3 : ∀ I', rfS (th k) (so k) (ct k) sov iv nv = 0 → (∀ q, q ≠ 85 → q ≠ 102 → I' q = I q) → (∀ j, j ≠ 27 → I' 85 j = I 85 j) → lnWk c s C0 co ki ag cd set a nv.toNatClampNeg = true → mGt I' (ogS cd nv.toNatClampNeg) → Q 0 I' J (rf t)) : Mi 3 yX10_whyNotLine (wm yX10_whyNotLine cX10_whyNotLine 12 (some .int)) [.ref (ad 85), .int (nI set), .int (nI a), .int (nI k), .int (sov), .int (iv), .int (nv)] ad I J (rf t) Q := by
  refine mi_of (own := RX10) yk_X10_whyNotLine rfl (Nat.le_of_ble_eq_true rfl) rfl (fun X hA hnL C K E => ?_)
  subst hA
  have hn7 := ok.1
  have hok := oks k hk4
  have hzk := hs k hk4
  have h1024 : 2 ^ c ≤ 2 ^ 10 := Nat.pow_le_pow_right (by decide) okk.1
  have hcm := cmS_lt31 okk hn7 set
  refine z_aload_n (n := 1) C 0 dX10_whyNotLine_0 rfl rfl ?_
  refine z_iload_n (n := 2) C 3 dX10_whyNotLine_1 rfl rfl ?_
  refine z_iload (n := 4) C 4 dX10_whyNotLine_2 rfl rfl ?_
  refine z_iload (n := 6) C 5 dX10_whyNotLine_4 rfl rfl ?_
  refine z_iload (n := 8) C 6 dX10_whyNotLine_6 rfl rfl ?_
  refine z_vi_4 (n := 11) (d' := 1) C K dX10_whyNotLine_8 rfl yk_X10_against yv_X10_against kM_RX10_106 (by decide) hR0 rfl rfl sh_85 (by decide) (by decide) ?_
  refine c_X10_against hk4 hzk.1 hok.1 hok.2 hzk.2.1 ?_
  refine z_istore (n := 13) (L' := [(7, _), (0, _), (1, _), (2, _), (3, _), (4, _), (5, _), (6, _)]) C dX10_whyNotLine_11 rfl (by rw [hnL]; decide) rfl ?_
  refine z_iload (n := 15) C 0 dX10_whyNotLine_13 rfl rfl ?_
  refine z_if_eq (tgt := 24) (n := 18) C dX10_whyNotLine_15 rfl rfl (fun c15 => ?_) (fun c15 => ?_)
  · have hr0 : rfS (th k) (so k) (ct k) sov iv nv = 0 := nI_inj (b := 0) c15 (by have := rfS_le (th k) (so k) (ct k) sov iv nv; omega) (by decide)
    rw [hr0]
    obtain ⟨hi0, hn0, hin⟩ := rfS_0 hr0
    obtain ⟨i, hi31, rfl⟩ := i_nat hi0
    obtain ⟨m, hm31, rfl⟩ := i_nat hn0
    rw [nI_toInt hi31, nI_toInt hm31] at hin
    rw [nI_clamp hm31] at h2 h3
    refine z_aload_n (n := 25) C 1 dX10_whyNotLine_24 rfl rfl ?_
    refine z_iload_n (n := 26) C 2 dX10_whyNotLine_25 rfl rfl ?_
    refine z_vi_1 (n := 29) (d' := 2) C K dX10_whyNotLine_26 rfl yk_X10_cornersOf yv_X10_cornersOf kM_RX10_208 (by decide) hR0 rfl rfl sh_85 (by decide) (by decide) ?_
    refine c_X10_cornersOf hk okk hn7 (by omega) ?_
    refine z_istore (n := 31) (L' := [(8, _), (7, _), (0, _), (1, _), (2, _), (3, _), (4, _), (5, _), (6, _)]) C dX10_whyNotLine_29 rfl (by rw [hnL]; decide) rfl ?_
    refine z_iload (n := 33) C 8 dX10_whyNotLine_31 rfl rfl ?_
    refine z_iload (n := 35) C 0 dX10_whyNotLine_33 rfl rfl ?_
    refine z_si_1 (n := 38) (d' := 1) C K dX10_whyNotLine_35 rfl yk_X10_bitsOf kT_yX10_bitsOf kM_RX10_211 (by decide) hR0 rfl ?_
    refine c_X10_bitsOf (by omega) ?_
    rw [popS_gL (fun g => cmS_gate (ki := ki) (ag := ag)) hcm, show (gL (pcG set c co ki ag) 7).length = (gatesOf c co ki ag set).length from rfl]
    have hl7 := gatesOf_len c co ki ag set
    refine z_icmp_eq (tgt := 44) (n := 41) C dX10_whyNotLine_38 rfl rfl (fun c38 => ?_) (fun c38 => ?_)
    · refine z_iconst (n := 45) (v := 0) C dX10_whyNotLine_44 rfl rfl ?_
      refine z_istore (n := 47) (L' := [(9, _), (8, _), (7, _), (0, _), (1, _), (2, _), (3, _), (4, _), (5, _), (6, _)]) C dX10_whyNotLine_45 rfl (by rw [hnL]; decide) rfl ?_
      refine z_iconst (n := 48) (v := 0) C dX10_whyNotLine_47 rfl rfl ?_
      refine z_istore (n := 50) (L' := [(10, _), (9, _), (8, _), (7, _), (0, _), (1, _), (2, _), (3, _), (4, _), (5, _), (6, _)]) C dX10_whyNotLine_48 rfl (by rw [hnL]; decide) rfl ?_
      refine z_sub (L' := [(10, _), (9, _), (8, _), (0, _), (1, _), (2, _), (3, _), (4, _), (5, _), (6, _)]) [0, 1, 2, 4, 5, 6, 7, 8, 9, 10] rfl ?_
      have hm : m = (gatesOf c co ki ag set).length := nI_inj c38 hm31 (by omega)
      exact l_X10_whyNotLine C K hnL E hw ok hc hW hk okk hs oks hk4 hset ha (by omega) (hcd i m rfl rfl (by omega)) hm (fun v I1 hv1 q1 q2 q3 => h2 v I1 hr0 hv1 q1 q2 q3) (fun I1 q1 q2 q3 => h3 I1 hr0 q1 q2 q3) (m + 1) 0 I (by omega) ⟨by omega, fun _ _ => rfl, rfl, fun z hz => by rw [ogS] at hz; simp at hz⟩
    · refine z_bipush (n := 43) (v := (-2)) C dX10_whyNotLine_41 rfl rfl ?_
      refine z_iret C E dX10_whyNotLine_43 ?_
      exact h2 _ I hr0 (Or.inl rfl) (fun _ _ _ => rfl) (fun _ _ => rfl) (fun q => c38 (by rw [(lnWk_t.mp q).1]))
  · refine z_bipush (n := 20) (v := (-10)) C dX10_whyNotLine_18 rfl rfl ?_
    refine z_iload (n := 22) C 0 dX10_whyNotLine_20 rfl rfl ?_
    refine z_isub (n := 23) C dX10_whyNotLine_22 rfl ?_
    refine z_iret C E dX10_whyNotLine_23 ?_
    exact h1 (fun e => c15 (by rw [e]; rfl))
