theorem frM.tr {I0 I I' : KI} (h : frM I0 I) (h2 : frM I I') : frM I0 I' := ⟨fun x h1 h3 => (h2.1 x h1 h3).trans (h.1 x h1 h3), fun j a b c d => (h2.2 j a b c d).trans (h.2 j a b c d)⟩
theorem mat.r {I : KI} {b a r nc z : Nat} {v : Int32} (h : mat I b a r nc) : mat (upI I 95 z v) b a r nc := ⟨by rw [upI_p _ _ (by decide)]; exact h.1, by rw [upI_p _ _ (by decide)]; exact h.2.1, by rw [upI_p _ _ (by decide)]; exact h.2.2⟩
theorem mat.u {I : KI} {b a a2 r nc : Nat} (h : mat I b a r nc) : mat (upI I 85 18 (nI (b + a2))) b a2 r nc := ⟨upI_same _ _ _ _, by rw [upI_k _ _ (by decide)]; exact h.2.1, by rw [upI_k _ _ (by decide)]; exact h.2.2⟩
theorem mcd.r {I : KI} {b n z : Nat} {cd : Nat → Int32} {v : Int32} (h : mcd I b cd n) : mcd (upI I 95 z v) b cd n := h.fr (upI_row _ _ (by decide))
theorem mcd.u {I : KI} {b n z : Nat} {cd : Nat → Int32} {v : Int32} (h : mcd I b cd n) : mcd (upI I 85 z v) b cd n := h.fr (upI_row _ _ (by decide))
theorem n9 {v : Nat} (h : v < 2 ^ 31) : ¬ nI v = -9 := by
  rw [fa_eq, nI_toInt h]
  have e : (-9 : Int32).toInt = -9 := by decide
  rw [e]; omega
set_option maxHeartbeats 4000000 in
set_option maxRecDepth 100000 in
theorem c_X10_readRoad {ad : Nat → Nat} {I : KI} {J : KJ} {t : Nat} {b n a r nc : Nat} {cd : Nat → Int32} (hc : mcd I b cd n) (han : a ≤ n) (hm : mat I b a r nc) (hr12 : r < 12) (hnc : 2 ≤ nc ∧ nc ≤ 7) {ev : Int32} (he : ev = nI (b + n)) {Q : Int32 → KI → KJ → KR → Prop} (hE : ∀ p, rdP cd n nc a = .inl p → ∀ I', frM I I' → I' 85 18 = nI (b + p) → Q 0 I' J (rf t)) (hO : ∀ q, rdP cd n nc a = .inr q → ∀ I', frM I I' → I' 85 18 = nI (b + q.2.2.2.2.2) → (∀ j, j < 5 * r → I' 95 j = I 95 j) → (∀ f, f < 5 → I' 95 (5 * r + f) = nI (rdU (fun _ _ => 0) r q f r)) → mat I' b q.2.2.2.2.2 r nc → Q 1 I' J (rf t)) : Mi 4 yX10_readRoad (wm yX10_readRoad cX10_readRoad 5 (some .boolean)) [.ref (ad 85), .int (ev)] ad I J (rf t) Q := by
  refine mi_of (own := RX10) yk_X10_readRoad rfl (Nat.le_of_ble_eq_true rfl) rfl (fun X hA hnL C K E => ?_)
  subst hA
  have hb := hc.1
  refine z_aload_n (n := 1) C 0 dX10_readRoad_0 rfl rfl ?_
  refine z_iload_n (n := 2) C 1 dX10_readRoad_1 rfl rfl ?_
  refine z_iconst (n := 3) (v := 0) C dX10_readRoad_2 rfl rfl ?_
  refine z_iconst (n := 4) (v := 0) C dX10_readRoad_3 rfl rfl ?_
  refine z_aload_n (n := 5) C 0 dX10_readRoad_4 rfl rfl ?_
  refine z_getI (n := 8) C K fF_RX10_118 dX10_readRoad_5 rfl sh_85 (by decide) ?_
  refine z_iconst (n := 9) (v := 1) C dX10_readRoad_8 rfl rfl ?_
  refine z_isub (n := 10) C dX10_readRoad_9 rfl ?_
  refine z_vi_4 (n := 13) (d' := 3) C K dX10_readRoad_10 rfl yk_X10_takes yv_X10_takes kM_RX10_148 (by decide) hR0 rfl rfl sh_85 (by decide) (by decide) ?_
  refine c_X10_takes hc (by omega) hm hr12 (w := 0) (lo := 0) (hi := nc - 1) (by decide) (by omega) (by omega) he rfl (nc1 (by exact hm.2.2) (by omega)) (fun b10 I1 k1 m1 f1 e1 o1 => ?_) (fun b10 => ?_)
  · refine z_ifT_ne (tgt := 18) C (by decide) dX10_readRoad_13 rfl ?_
    refine z_aload_n (n := 19) C 0 dX10_readRoad_18 rfl rfl ?_
    refine z_aload_n (n := 20) C 0 dX10_readRoad_19 rfl rfl ?_
    refine z_getI (n := 23) C K fF_RX10_142 dX10_readRoad_20 rfl sh_85 (by decide) ?_
    refine z_iload_n (n := 24) C 1 dX10_readRoad_23 rfl rfl ?_
    refine z_vi_2 (n := 27) (d' := 2) C K dX10_readRoad_24 rfl yk_X10_digitAt yv_X10_digitAt kM_RX10_139 (by decide) hR0 rfl rfl sh_85 (by decide) (by decide) ?_
    have d10 := isDb_t.mp b10
    have v10 := d10.v
    have h10 := d10.1
    rw [m1.1]
    refine c_X10_digitAt k1 (a := a + 1) (by omega) rfl he (fun d24 => ?_) (fun d24 => ?_)
    · refine z_aload_n (n := 28) C 0 dX10_readRoad_27 rfl rfl ?_
      refine z_getR (n := 31) (q := 95) C K fF_RX10_37 dX10_readRoad_28 rfl rfl sh_85 (by decide) rfl ?_
      refine z_iconst (n := 32) (v := 5) C dX10_readRoad_31 rfl rfl ?_
      refine z_aload_n (n := 33) C 0 dX10_readRoad_32 rfl rfl ?_
      refine z_getI (n := 36) C K fF_RX10_121 dX10_readRoad_33 rfl sh_85 (by decide) ?_
      refine z_imul (n := 37) C dX10_readRoad_36 rfl ?_
      refine z_ialdN (n := 38) C K (5 * r) dX10_readRoad_37 rfl sh_95 (by decide) (by rw [m1.2.1, show (5 : Int32) = nI 5 from rfl, mul_nI]) (by omega) (by decide) ?_
      rw [show I1 95 (5 * r) = nI (dv cd a) from e1]
      refine z_icmp_eq (tgt := 57) (n := 41) C dX10_readRoad_38 rfl rfl (fun c38 => ?_) (fun c38 => ?_)
      · refine z_iconst (n := 58) (v := 0) C dX10_readRoad_57 rfl rfl ?_
        refine z_zret C E dX10_readRoad_58 (by decide) ?_
        have e38 : dv cd (a + 1) = dv cd a := nI_inj c38 (by have := (isDb_t.mp d24).v; omega) (by omega)
        refine hE (a + 1) (by
          unfold rdP
          rw [if_neg (by rw [b10]; decide), if_pos (Or.inr e38)]) I1 f1 m1.1
      · refine z_aload_n (n := 42) C 0 dX10_readRoad_41 rfl rfl ?_
        refine z_iload_n (n := 43) C 1 dX10_readRoad_42 rfl rfl ?_
        refine z_iconst (n := 44) (v := 1) C dX10_readRoad_43 rfl rfl ?_
        refine z_iconst (n := 45) (v := 0) C dX10_readRoad_44 rfl rfl ?_
        refine z_aload_n (n := 46) C 0 dX10_readRoad_45 rfl rfl ?_
        refine z_getI (n := 49) C K fF_RX10_118 dX10_readRoad_46 rfl sh_85 (by decide) ?_
        refine z_iconst (n := 50) (v := 1) C dX10_readRoad_49 rfl rfl ?_
        refine z_isub (n := 51) C dX10_readRoad_50 rfl ?_
        refine z_vi_4 (n := 54) (d' := 3) C K dX10_readRoad_51 rfl yk_X10_takes yv_X10_takes kM_RX10_148 (by decide) hR0 rfl rfl sh_85 (by decide) (by decide) ?_
        refine c_X10_takes k1 (by omega) m1 hr12 (w := 1) (lo := 0) (hi := nc - 1) (by decide) (by omega) (by omega) he rfl (nc1 (by exact m1.2.2) (by omega)) (fun b51 I2 k2 m2 f2 e2 o2 => ?_) (fun b51 => ?_)
        · refine z_ifT_ne (tgt := 59) C (by decide) dX10_readRoad_54 rfl ?_
          refine z_aload_n (n := 60) C 0 dX10_readRoad_59 rfl rfl ?_
          have d51 := isDb_t.mp b51
          have v51 := d51.v
          have h51 := d51.1
          refine z_aload_n (n := 61) C 0 dX10_readRoad_60 rfl rfl ?_
          refine z_getI (n := 64) C K fF_RX10_142 dX10_readRoad_61 rfl sh_85 (by decide) ?_
          refine z_iload_n (n := 65) C 1 dX10_readRoad_64 rfl rfl ?_
          refine z_vi_2 (n := 68) (d' := 2) C K dX10_readRoad_65 rfl yk_X10_digitAt yv_X10_digitAt kM_RX10_139 (by decide) hR0 rfl rfl sh_85 (by decide) (by decide) ?_
          rw [m2.1]
          refine c_X10_digitAt k2 (a := a + 2) (by omega) rfl he (fun d65 => ?_) (fun d65 => ?_)
          · refine z_istore_n (n := 69) (L' := [(2, _), (0, _), (1, _)]) C dX10_readRoad_68 rfl (by rw [hnL]; decide) rfl ?_
            refine z_aload_n (n := 70) C 1 dX10_readRoad_69 rfl rfl ?_
            refine z_aload_n (n := 71) C 1 dX10_readRoad_70 rfl rfl ?_
            refine z_getI (n := 74) C K fF_RX10_142 dX10_readRoad_71 rfl sh_85 (by decide) ?_
            refine z_iconst (n := 75) (v := 1) C dX10_readRoad_74 rfl rfl ?_
            refine z_iadd (n := 76) C dX10_readRoad_75 rfl ?_
            refine z_iload_n (n := 77) C 2 dX10_readRoad_76 rfl rfl ?_
            refine z_vi_2 (n := 80) (d' := 2) C K dX10_readRoad_77 rfl yk_X10_digitAt yv_X10_digitAt kM_RX10_139 (by decide) hR0 rfl rfl sh_85 (by decide) (by decide) ?_
            rw [m2.1, nI_1]
            refine c_X10_digitAt k2 (a := a + 3) (by omega) rfl he (fun d77 => ?_) (fun d77 => ?_)
            · refine z_istore_n (n := 81) (L' := [(3, _), (2, _), (0, _), (1, _)]) C dX10_readRoad_80 rfl (by rw [hnL]; decide) rfl ?_
              refine z_iload_n (n := 82) C 1 dX10_readRoad_81 rfl rfl ?_
              refine z_bipush (n := 84) (v := (-9)) C dX10_readRoad_82 rfl rfl ?_
              have v65 := (isDb_t.mp d65).v
              refine z_icmpF_eq (n := 87) (tgt := 93) C (n9 (by omega)) dX10_readRoad_84 rfl rfl ?_
              refine z_iload_n (n := 88) C 0 dX10_readRoad_87 rfl rfl ?_
              refine z_bipush (n := 90) (v := (-9)) C dX10_readRoad_88 rfl rfl ?_
              have v77 := (isDb_t.mp d77).v
              refine z_icmpT_ne (tgt := 97) C (n9 (by omega)) dX10_readRoad_90 rfl ?_
              refine z_bipush (n := 99) (v := 10) C dX10_readRoad_97 rfl rfl ?_
              refine z_iload_n (n := 100) C 1 dX10_readRoad_99 rfl rfl ?_
              refine z_imul (n := 101) C dX10_readRoad_100 rfl ?_
              refine z_iload_n (n := 102) C 0 dX10_readRoad_101 rfl rfl ?_
              refine z_iadd (n := 103) C dX10_readRoad_102 rfl ?_
              have hnu : nuP cd n (a + 2) = (10 * dv cd (a + 2) + dv cd (a + 3), a + 4) := by unfold nuP; rw [if_pos d65, if_pos d77]
              rw [show (10 : Int32) = nI 10 from rfl, mul_nI, nI_add]
              refine z_istore (n := 105) (L' := [(4, _), (3, _), (2, _), (0, _), (1, _)]) C dX10_readRoad_103 rfl (by rw [hnL]; decide) rfl ?_
              refine z_iload (n := 107) C 0 dX10_readRoad_105 rfl rfl ?_
              refine z_iconst (n := 108) (v := 1) C dX10_readRoad_107 rfl rfl ?_
              refine z_bipush (n := 110) (v := 30) C dX10_readRoad_108 rfl rfl ?_
              refine z_si_3 (n := 113) (d' := 1) C K dX10_readRoad_110 rfl yk_X10_within kT_yX10_within kM_RX10_92 (by decide) hR0 rfl ?_
              refine m_inB (lo := 1) (hi := 30) (by decide) (by decide) (fun b110 => ?_) (fun b110 => ?_)
              · refine z_ifT_ne (tgt := 118) C (by decide) dX10_readRoad_113 rfl ?_
                have l110 := b110.1
                have u110 := b110.2
                rw [nI_toInt (by omega)] at l110 u110
                refine z_aload_n (n := 119) C 3 dX10_readRoad_118 rfl rfl ?_
                refine z_getR (n := 122) (q := 95) C K fF_RX10_37 dX10_readRoad_119 rfl rfl sh_85 (by decide) rfl ?_
                refine z_iconst (n := 123) (v := 5) C dX10_readRoad_122 rfl rfl ?_
                refine z_aload_n (n := 124) C 3 dX10_readRoad_123 rfl rfl ?_
                refine z_getI (n := 127) C K fF_RX10_121 dX10_readRoad_124 rfl sh_85 (by decide) ?_
                refine z_imul (n := 128) C dX10_readRoad_127 rfl ?_
                refine z_iconst (n := 129) (v := 2) C dX10_readRoad_128 rfl rfl ?_
                refine z_iadd (n := 130) C dX10_readRoad_129 rfl ?_
                refine z_iload (n := 132) C 0 dX10_readRoad_130 rfl rfl ?_
                refine z_iastN (n := 133) C K (5 * r + 2) dX10_readRoad_132 rfl sh_95 (by decide) (by rw [m2.2.1, show (5 : Int32) = nI 5 from rfl, mul_nI]; exact nI_add _ 2) (by omega) (by decide) ?_
                refine z_aload_n (n := 134) C 3 dX10_readRoad_133 rfl rfl ?_
                refine z_dup (n := 135) C dX10_readRoad_134 rfl rfl ?_
                refine z_getI (n := 138) C K fF_RX10_142 dX10_readRoad_135 rfl sh_85 (by decide) ?_
                refine z_iload_n (n := 139) C 1 dX10_readRoad_138 rfl rfl ?_
                refine z_bipush (n := 141) (v := (-9)) C dX10_readRoad_139 rfl rfl ?_
                refine z_icmpT_ne (tgt := 148) C (n9 (by omega)) dX10_readRoad_141 rfl ?_
                refine z_iconst (n := 149) (v := 2) C dX10_readRoad_148 rfl rfl ?_
                refine z_iadd (n := 150) C dX10_readRoad_149 rfl ?_
                rw [upI_p _ _ (show 85 ≠ 95 by decide), m2.1, show (2 : Int32) = nI 2 from rfl, nI_add, show b + (a + 1 + 1) + 2 = b + (a + 4) by omega]
                have m3 : mat (upI (upI I2 95 (5 * r + 2) (nI (10 * dv cd (a + 2) + dv cd (a + 3)))) 85 18 (nI (b + (a + 4)))) b (a + 4) r nc := m2.r.u
                refine z_putI (n := 153) C K fF_RX10_142 dX10_readRoad_150 rfl sh_85 (by decide) ?_
                refine z_aload_n (n := 154) C 3 dX10_readRoad_153 rfl rfl ?_
                refine z_getR (n := 157) (q := 95) C K fF_RX10_37 dX10_readRoad_154 rfl rfl sh_85 (by decide) rfl ?_
                refine z_iconst (n := 158) (v := 5) C dX10_readRoad_157 rfl rfl ?_
                refine z_aload_n (n := 159) C 3 dX10_readRoad_158 rfl rfl ?_
                refine z_getI (n := 162) C K fF_RX10_121 dX10_readRoad_159 rfl sh_85 (by decide) ?_
                refine z_imul (n := 163) C dX10_readRoad_162 rfl ?_
                refine z_iconst (n := 164) (v := 3) C dX10_readRoad_163 rfl rfl ?_
                refine z_iadd (n := 165) C dX10_readRoad_164 rfl ?_
                refine z_iconst (n := 166) (v := 0) C dX10_readRoad_165 rfl rfl ?_
                refine z_iastN (n := 167) C K (5 * r + 3) dX10_readRoad_166 rfl sh_95 (by decide) (by rw [m3.2.1, show (5 : Int32) = nI 5 from rfl, mul_nI]; exact nI_add _ 3) (by omega) (by decide) ?_
                refine z_aload_n (n := 168) C 3 dX10_readRoad_167 rfl rfl ?_
                refine z_getR (n := 171) (q := 95) C K fF_RX10_37 dX10_readRoad_168 rfl rfl sh_85 (by decide) rfl ?_
                refine z_iconst (n := 172) (v := 5) C dX10_readRoad_171 rfl rfl ?_
                refine z_aload_n (n := 173) C 3 dX10_readRoad_172 rfl rfl ?_
                refine z_getI (n := 176) C K fF_RX10_121 dX10_readRoad_173 rfl sh_85 (by decide) ?_
                refine z_imul (n := 177) C dX10_readRoad_176 rfl ?_
                refine z_iconst (n := 178) (v := 4) C dX10_readRoad_177 rfl rfl ?_
                refine z_iadd (n := 179) C dX10_readRoad_178 rfl ?_
                refine z_iconst (n := 180) (v := 0) C dX10_readRoad_179 rfl rfl ?_
                refine z_iastN (n := 181) C K (5 * r + 4) dX10_readRoad_180 rfl sh_95 (by decide) (by rw [(m3.r).2.1, show (5 : Int32) = nI 5 from rfl, mul_nI]; exact nI_add _ 4) (by omega) (by decide) ?_
                obtain ⟨I3, hI3⟩ : ∃ z, z = upI (upI (upI (upI I2 95 (5 * r + 2) (nI (10 * dv cd (a + 2) + dv cd (a + 3)))) 85 18 (nI (b + (a + 4)))) 95 (5 * r + 3) 0) 95 (5 * r + 4) 0 := ⟨_, rfl⟩
                rw [← hI3]
                have m4 : mat I3 b (a + 4) r nc := by rw [hI3]; exact m3.r.r
                have k4 : mcd I3 b cd n := by rw [hI3]; exact k2.r.u.r.r
                have f4 : frM I I3 := by rw [hI3]; exact (f1.tr f2).r.u (by omega) |>.r.r
                have a0 : I3 95 (5 * r) = nI (dv cd a) := by rw [hI3, upI_k _ _ (by omega), upI_k _ _ (by omega), upI_p _ _ (by decide), upI_k _ _ (by omega), o2 _ (by omega)]; exact e1
                have a1 : I3 95 (5 * r + 1) = nI (dv cd (a + 1)) := by rw [hI3, upI_k _ _ (by omega), upI_k _ _ (by omega), upI_p _ _ (by decide), upI_k _ _ (by omega)]; exact e2
                have a2 : I3 95 (5 * r + 2) = nI (10 * dv cd (a + 2) + dv cd (a + 3)) := by rw [hI3, upI_k _ _ (by omega), upI_k _ _ (by omega), upI_p _ _ (by decide), upI_same]
                have a3 : I3 95 (5 * r + 3) = nI 0 := by rw [hI3, upI_k _ _ (by omega), upI_same]; rfl
                have a4 : I3 95 (5 * r + 4) = nI 0 := by rw [hI3, upI_same]; rfl
                have ar : ∀ j, j < 5 * r → I3 95 j = I 95 j := fun j hj => by rw [hI3, upI_k _ _ (by omega), upI_k _ _ (by omega), upI_p _ _ (by decide), upI_k _ _ (by omega), o2 _ (by omega), o1 _ (by omega)]
                have hin : a + 4 ≤ n := by have := (isDb_t.mp d77).1; omega
                refine z_aload_n (n := 182) C 3 dX10_readRoad_181 rfl rfl ?_
                refine z_getI (n := 185) C K fF_RX10_142 dX10_readRoad_182 rfl sh_85 (by decide) ?_
                refine z_iload_n (n := 186) C 4 dX10_readRoad_185 rfl rfl ?_
                rw [m4.1, he]
                refine z_icmp_ge (tgt := 203) (n := 189) C dX10_readRoad_186 rfl rfl (fun c186 => ?_) (fun c186 => ?_)
                · refine z_iconst (n := 204) (v := 1) C dX10_readRoad_203 rfl rfl ?_
                  refine z_zret C E dX10_readRoad_204 (by decide) ?_
                  rw [fa_le, nI_toInt (by omega), nI_toInt (by omega)] at c186
                  have i99 : isCb cd n (a + 4) 99 = false := isCb_f.mpr (fun q => by have := q.1; omega)
                  refine hO (dv cd a, dv cd (a + 1), (10 * dv cd (a + 2) + dv cd (a + 3)), 0, 0, a + 4) (by
                    unfold rdP
                    rw [if_neg (by rw [b10]; decide), if_neg (fun q => q.elim (fun q => by rw [b51] at q; cases q) (fun q => c38 (by rw [q]))), if_neg (fun q => q (by rw [hnu]; exact ⟨by dsimp only; omega, by dsimp only; omega⟩)), hnu, if_pos i99]) I3 f4 m4.1 (fun j hj => ar j hj) (fun f hf5 => ?_) m4
                  rcases (show f = 0 ∨ f = 1 ∨ f = 2 ∨ f = 3 ∨ f = 4 by omega) with rfl | rfl | rfl | rfl | rfl
                  · simpa [rdU] using a0
                  · simpa [rdU] using a1
                  · simpa [rdU] using a2
                  · simpa [rdU] using a3
                  · simpa [rdU] using a4
                · rw [fa_le, nI_toInt (by omega), nI_toInt (by omega)] at c186
                  refine z_aload_n (n := 190) C 3 dX10_readRoad_189 rfl rfl ?_
                  refine z_getR (n := 193) (q := 88) C K fF_RX10_16 dX10_readRoad_190 rfl rfl sh_85 (by decide) rfl ?_
                  refine z_aload_n (n := 194) C 3 dX10_readRoad_193 rfl rfl ?_
                  refine z_getI (n := 197) C K fF_RX10_142 dX10_readRoad_194 rfl sh_85 (by decide) ?_
                  refine z_ialdN (n := 198) C K (b + (a + 4)) dX10_readRoad_197 rfl sh_88 (by decide) m4.1 (by omega) (by decide) ?_
                  refine z_bipush (n := 200) (v := 99) C dX10_readRoad_198 rfl rfl ?_
                  rw [k4.2 (a + 4) (by omega)]
                  refine z_icmp_eq (tgt := 205) (n := 203) C dX10_readRoad_200 rfl rfl (fun c200 => ?_) (fun c200 => ?_)
                  · refine z_aload_n (n := 206) C 3 dX10_readRoad_205 rfl rfl ?_
                    refine z_dup (n := 207) C dX10_readRoad_206 rfl rfl ?_
                    refine z_getI (n := 210) C K fF_RX10_142 dX10_readRoad_207 rfl sh_85 (by decide) ?_
                    refine z_iconst (n := 211) (v := 1) C dX10_readRoad_210 rfl rfl ?_
                    refine z_iadd (n := 212) C dX10_readRoad_211 rfl ?_
                    rw [m4.1, nI_1, show b + (a + 4) + 1 = b + (a + 4 + 1) from rfl]
                    have i99 : isCb cd n (a + 4) 99 = true := isCb_t.mpr ⟨by omega, c200⟩
                    have m5 : mat (upI I3 85 18 (nI (b + (a + 4 + 1)))) b (a + 4 + 1) r nc := m4.u
                    refine z_putI (n := 215) C K fF_RX10_142 dX10_readRoad_212 rfl sh_85 (by decide) ?_
                    refine z_aload_n (n := 216) C 3 dX10_readRoad_215 rfl rfl ?_
                    refine z_iload_n (n := 217) C 4 dX10_readRoad_216 rfl rfl ?_
                    refine z_iconst (n := 218) (v := 3) C dX10_readRoad_217 rfl rfl ?_
                    refine z_iconst (n := 219) (v := 1) C dX10_readRoad_218 rfl rfl ?_
                    refine z_bipush (n := 221) (v := 9) C dX10_readRoad_219 rfl rfl ?_
                    refine z_vi_4 (n := 224) (d' := 3) C K dX10_readRoad_221 rfl yk_X10_takes yv_X10_takes kM_RX10_148 (by decide) hR0 rfl rfl sh_85 (by decide) (by decide) ?_
                    have j99 := (isCb_t.mp i99).1
                    refine c_X10_takes k4.u (by omega) m5 hr12 (w := 3) (lo := 1) (hi := 9) (by decide) (by omega) (by omega) rfl rfl rfl (fun b221 I6 k6 m6 f6 e6 o6 => ?_) (fun b221 => ?_)
                    · refine z_ifF_eq (n := 227) (tgt := 243) C (by decide) dX10_readRoad_224 rfl rfl ?_
                      refine z_aload_n (n := 228) C 3 dX10_readRoad_227 rfl rfl ?_
                      refine z_iload_n (n := 229) C 4 dX10_readRoad_228 rfl rfl ?_
                      refine z_iconst (n := 230) (v := 4) C dX10_readRoad_229 rfl rfl ?_
                      refine z_iconst (n := 231) (v := 1) C dX10_readRoad_230 rfl rfl ?_
                      refine z_bipush (n := 233) (v := 9) C dX10_readRoad_231 rfl rfl ?_
                      refine z_vi_4 (n := 236) (d' := 3) C K dX10_readRoad_233 rfl yk_X10_takes yv_X10_takes kM_RX10_148 (by decide) hR0 rfl rfl sh_85 (by decide) (by decide) ?_
                      have j221 := (isDb_t.mp b221).1
                      refine c_X10_takes k6 (by omega) m6 hr12 (w := 4) (lo := 1) (hi := 9) (by decide) (by omega) (by omega) rfl rfl rfl (fun b233 I7 k7 m7 f7 e7 o7 => ?_) (fun b233 => ?_)
                      · refine z_ifF_eq (n := 239) (tgt := 243) C (by decide) dX10_readRoad_236 rfl rfl ?_
                        refine z_iconst (n := 240) (v := 1) C dX10_readRoad_239 rfl rfl ?_
                        refine z_goto (n := 244) C dX10_readRoad_240 rfl ?_
                        refine z_zret C E dX10_readRoad_244 (by decide) ?_
                        refine hO (dv cd a, dv cd (a + 1), (10 * dv cd (a + 2) + dv cd (a + 3)), dv cd (a + 4 + 1), dv cd (a + 4 + 2), a + 4 + 3) (by
                          unfold rdP
                          rw [if_neg (by rw [b10]; decide), if_neg (fun q => q.elim (fun q => by rw [b51] at q; cases q) (fun q => c38 (by rw [q]))), if_neg (fun q => q (by rw [hnu]; exact ⟨by dsimp only; omega, by dsimp only; omega⟩)), hnu, if_neg (by rw [i99]; decide), if_neg (by rw [b221]; decide), if_neg (by rw [show a + 4 + 2 = a + 4 + 1 + 1 from rfl, b233]; decide)]) I7 (((f4.u (by omega)).tr f6).tr f7) m7.1 (fun j hj => by rw [o7 _ (by omega), o6 _ (by omega), upI_p _ _ (by decide)]; exact ar j hj) (fun f hf5 => ?_) m7
                        rcases (show f = 0 ∨ f = 1 ∨ f = 2 ∨ f = 3 ∨ f = 4 by omega) with rfl | rfl | rfl | rfl | rfl
                        · rw [o7 _ (by omega), o6 _ (by omega), upI_p _ _ (by decide)]; simpa [rdU] using a0
                        · rw [o7 _ (by omega), o6 _ (by omega), upI_p _ _ (by decide)]; simpa [rdU] using a1
                        · rw [o7 _ (by omega), o6 _ (by omega), upI_p _ _ (by decide)]; simpa [rdU] using a2
                        · rw [o7 _ (by omega)]; simpa [rdU] using e6
                        · simpa [rdU] using e7
                      · refine z_ifT_eq (tgt := 243) C (by decide) dX10_readRoad_236 rfl ?_
                        refine z_iconst (n := 244) (v := 0) C dX10_readRoad_243 rfl rfl ?_
                        refine z_zret C E dX10_readRoad_244 (by decide) ?_
                        refine hE (a + 4 + 2) (by
                          unfold rdP
                          rw [if_neg (by rw [b10]; decide), if_neg (fun q => q.elim (fun q => by rw [b51] at q; cases q) (fun q => c38 (by rw [q]))), if_neg (fun q => q (by rw [hnu]; exact ⟨by dsimp only; omega, by dsimp only; omega⟩)), hnu, if_neg (by rw [i99]; decide), if_neg (by rw [b221]; decide), if_pos b233]) I6 ((f4.u (by omega)).tr f6) m6.1
                    · refine z_ifT_eq (tgt := 243) C (by decide) dX10_readRoad_224 rfl ?_
                      refine z_iconst (n := 244) (v := 0) C dX10_readRoad_243 rfl rfl ?_
                      refine z_zret C E dX10_readRoad_244 (by decide) ?_
                      refine hE (a + 4 + 1) (by
                        unfold rdP
                        rw [if_neg (by rw [b10]; decide), if_neg (fun q => q.elim (fun q => by rw [b51] at q; cases q) (fun q => c38 (by rw [q]))), if_neg (fun q => q (by rw [hnu]; exact ⟨by dsimp only; omega, by dsimp only; omega⟩)), hnu, if_neg (by rw [i99]; decide), if_pos b221]) _ (f4.u (by omega)) m5.1
                  · refine z_iconst (n := 204) (v := 1) C dX10_readRoad_203 rfl rfl ?_
                    refine z_zret C E dX10_readRoad_204 (by decide) ?_
                    have i99 : isCb cd n (a + 4) 99 = false := isCb_f.mpr (fun q => c200 q.2)
                    refine hO (dv cd a, dv cd (a + 1), (10 * dv cd (a + 2) + dv cd (a + 3)), 0, 0, a + 4) (by
                      unfold rdP
                      rw [if_neg (by rw [b10]; decide), if_neg (fun q => q.elim (fun q => by rw [b51] at q; cases q) (fun q => c38 (by rw [q]))), if_neg (fun q => q (by rw [hnu]; exact ⟨by dsimp only; omega, by dsimp only; omega⟩)), hnu, if_pos i99]) I3 f4 m4.1 (fun j hj => ar j hj) (fun f hf5 => ?_) m4
                    rcases (show f = 0 ∨ f = 1 ∨ f = 2 ∨ f = 3 ∨ f = 4 by omega) with rfl | rfl | rfl | rfl | rfl
                    · simpa [rdU] using a0
                    · simpa [rdU] using a1
                    · simpa [rdU] using a2
                    · simpa [rdU] using a3
                    · simpa [rdU] using a4
              · refine z_ifF_ne (n := 116) (tgt := 118) C (by decide) dX10_readRoad_113 rfl rfl ?_
                refine z_iconst (n := 117) (v := 0) C dX10_readRoad_116 rfl rfl ?_
                refine z_zret C E dX10_readRoad_117 (by decide) ?_
                refine hE (a + 2) (by
                  unfold rdP
                  rw [if_neg (by rw [b10]; decide), if_neg (fun q => q.elim (fun q => by rw [b51] at q; cases q) (fun q => c38 (by rw [q]))), if_pos (fun q => b110 ⟨by rw [nI_toInt (by omega)]; have := q.1; rw [hnu] at this; dsimp only at this; omega, by rw [nI_toInt (by omega)]; have := q.2; rw [hnu] at this; dsimp only at this; omega⟩)]) I2 (f1.tr f2) m2.1
            · refine z_istore_n (n := 81) (L' := [(3, _), (2, _), (0, _), (1, _)]) C dX10_readRoad_80 rfl (by rw [hnL]; decide) rfl ?_
              refine z_iload_n (n := 82) C 1 dX10_readRoad_81 rfl rfl ?_
              refine z_bipush (n := 84) (v := (-9)) C dX10_readRoad_82 rfl rfl ?_
              have v65 := (isDb_t.mp d65).v
              refine z_icmpF_eq (n := 87) (tgt := 93) C (n9 (by omega)) dX10_readRoad_84 rfl rfl ?_
              refine z_iload_n (n := 88) C 0 dX10_readRoad_87 rfl rfl ?_
              refine z_bipush (n := 90) (v := (-9)) C dX10_readRoad_88 rfl rfl ?_
              refine z_icmpF_ne (n := 93) (tgt := 97) C (by decide) dX10_readRoad_90 rfl rfl ?_
              refine z_iload_n (n := 94) C 1 dX10_readRoad_93 rfl rfl ?_
              refine z_goto (n := 103) C dX10_readRoad_94 rfl ?_
              have hnu : nuP cd n (a + 2) = (dv cd (a + 2), a + 3) := by unfold nuP; rw [if_pos d65, if_neg (by rw [show a + 2 + 1 = a + 3 from rfl, d77]; decide)]
              refine z_istore (n := 105) (L' := [(4, _), (3, _), (2, _), (0, _), (1, _)]) C dX10_readRoad_103 rfl (by rw [hnL]; decide) rfl ?_
              refine z_iload (n := 107) C 0 dX10_readRoad_105 rfl rfl ?_
              refine z_iconst (n := 108) (v := 1) C dX10_readRoad_107 rfl rfl ?_
              refine z_bipush (n := 110) (v := 30) C dX10_readRoad_108 rfl rfl ?_
              refine z_si_3 (n := 113) (d' := 1) C K dX10_readRoad_110 rfl yk_X10_within kT_yX10_within kM_RX10_92 (by decide) hR0 rfl ?_
              refine m_inB (lo := 1) (hi := 30) (by decide) (by decide) (fun b110 => ?_) (fun b110 => ?_)
              · refine z_ifT_ne (tgt := 118) C (by decide) dX10_readRoad_113 rfl ?_
                have l110 := b110.1
                have u110 := b110.2
                rw [nI_toInt (by omega)] at l110 u110
                refine z_aload_n (n := 119) C 3 dX10_readRoad_118 rfl rfl ?_
                refine z_getR (n := 122) (q := 95) C K fF_RX10_37 dX10_readRoad_119 rfl rfl sh_85 (by decide) rfl ?_
                refine z_iconst (n := 123) (v := 5) C dX10_readRoad_122 rfl rfl ?_
                refine z_aload_n (n := 124) C 3 dX10_readRoad_123 rfl rfl ?_
                refine z_getI (n := 127) C K fF_RX10_121 dX10_readRoad_124 rfl sh_85 (by decide) ?_
                refine z_imul (n := 128) C dX10_readRoad_127 rfl ?_
                refine z_iconst (n := 129) (v := 2) C dX10_readRoad_128 rfl rfl ?_
                refine z_iadd (n := 130) C dX10_readRoad_129 rfl ?_
                refine z_iload (n := 132) C 0 dX10_readRoad_130 rfl rfl ?_
                refine z_iastN (n := 133) C K (5 * r + 2) dX10_readRoad_132 rfl sh_95 (by decide) (by rw [m2.2.1, show (5 : Int32) = nI 5 from rfl, mul_nI]; exact nI_add _ 2) (by omega) (by decide) ?_
                refine z_aload_n (n := 134) C 3 dX10_readRoad_133 rfl rfl ?_
                refine z_dup (n := 135) C dX10_readRoad_134 rfl rfl ?_
                refine z_getI (n := 138) C K fF_RX10_142 dX10_readRoad_135 rfl sh_85 (by decide) ?_
                refine z_iload_n (n := 139) C 1 dX10_readRoad_138 rfl rfl ?_
                refine z_bipush (n := 141) (v := (-9)) C dX10_readRoad_139 rfl rfl ?_
                refine z_icmpF_ne (n := 144) (tgt := 148) C (by decide) dX10_readRoad_141 rfl rfl ?_
                refine z_iconst (n := 145) (v := 1) C dX10_readRoad_144 rfl rfl ?_
                refine z_goto (n := 149) C dX10_readRoad_145 rfl ?_
                refine z_iadd (n := 150) C dX10_readRoad_149 rfl ?_
                rw [upI_p _ _ (show 85 ≠ 95 by decide), m2.1, nI_1, show b + (a + 1 + 1) + 1 = b + (a + 3) by omega]
                have m3 : mat (upI (upI I2 95 (5 * r + 2) (nI (dv cd (a + 2)))) 85 18 (nI (b + (a + 3)))) b (a + 3) r nc := m2.r.u
                refine z_putI (n := 153) C K fF_RX10_142 dX10_readRoad_150 rfl sh_85 (by decide) ?_
                refine z_aload_n (n := 154) C 3 dX10_readRoad_153 rfl rfl ?_
                refine z_getR (n := 157) (q := 95) C K fF_RX10_37 dX10_readRoad_154 rfl rfl sh_85 (by decide) rfl ?_
                refine z_iconst (n := 158) (v := 5) C dX10_readRoad_157 rfl rfl ?_
                refine z_aload_n (n := 159) C 3 dX10_readRoad_158 rfl rfl ?_
                refine z_getI (n := 162) C K fF_RX10_121 dX10_readRoad_159 rfl sh_85 (by decide) ?_
                refine z_imul (n := 163) C dX10_readRoad_162 rfl ?_
                refine z_iconst (n := 164) (v := 3) C dX10_readRoad_163 rfl rfl ?_
                refine z_iadd (n := 165) C dX10_readRoad_164 rfl ?_
                refine z_iconst (n := 166) (v := 0) C dX10_readRoad_165 rfl rfl ?_
                refine z_iastN (n := 167) C K (5 * r + 3) dX10_readRoad_166 rfl sh_95 (by decide) (by rw [m3.2.1, show (5 : Int32) = nI 5 from rfl, mul_nI]; exact nI_add _ 3) (by omega) (by decide) ?_
                refine z_aload_n (n := 168) C 3 dX10_readRoad_167 rfl rfl ?_
                refine z_getR (n := 171) (q := 95) C K fF_RX10_37 dX10_readRoad_168 rfl rfl sh_85 (by decide) rfl ?_
                refine z_iconst (n := 172) (v := 5) C dX10_readRoad_171 rfl rfl ?_
                refine z_aload_n (n := 173) C 3 dX10_readRoad_172 rfl rfl ?_
                refine z_getI (n := 176) C K fF_RX10_121 dX10_readRoad_173 rfl sh_85 (by decide) ?_
                refine z_imul (n := 177) C dX10_readRoad_176 rfl ?_
                refine z_iconst (n := 178) (v := 4) C dX10_readRoad_177 rfl rfl ?_
                refine z_iadd (n := 179) C dX10_readRoad_178 rfl ?_
                refine z_iconst (n := 180) (v := 0) C dX10_readRoad_179 rfl rfl ?_
                refine z_iastN (n := 181) C K (5 * r + 4) dX10_readRoad_180 rfl sh_95 (by decide) (by rw [(m3.r).2.1, show (5 : Int32) = nI 5 from rfl, mul_nI]; exact nI_add _ 4) (by omega) (by decide) ?_
                obtain ⟨I3, hI3⟩ : ∃ z, z = upI (upI (upI (upI I2 95 (5 * r + 2) (nI (dv cd (a + 2)))) 85 18 (nI (b + (a + 3)))) 95 (5 * r + 3) 0) 95 (5 * r + 4) 0 := ⟨_, rfl⟩
                rw [← hI3]
                have m4 : mat I3 b (a + 3) r nc := by rw [hI3]; exact m3.r.r
                have k4 : mcd I3 b cd n := by rw [hI3]; exact k2.r.u.r.r
                have f4 : frM I I3 := by rw [hI3]; exact (f1.tr f2).r.u (by omega) |>.r.r
                have a0 : I3 95 (5 * r) = nI (dv cd a) := by rw [hI3, upI_k _ _ (by omega), upI_k _ _ (by omega), upI_p _ _ (by decide), upI_k _ _ (by omega), o2 _ (by omega)]; exact e1
                have a1 : I3 95 (5 * r + 1) = nI (dv cd (a + 1)) := by rw [hI3, upI_k _ _ (by omega), upI_k _ _ (by omega), upI_p _ _ (by decide), upI_k _ _ (by omega)]; exact e2
                have a2 : I3 95 (5 * r + 2) = nI (dv cd (a + 2)) := by rw [hI3, upI_k _ _ (by omega), upI_k _ _ (by omega), upI_p _ _ (by decide), upI_same]
                have a3 : I3 95 (5 * r + 3) = nI 0 := by rw [hI3, upI_k _ _ (by omega), upI_same]; rfl
                have a4 : I3 95 (5 * r + 4) = nI 0 := by rw [hI3, upI_same]; rfl
                have ar : ∀ j, j < 5 * r → I3 95 j = I 95 j := fun j hj => by rw [hI3, upI_k _ _ (by omega), upI_k _ _ (by omega), upI_p _ _ (by decide), upI_k _ _ (by omega), o2 _ (by omega), o1 _ (by omega)]
                have hin : a + 3 ≤ n := by have := (isDb_t.mp d65).1; omega
                refine z_aload_n (n := 182) C 3 dX10_readRoad_181 rfl rfl ?_
                refine z_getI (n := 185) C K fF_RX10_142 dX10_readRoad_182 rfl sh_85 (by decide) ?_
                refine z_iload_n (n := 186) C 4 dX10_readRoad_185 rfl rfl ?_
                rw [m4.1, he]
                refine z_icmp_ge (tgt := 203) (n := 189) C dX10_readRoad_186 rfl rfl (fun c186 => ?_) (fun c186 => ?_)
                · refine z_iconst (n := 204) (v := 1) C dX10_readRoad_203 rfl rfl ?_
                  refine z_zret C E dX10_readRoad_204 (by decide) ?_
                  rw [fa_le, nI_toInt (by omega), nI_toInt (by omega)] at c186
                  have i99 : isCb cd n (a + 3) 99 = false := isCb_f.mpr (fun q => by have := q.1; omega)
                  refine hO (dv cd a, dv cd (a + 1), (dv cd (a + 2)), 0, 0, a + 3) (by
                    unfold rdP
                    rw [if_neg (by rw [b10]; decide), if_neg (fun q => q.elim (fun q => by rw [b51] at q; cases q) (fun q => c38 (by rw [q]))), if_neg (fun q => q (by rw [hnu]; exact ⟨by dsimp only; omega, by dsimp only; omega⟩)), hnu, if_pos i99]) I3 f4 m4.1 (fun j hj => ar j hj) (fun f hf5 => ?_) m4
                  rcases (show f = 0 ∨ f = 1 ∨ f = 2 ∨ f = 3 ∨ f = 4 by omega) with rfl | rfl | rfl | rfl | rfl
                  · simpa [rdU] using a0
                  · simpa [rdU] using a1
                  · simpa [rdU] using a2
                  · simpa [rdU] using a3
                  · simpa [rdU] using a4
                · rw [fa_le, nI_toInt (by omega), nI_toInt (by omega)] at c186
                  refine z_aload_n (n := 190) C 3 dX10_readRoad_189 rfl rfl ?_
                  refine z_getR (n := 193) (q := 88) C K fF_RX10_16 dX10_readRoad_190 rfl rfl sh_85 (by decide) rfl ?_
                  refine z_aload_n (n := 194) C 3 dX10_readRoad_193 rfl rfl ?_
                  refine z_getI (n := 197) C K fF_RX10_142 dX10_readRoad_194 rfl sh_85 (by decide) ?_
                  refine z_ialdN (n := 198) C K (b + (a + 3)) dX10_readRoad_197 rfl sh_88 (by decide) m4.1 (by omega) (by decide) ?_
                  refine z_bipush (n := 200) (v := 99) C dX10_readRoad_198 rfl rfl ?_
                  rw [k4.2 (a + 3) (by omega)]
                  refine z_icmp_eq (tgt := 205) (n := 203) C dX10_readRoad_200 rfl rfl (fun c200 => ?_) (fun c200 => ?_)
                  · refine z_aload_n (n := 206) C 3 dX10_readRoad_205 rfl rfl ?_
                    refine z_dup (n := 207) C dX10_readRoad_206 rfl rfl ?_
                    refine z_getI (n := 210) C K fF_RX10_142 dX10_readRoad_207 rfl sh_85 (by decide) ?_
                    refine z_iconst (n := 211) (v := 1) C dX10_readRoad_210 rfl rfl ?_
                    refine z_iadd (n := 212) C dX10_readRoad_211 rfl ?_
                    rw [m4.1, nI_1, show b + (a + 3) + 1 = b + (a + 3 + 1) from rfl]
                    have i99 : isCb cd n (a + 3) 99 = true := isCb_t.mpr ⟨by omega, c200⟩
                    have m5 : mat (upI I3 85 18 (nI (b + (a + 3 + 1)))) b (a + 3 + 1) r nc := m4.u
                    refine z_putI (n := 215) C K fF_RX10_142 dX10_readRoad_212 rfl sh_85 (by decide) ?_
                    refine z_aload_n (n := 216) C 3 dX10_readRoad_215 rfl rfl ?_
                    refine z_iload_n (n := 217) C 4 dX10_readRoad_216 rfl rfl ?_
                    refine z_iconst (n := 218) (v := 3) C dX10_readRoad_217 rfl rfl ?_
                    refine z_iconst (n := 219) (v := 1) C dX10_readRoad_218 rfl rfl ?_
                    refine z_bipush (n := 221) (v := 9) C dX10_readRoad_219 rfl rfl ?_
                    refine z_vi_4 (n := 224) (d' := 3) C K dX10_readRoad_221 rfl yk_X10_takes yv_X10_takes kM_RX10_148 (by decide) hR0 rfl rfl sh_85 (by decide) (by decide) ?_
                    have j99 := (isCb_t.mp i99).1
                    refine c_X10_takes k4.u (by omega) m5 hr12 (w := 3) (lo := 1) (hi := 9) (by decide) (by omega) (by omega) rfl rfl rfl (fun b221 I6 k6 m6 f6 e6 o6 => ?_) (fun b221 => ?_)
                    · refine z_ifF_eq (n := 227) (tgt := 243) C (by decide) dX10_readRoad_224 rfl rfl ?_
                      refine z_aload_n (n := 228) C 3 dX10_readRoad_227 rfl rfl ?_
                      refine z_iload_n (n := 229) C 4 dX10_readRoad_228 rfl rfl ?_
                      refine z_iconst (n := 230) (v := 4) C dX10_readRoad_229 rfl rfl ?_
                      refine z_iconst (n := 231) (v := 1) C dX10_readRoad_230 rfl rfl ?_
                      refine z_bipush (n := 233) (v := 9) C dX10_readRoad_231 rfl rfl ?_
                      refine z_vi_4 (n := 236) (d' := 3) C K dX10_readRoad_233 rfl yk_X10_takes yv_X10_takes kM_RX10_148 (by decide) hR0 rfl rfl sh_85 (by decide) (by decide) ?_
                      have j221 := (isDb_t.mp b221).1
                      refine c_X10_takes k6 (by omega) m6 hr12 (w := 4) (lo := 1) (hi := 9) (by decide) (by omega) (by omega) rfl rfl rfl (fun b233 I7 k7 m7 f7 e7 o7 => ?_) (fun b233 => ?_)
                      · refine z_ifF_eq (n := 239) (tgt := 243) C (by decide) dX10_readRoad_236 rfl rfl ?_
                        refine z_iconst (n := 240) (v := 1) C dX10_readRoad_239 rfl rfl ?_
                        refine z_goto (n := 244) C dX10_readRoad_240 rfl ?_
                        refine z_zret C E dX10_readRoad_244 (by decide) ?_
                        refine hO (dv cd a, dv cd (a + 1), (dv cd (a + 2)), dv cd (a + 3 + 1), dv cd (a + 3 + 2), a + 3 + 3) (by
                          unfold rdP
                          rw [if_neg (by rw [b10]; decide), if_neg (fun q => q.elim (fun q => by rw [b51] at q; cases q) (fun q => c38 (by rw [q]))), if_neg (fun q => q (by rw [hnu]; exact ⟨by dsimp only; omega, by dsimp only; omega⟩)), hnu, if_neg (by rw [i99]; decide), if_neg (by rw [b221]; decide), if_neg (by rw [show a + 3 + 2 = a + 3 + 1 + 1 from rfl, b233]; decide)]) I7 (((f4.u (by omega)).tr f6).tr f7) m7.1 (fun j hj => by rw [o7 _ (by omega), o6 _ (by omega), upI_p _ _ (by decide)]; exact ar j hj) (fun f hf5 => ?_) m7
                        rcases (show f = 0 ∨ f = 1 ∨ f = 2 ∨ f = 3 ∨ f = 4 by omega) with rfl | rfl | rfl | rfl | rfl
                        · rw [o7 _ (by omega), o6 _ (by omega), upI_p _ _ (by decide)]; simpa [rdU] using a0
                        · rw [o7 _ (by omega), o6 _ (by omega), upI_p _ _ (by decide)]; simpa [rdU] using a1
                        · rw [o7 _ (by omega), o6 _ (by omega), upI_p _ _ (by decide)]; simpa [rdU] using a2
                        · rw [o7 _ (by omega)]; simpa [rdU] using e6
                        · simpa [rdU] using e7
                      · refine z_ifT_eq (tgt := 243) C (by decide) dX10_readRoad_236 rfl ?_
                        refine z_iconst (n := 244) (v := 0) C dX10_readRoad_243 rfl rfl ?_
                        refine z_zret C E dX10_readRoad_244 (by decide) ?_
                        refine hE (a + 3 + 2) (by
                          unfold rdP
                          rw [if_neg (by rw [b10]; decide), if_neg (fun q => q.elim (fun q => by rw [b51] at q; cases q) (fun q => c38 (by rw [q]))), if_neg (fun q => q (by rw [hnu]; exact ⟨by dsimp only; omega, by dsimp only; omega⟩)), hnu, if_neg (by rw [i99]; decide), if_neg (by rw [b221]; decide), if_pos b233]) I6 ((f4.u (by omega)).tr f6) m6.1
                    · refine z_ifT_eq (tgt := 243) C (by decide) dX10_readRoad_224 rfl ?_
                      refine z_iconst (n := 244) (v := 0) C dX10_readRoad_243 rfl rfl ?_
                      refine z_zret C E dX10_readRoad_244 (by decide) ?_
                      refine hE (a + 3 + 1) (by
                        unfold rdP
                        rw [if_neg (by rw [b10]; decide), if_neg (fun q => q.elim (fun q => by rw [b51] at q; cases q) (fun q => c38 (by rw [q]))), if_neg (fun q => q (by rw [hnu]; exact ⟨by dsimp only; omega, by dsimp only; omega⟩)), hnu, if_neg (by rw [i99]; decide), if_pos b221]) _ (f4.u (by omega)) m5.1
                  · refine z_iconst (n := 204) (v := 1) C dX10_readRoad_203 rfl rfl ?_
                    refine z_zret C E dX10_readRoad_204 (by decide) ?_
                    have i99 : isCb cd n (a + 3) 99 = false := isCb_f.mpr (fun q => c200 q.2)
                    refine hO (dv cd a, dv cd (a + 1), (dv cd (a + 2)), 0, 0, a + 3) (by
                      unfold rdP
                      rw [if_neg (by rw [b10]; decide), if_neg (fun q => q.elim (fun q => by rw [b51] at q; cases q) (fun q => c38 (by rw [q]))), if_neg (fun q => q (by rw [hnu]; exact ⟨by dsimp only; omega, by dsimp only; omega⟩)), hnu, if_pos i99]) I3 f4 m4.1 (fun j hj => ar j hj) (fun f hf5 => ?_) m4
                    rcases (show f = 0 ∨ f = 1 ∨ f = 2 ∨ f = 3 ∨ f = 4 by omega) with rfl | rfl | rfl | rfl | rfl
                    · simpa [rdU] using a0
                    · simpa [rdU] using a1
                    · simpa [rdU] using a2
                    · simpa [rdU] using a3
                    · simpa [rdU] using a4
              · refine z_ifF_ne (n := 116) (tgt := 118) C (by decide) dX10_readRoad_113 rfl rfl ?_
                refine z_iconst (n := 117) (v := 0) C dX10_readRoad_116 rfl rfl ?_
                refine z_zret C E dX10_readRoad_117 (by decide) ?_
                refine hE (a + 2) (by
                  unfold rdP
                  rw [if_neg (by rw [b10]; decide), if_neg (fun q => q.elim (fun q => by rw [b51] at q; cases q) (fun q => c38 (by rw [q]))), if_pos (fun q => b110 ⟨by rw [nI_toInt (by omega)]; have := q.1; rw [hnu] at this; dsimp only at this; omega, by rw [nI_toInt (by omega)]; have := q.2; rw [hnu] at this; dsimp only at this; omega⟩)]) I2 (f1.tr f2) m2.1
          · refine z_istore_n (n := 69) (L' := [(2, _), (0, _), (1, _)]) C dX10_readRoad_68 rfl (by rw [hnL]; decide) rfl ?_
            refine z_aload_n (n := 70) C 1 dX10_readRoad_69 rfl rfl ?_
            refine z_aload_n (n := 71) C 1 dX10_readRoad_70 rfl rfl ?_
            refine z_getI (n := 74) C K fF_RX10_142 dX10_readRoad_71 rfl sh_85 (by decide) ?_
            refine z_iconst (n := 75) (v := 1) C dX10_readRoad_74 rfl rfl ?_
            refine z_iadd (n := 76) C dX10_readRoad_75 rfl ?_
            refine z_iload_n (n := 77) C 2 dX10_readRoad_76 rfl rfl ?_
            refine z_vi_2 (n := 80) (d' := 2) C K dX10_readRoad_77 rfl yk_X10_digitAt yv_X10_digitAt kM_RX10_139 (by decide) hR0 rfl rfl sh_85 (by decide) (by decide) ?_
            rw [m2.1, nI_1]
            refine c_X10_digitAt k2 (a := a + 3) (by omega) rfl he (fun d77 => ?_) (fun d77 => ?_)
            · refine z_istore_n (n := 81) (L' := [(3, _), (2, _), (0, _), (1, _)]) C dX10_readRoad_80 rfl (by rw [hnL]; decide) rfl ?_
              refine z_iload_n (n := 82) C 1 dX10_readRoad_81 rfl rfl ?_
              refine z_bipush (n := 84) (v := (-9)) C dX10_readRoad_82 rfl rfl ?_
              refine z_icmpT_eq (tgt := 93) C (by decide) dX10_readRoad_84 rfl ?_
              refine z_iload_n (n := 94) C 1 dX10_readRoad_93 rfl rfl ?_
              refine z_goto (n := 103) C dX10_readRoad_94 rfl ?_
              have hnu : nuP cd n (a + 2) = (0, a + 2) := by unfold nuP; rw [if_neg (by rw [d65]; decide)]
              refine z_istore (n := 105) (L' := [(4, _), (3, _), (2, _), (0, _), (1, _)]) C dX10_readRoad_103 rfl (by rw [hnL]; decide) rfl ?_
              refine z_iload (n := 107) C 0 dX10_readRoad_105 rfl rfl ?_
              refine z_iconst (n := 108) (v := 1) C dX10_readRoad_107 rfl rfl ?_
              refine z_bipush (n := 110) (v := 30) C dX10_readRoad_108 rfl rfl ?_
              refine z_si_3 (n := 113) (d' := 1) C K dX10_readRoad_110 rfl yk_X10_within kT_yX10_within kM_RX10_92 (by decide) hR0 rfl ?_
              refine m_inB (lo := 1) (hi := 30) (by decide) (by decide) (fun b110 => ?_) (fun b110 => ?_)
              · refine z_ifT_ne (tgt := 118) C (by decide) dX10_readRoad_113 rfl ?_
                exfalso
                have := b110.1
                have e9 : (-9 : Int32).toInt = -9 := by decide
                rw [e9] at this
                omega
              · refine z_ifF_ne (n := 116) (tgt := 118) C (by decide) dX10_readRoad_113 rfl rfl ?_
                refine z_iconst (n := 117) (v := 0) C dX10_readRoad_116 rfl rfl ?_
                refine z_zret C E dX10_readRoad_117 (by decide) ?_
                refine hE (a + 2) (by
                  unfold rdP
                  rw [if_neg (by rw [b10]; decide), if_neg (fun q => q.elim (fun q => by rw [b51] at q; cases q) (fun q => c38 (by rw [q]))), if_pos (fun q => by have := q.1; rw [hnu] at this; dsimp only at this; omega)]) I2 (f1.tr f2) m2.1
            · refine z_istore_n (n := 81) (L' := [(3, _), (2, _), (0, _), (1, _)]) C dX10_readRoad_80 rfl (by rw [hnL]; decide) rfl ?_
              refine z_iload_n (n := 82) C 1 dX10_readRoad_81 rfl rfl ?_
              refine z_bipush (n := 84) (v := (-9)) C dX10_readRoad_82 rfl rfl ?_
              refine z_icmpT_eq (tgt := 93) C (by decide) dX10_readRoad_84 rfl ?_
              refine z_iload_n (n := 94) C 1 dX10_readRoad_93 rfl rfl ?_
              refine z_goto (n := 103) C dX10_readRoad_94 rfl ?_
              have hnu : nuP cd n (a + 2) = (0, a + 2) := by unfold nuP; rw [if_neg (by rw [d65]; decide)]
              refine z_istore (n := 105) (L' := [(4, _), (3, _), (2, _), (0, _), (1, _)]) C dX10_readRoad_103 rfl (by rw [hnL]; decide) rfl ?_
              refine z_iload (n := 107) C 0 dX10_readRoad_105 rfl rfl ?_
              refine z_iconst (n := 108) (v := 1) C dX10_readRoad_107 rfl rfl ?_
              refine z_bipush (n := 110) (v := 30) C dX10_readRoad_108 rfl rfl ?_
              refine z_si_3 (n := 113) (d' := 1) C K dX10_readRoad_110 rfl yk_X10_within kT_yX10_within kM_RX10_92 (by decide) hR0 rfl ?_
              refine m_inB (lo := 1) (hi := 30) (by decide) (by decide) (fun b110 => ?_) (fun b110 => ?_)
              · refine z_ifT_ne (tgt := 118) C (by decide) dX10_readRoad_113 rfl ?_
                exfalso
                have := b110.1
                have e9 : (-9 : Int32).toInt = -9 := by decide
                rw [e9] at this
                omega
              · refine z_ifF_ne (n := 116) (tgt := 118) C (by decide) dX10_readRoad_113 rfl rfl ?_
                refine z_iconst (n := 117) (v := 0) C dX10_readRoad_116 rfl rfl ?_
                refine z_zret C E dX10_readRoad_117 (by decide) ?_
                refine hE (a + 2) (by
                  unfold rdP
                  rw [if_neg (by rw [b10]; decide), if_neg (fun q => q.elim (fun q => by rw [b51] at q; cases q) (fun q => c38 (by rw [q]))), if_pos (fun q => by have := q.1; rw [hnu] at this; dsimp only at this; omega)]) I2 (f1.tr f2) m2.1
        · refine z_ifF_ne (n := 57) (tgt := 59) C (by decide) dX10_readRoad_54 rfl rfl ?_
          refine z_iconst (n := 58) (v := 0) C dX10_readRoad_57 rfl rfl ?_
          refine z_zret C E dX10_readRoad_58 (by decide) ?_
          refine hE (a + 1) (by
            unfold rdP
            rw [if_neg (by rw [b10]; decide), if_pos (Or.inl b51)]) I1 f1 m1.1
    · refine z_aload_n (n := 28) C 0 dX10_readRoad_27 rfl rfl ?_
      refine z_getR (n := 31) (q := 95) C K fF_RX10_37 dX10_readRoad_28 rfl rfl sh_85 (by decide) rfl ?_
      refine z_iconst (n := 32) (v := 5) C dX10_readRoad_31 rfl rfl ?_
      refine z_aload_n (n := 33) C 0 dX10_readRoad_32 rfl rfl ?_
      refine z_getI (n := 36) C K fF_RX10_121 dX10_readRoad_33 rfl sh_85 (by decide) ?_
      refine z_imul (n := 37) C dX10_readRoad_36 rfl ?_
      refine z_ialdN (n := 38) C K (5 * r) dX10_readRoad_37 rfl sh_95 (by decide) (by rw [m1.2.1, show (5 : Int32) = nI 5 from rfl, mul_nI]) (by omega) (by decide) ?_
      rw [show I1 95 (5 * r) = nI (dv cd a) from e1]
      refine z_icmpF_eq (n := 41) (tgt := 57) C (fun e => n9 (v := dv cd a) (by omega) e.symm) dX10_readRoad_38 rfl rfl ?_
      refine z_aload_n (n := 42) C 0 dX10_readRoad_41 rfl rfl ?_
      refine z_iload_n (n := 43) C 1 dX10_readRoad_42 rfl rfl ?_
      refine z_iconst (n := 44) (v := 1) C dX10_readRoad_43 rfl rfl ?_
      refine z_iconst (n := 45) (v := 0) C dX10_readRoad_44 rfl rfl ?_
      refine z_aload_n (n := 46) C 0 dX10_readRoad_45 rfl rfl ?_
      refine z_getI (n := 49) C K fF_RX10_118 dX10_readRoad_46 rfl sh_85 (by decide) ?_
      refine z_iconst (n := 50) (v := 1) C dX10_readRoad_49 rfl rfl ?_
      refine z_isub (n := 51) C dX10_readRoad_50 rfl ?_
      refine z_vi_4 (n := 54) (d' := 3) C K dX10_readRoad_51 rfl yk_X10_takes yv_X10_takes kM_RX10_148 (by decide) hR0 rfl rfl sh_85 (by decide) (by decide) ?_
      refine c_X10_takes k1 (by omega) m1 hr12 (w := 1) (lo := 0) (hi := nc - 1) (by decide) (by omega) (by omega) he rfl (nc1 (by exact m1.2.2) (by omega)) (fun b51 I2 k2 m2 f2 e2 o2 => ?_) (fun b51 => ?_)
      · refine z_ifT_ne (tgt := 59) C (by decide) dX10_readRoad_54 rfl ?_
        refine z_aload_n (n := 60) C 0 dX10_readRoad_59 rfl rfl ?_
        have d51 := isDb_t.mp b51
        have v51 := d51.v
        have h51 := d51.1
        refine z_aload_n (n := 61) C 0 dX10_readRoad_60 rfl rfl ?_
        refine z_getI (n := 64) C K fF_RX10_142 dX10_readRoad_61 rfl sh_85 (by decide) ?_
        refine z_iload_n (n := 65) C 1 dX10_readRoad_64 rfl rfl ?_
        refine z_vi_2 (n := 68) (d' := 2) C K dX10_readRoad_65 rfl yk_X10_digitAt yv_X10_digitAt kM_RX10_139 (by decide) hR0 rfl rfl sh_85 (by decide) (by decide) ?_
        rw [m2.1]
        refine c_X10_digitAt k2 (a := a + 2) (by omega) rfl he (fun d65 => ?_) (fun d65 => ?_)
        · refine z_istore_n (n := 69) (L' := [(2, _), (0, _), (1, _)]) C dX10_readRoad_68 rfl (by rw [hnL]; decide) rfl ?_
          refine z_aload_n (n := 70) C 1 dX10_readRoad_69 rfl rfl ?_
          refine z_aload_n (n := 71) C 1 dX10_readRoad_70 rfl rfl ?_
          refine z_getI (n := 74) C K fF_RX10_142 dX10_readRoad_71 rfl sh_85 (by decide) ?_
          refine z_iconst (n := 75) (v := 1) C dX10_readRoad_74 rfl rfl ?_
          refine z_iadd (n := 76) C dX10_readRoad_75 rfl ?_
          refine z_iload_n (n := 77) C 2 dX10_readRoad_76 rfl rfl ?_
          refine z_vi_2 (n := 80) (d' := 2) C K dX10_readRoad_77 rfl yk_X10_digitAt yv_X10_digitAt kM_RX10_139 (by decide) hR0 rfl rfl sh_85 (by decide) (by decide) ?_
          rw [m2.1, nI_1]
          refine c_X10_digitAt k2 (a := a + 3) (by omega) rfl he (fun d77 => ?_) (fun d77 => ?_)
          · refine z_istore_n (n := 81) (L' := [(3, _), (2, _), (0, _), (1, _)]) C dX10_readRoad_80 rfl (by rw [hnL]; decide) rfl ?_
            refine z_iload_n (n := 82) C 1 dX10_readRoad_81 rfl rfl ?_
            refine z_bipush (n := 84) (v := (-9)) C dX10_readRoad_82 rfl rfl ?_
            have v65 := (isDb_t.mp d65).v
            refine z_icmpF_eq (n := 87) (tgt := 93) C (n9 (by omega)) dX10_readRoad_84 rfl rfl ?_
            refine z_iload_n (n := 88) C 0 dX10_readRoad_87 rfl rfl ?_
            refine z_bipush (n := 90) (v := (-9)) C dX10_readRoad_88 rfl rfl ?_
            have v77 := (isDb_t.mp d77).v
            refine z_icmpT_ne (tgt := 97) C (n9 (by omega)) dX10_readRoad_90 rfl ?_
            refine z_bipush (n := 99) (v := 10) C dX10_readRoad_97 rfl rfl ?_
            refine z_iload_n (n := 100) C 1 dX10_readRoad_99 rfl rfl ?_
            refine z_imul (n := 101) C dX10_readRoad_100 rfl ?_
            refine z_iload_n (n := 102) C 0 dX10_readRoad_101 rfl rfl ?_
            refine z_iadd (n := 103) C dX10_readRoad_102 rfl ?_
            have hnu : nuP cd n (a + 2) = (10 * dv cd (a + 2) + dv cd (a + 3), a + 4) := by unfold nuP; rw [if_pos d65, if_pos d77]
            rw [show (10 : Int32) = nI 10 from rfl, mul_nI, nI_add]
            refine z_istore (n := 105) (L' := [(4, _), (3, _), (2, _), (0, _), (1, _)]) C dX10_readRoad_103 rfl (by rw [hnL]; decide) rfl ?_
            refine z_iload (n := 107) C 0 dX10_readRoad_105 rfl rfl ?_
            refine z_iconst (n := 108) (v := 1) C dX10_readRoad_107 rfl rfl ?_
            refine z_bipush (n := 110) (v := 30) C dX10_readRoad_108 rfl rfl ?_
            refine z_si_3 (n := 113) (d' := 1) C K dX10_readRoad_110 rfl yk_X10_within kT_yX10_within kM_RX10_92 (by decide) hR0 rfl ?_
            refine m_inB (lo := 1) (hi := 30) (by decide) (by decide) (fun b110 => ?_) (fun b110 => ?_)
            · refine z_ifT_ne (tgt := 118) C (by decide) dX10_readRoad_113 rfl ?_
              have l110 := b110.1
              have u110 := b110.2
              rw [nI_toInt (by omega)] at l110 u110
              refine z_aload_n (n := 119) C 3 dX10_readRoad_118 rfl rfl ?_
              refine z_getR (n := 122) (q := 95) C K fF_RX10_37 dX10_readRoad_119 rfl rfl sh_85 (by decide) rfl ?_
              refine z_iconst (n := 123) (v := 5) C dX10_readRoad_122 rfl rfl ?_
              refine z_aload_n (n := 124) C 3 dX10_readRoad_123 rfl rfl ?_
              refine z_getI (n := 127) C K fF_RX10_121 dX10_readRoad_124 rfl sh_85 (by decide) ?_
              refine z_imul (n := 128) C dX10_readRoad_127 rfl ?_
              refine z_iconst (n := 129) (v := 2) C dX10_readRoad_128 rfl rfl ?_
              refine z_iadd (n := 130) C dX10_readRoad_129 rfl ?_
              refine z_iload (n := 132) C 0 dX10_readRoad_130 rfl rfl ?_
              refine z_iastN (n := 133) C K (5 * r + 2) dX10_readRoad_132 rfl sh_95 (by decide) (by rw [m2.2.1, show (5 : Int32) = nI 5 from rfl, mul_nI]; exact nI_add _ 2) (by omega) (by decide) ?_
              refine z_aload_n (n := 134) C 3 dX10_readRoad_133 rfl rfl ?_
              refine z_dup (n := 135) C dX10_readRoad_134 rfl rfl ?_
              refine z_getI (n := 138) C K fF_RX10_142 dX10_readRoad_135 rfl sh_85 (by decide) ?_
              refine z_iload_n (n := 139) C 1 dX10_readRoad_138 rfl rfl ?_
              refine z_bipush (n := 141) (v := (-9)) C dX10_readRoad_139 rfl rfl ?_
              refine z_icmpT_ne (tgt := 148) C (n9 (by omega)) dX10_readRoad_141 rfl ?_
              refine z_iconst (n := 149) (v := 2) C dX10_readRoad_148 rfl rfl ?_
              refine z_iadd (n := 150) C dX10_readRoad_149 rfl ?_
              rw [upI_p _ _ (show 85 ≠ 95 by decide), m2.1, show (2 : Int32) = nI 2 from rfl, nI_add, show b + (a + 1 + 1) + 2 = b + (a + 4) by omega]
              have m3 : mat (upI (upI I2 95 (5 * r + 2) (nI (10 * dv cd (a + 2) + dv cd (a + 3)))) 85 18 (nI (b + (a + 4)))) b (a + 4) r nc := m2.r.u
              refine z_putI (n := 153) C K fF_RX10_142 dX10_readRoad_150 rfl sh_85 (by decide) ?_
              refine z_aload_n (n := 154) C 3 dX10_readRoad_153 rfl rfl ?_
              refine z_getR (n := 157) (q := 95) C K fF_RX10_37 dX10_readRoad_154 rfl rfl sh_85 (by decide) rfl ?_
              refine z_iconst (n := 158) (v := 5) C dX10_readRoad_157 rfl rfl ?_
              refine z_aload_n (n := 159) C 3 dX10_readRoad_158 rfl rfl ?_
              refine z_getI (n := 162) C K fF_RX10_121 dX10_readRoad_159 rfl sh_85 (by decide) ?_
              refine z_imul (n := 163) C dX10_readRoad_162 rfl ?_
              refine z_iconst (n := 164) (v := 3) C dX10_readRoad_163 rfl rfl ?_
              refine z_iadd (n := 165) C dX10_readRoad_164 rfl ?_
              refine z_iconst (n := 166) (v := 0) C dX10_readRoad_165 rfl rfl ?_
              refine z_iastN (n := 167) C K (5 * r + 3) dX10_readRoad_166 rfl sh_95 (by decide) (by rw [m3.2.1, show (5 : Int32) = nI 5 from rfl, mul_nI]; exact nI_add _ 3) (by omega) (by decide) ?_
              refine z_aload_n (n := 168) C 3 dX10_readRoad_167 rfl rfl ?_
              refine z_getR (n := 171) (q := 95) C K fF_RX10_37 dX10_readRoad_168 rfl rfl sh_85 (by decide) rfl ?_
              refine z_iconst (n := 172) (v := 5) C dX10_readRoad_171 rfl rfl ?_
              refine z_aload_n (n := 173) C 3 dX10_readRoad_172 rfl rfl ?_
              refine z_getI (n := 176) C K fF_RX10_121 dX10_readRoad_173 rfl sh_85 (by decide) ?_
              refine z_imul (n := 177) C dX10_readRoad_176 rfl ?_
              refine z_iconst (n := 178) (v := 4) C dX10_readRoad_177 rfl rfl ?_
              refine z_iadd (n := 179) C dX10_readRoad_178 rfl ?_
              refine z_iconst (n := 180) (v := 0) C dX10_readRoad_179 rfl rfl ?_
              refine z_iastN (n := 181) C K (5 * r + 4) dX10_readRoad_180 rfl sh_95 (by decide) (by rw [(m3.r).2.1, show (5 : Int32) = nI 5 from rfl, mul_nI]; exact nI_add _ 4) (by omega) (by decide) ?_
              obtain ⟨I3, hI3⟩ : ∃ z, z = upI (upI (upI (upI I2 95 (5 * r + 2) (nI (10 * dv cd (a + 2) + dv cd (a + 3)))) 85 18 (nI (b + (a + 4)))) 95 (5 * r + 3) 0) 95 (5 * r + 4) 0 := ⟨_, rfl⟩
              rw [← hI3]
              have m4 : mat I3 b (a + 4) r nc := by rw [hI3]; exact m3.r.r
              have k4 : mcd I3 b cd n := by rw [hI3]; exact k2.r.u.r.r
              have f4 : frM I I3 := by rw [hI3]; exact (f1.tr f2).r.u (by omega) |>.r.r
              have a0 : I3 95 (5 * r) = nI (dv cd a) := by rw [hI3, upI_k _ _ (by omega), upI_k _ _ (by omega), upI_p _ _ (by decide), upI_k _ _ (by omega), o2 _ (by omega)]; exact e1
              have a1 : I3 95 (5 * r + 1) = nI (dv cd (a + 1)) := by rw [hI3, upI_k _ _ (by omega), upI_k _ _ (by omega), upI_p _ _ (by decide), upI_k _ _ (by omega)]; exact e2
              have a2 : I3 95 (5 * r + 2) = nI (10 * dv cd (a + 2) + dv cd (a + 3)) := by rw [hI3, upI_k _ _ (by omega), upI_k _ _ (by omega), upI_p _ _ (by decide), upI_same]
              have a3 : I3 95 (5 * r + 3) = nI 0 := by rw [hI3, upI_k _ _ (by omega), upI_same]; rfl
              have a4 : I3 95 (5 * r + 4) = nI 0 := by rw [hI3, upI_same]; rfl
              have ar : ∀ j, j < 5 * r → I3 95 j = I 95 j := fun j hj => by rw [hI3, upI_k _ _ (by omega), upI_k _ _ (by omega), upI_p _ _ (by decide), upI_k _ _ (by omega), o2 _ (by omega), o1 _ (by omega)]
              have hin : a + 4 ≤ n := by have := (isDb_t.mp d77).1; omega
              refine z_aload_n (n := 182) C 3 dX10_readRoad_181 rfl rfl ?_
              refine z_getI (n := 185) C K fF_RX10_142 dX10_readRoad_182 rfl sh_85 (by decide) ?_
              refine z_iload_n (n := 186) C 4 dX10_readRoad_185 rfl rfl ?_
              rw [m4.1, he]
              refine z_icmp_ge (tgt := 203) (n := 189) C dX10_readRoad_186 rfl rfl (fun c186 => ?_) (fun c186 => ?_)
              · refine z_iconst (n := 204) (v := 1) C dX10_readRoad_203 rfl rfl ?_
                refine z_zret C E dX10_readRoad_204 (by decide) ?_
                rw [fa_le, nI_toInt (by omega), nI_toInt (by omega)] at c186
                have i99 : isCb cd n (a + 4) 99 = false := isCb_f.mpr (fun q => by have := q.1; omega)
                refine hO (dv cd a, dv cd (a + 1), (10 * dv cd (a + 2) + dv cd (a + 3)), 0, 0, a + 4) (by
                  unfold rdP
                  rw [if_neg (by rw [b10]; decide), if_neg (fun q => q.elim (fun q => by rw [b51] at q; cases q) (fun q => by rw [((isDb_w (by omega)).mp b51).1] at d24; cases d24)), if_neg (fun q => q (by rw [hnu]; exact ⟨by dsimp only; omega, by dsimp only; omega⟩)), hnu, if_pos i99]) I3 f4 m4.1 (fun j hj => ar j hj) (fun f hf5 => ?_) m4
                rcases (show f = 0 ∨ f = 1 ∨ f = 2 ∨ f = 3 ∨ f = 4 by omega) with rfl | rfl | rfl | rfl | rfl
                · simpa [rdU] using a0
                · simpa [rdU] using a1
                · simpa [rdU] using a2
                · simpa [rdU] using a3
                · simpa [rdU] using a4
              · rw [fa_le, nI_toInt (by omega), nI_toInt (by omega)] at c186
                refine z_aload_n (n := 190) C 3 dX10_readRoad_189 rfl rfl ?_
                refine z_getR (n := 193) (q := 88) C K fF_RX10_16 dX10_readRoad_190 rfl rfl sh_85 (by decide) rfl ?_
                refine z_aload_n (n := 194) C 3 dX10_readRoad_193 rfl rfl ?_
                refine z_getI (n := 197) C K fF_RX10_142 dX10_readRoad_194 rfl sh_85 (by decide) ?_
                refine z_ialdN (n := 198) C K (b + (a + 4)) dX10_readRoad_197 rfl sh_88 (by decide) m4.1 (by omega) (by decide) ?_
                refine z_bipush (n := 200) (v := 99) C dX10_readRoad_198 rfl rfl ?_
                rw [k4.2 (a + 4) (by omega)]
                refine z_icmp_eq (tgt := 205) (n := 203) C dX10_readRoad_200 rfl rfl (fun c200 => ?_) (fun c200 => ?_)
                · refine z_aload_n (n := 206) C 3 dX10_readRoad_205 rfl rfl ?_
                  refine z_dup (n := 207) C dX10_readRoad_206 rfl rfl ?_
                  refine z_getI (n := 210) C K fF_RX10_142 dX10_readRoad_207 rfl sh_85 (by decide) ?_
                  refine z_iconst (n := 211) (v := 1) C dX10_readRoad_210 rfl rfl ?_
                  refine z_iadd (n := 212) C dX10_readRoad_211 rfl ?_
                  rw [m4.1, nI_1, show b + (a + 4) + 1 = b + (a + 4 + 1) from rfl]
                  have i99 : isCb cd n (a + 4) 99 = true := isCb_t.mpr ⟨by omega, c200⟩
                  have m5 : mat (upI I3 85 18 (nI (b + (a + 4 + 1)))) b (a + 4 + 1) r nc := m4.u
                  refine z_putI (n := 215) C K fF_RX10_142 dX10_readRoad_212 rfl sh_85 (by decide) ?_
                  refine z_aload_n (n := 216) C 3 dX10_readRoad_215 rfl rfl ?_
                  refine z_iload_n (n := 217) C 4 dX10_readRoad_216 rfl rfl ?_
                  refine z_iconst (n := 218) (v := 3) C dX10_readRoad_217 rfl rfl ?_
                  refine z_iconst (n := 219) (v := 1) C dX10_readRoad_218 rfl rfl ?_
                  refine z_bipush (n := 221) (v := 9) C dX10_readRoad_219 rfl rfl ?_
                  refine z_vi_4 (n := 224) (d' := 3) C K dX10_readRoad_221 rfl yk_X10_takes yv_X10_takes kM_RX10_148 (by decide) hR0 rfl rfl sh_85 (by decide) (by decide) ?_
                  have j99 := (isCb_t.mp i99).1
                  refine c_X10_takes k4.u (by omega) m5 hr12 (w := 3) (lo := 1) (hi := 9) (by decide) (by omega) (by omega) rfl rfl rfl (fun b221 I6 k6 m6 f6 e6 o6 => ?_) (fun b221 => ?_)
                  · refine z_ifF_eq (n := 227) (tgt := 243) C (by decide) dX10_readRoad_224 rfl rfl ?_
                    refine z_aload_n (n := 228) C 3 dX10_readRoad_227 rfl rfl ?_
                    refine z_iload_n (n := 229) C 4 dX10_readRoad_228 rfl rfl ?_
                    refine z_iconst (n := 230) (v := 4) C dX10_readRoad_229 rfl rfl ?_
                    refine z_iconst (n := 231) (v := 1) C dX10_readRoad_230 rfl rfl ?_
                    refine z_bipush (n := 233) (v := 9) C dX10_readRoad_231 rfl rfl ?_
                    refine z_vi_4 (n := 236) (d' := 3) C K dX10_readRoad_233 rfl yk_X10_takes yv_X10_takes kM_RX10_148 (by decide) hR0 rfl rfl sh_85 (by decide) (by decide) ?_
                    have j221 := (isDb_t.mp b221).1
                    refine c_X10_takes k6 (by omega) m6 hr12 (w := 4) (lo := 1) (hi := 9) (by decide) (by omega) (by omega) rfl rfl rfl (fun b233 I7 k7 m7 f7 e7 o7 => ?_) (fun b233 => ?_)
                    · refine z_ifF_eq (n := 239) (tgt := 243) C (by decide) dX10_readRoad_236 rfl rfl ?_
                      refine z_iconst (n := 240) (v := 1) C dX10_readRoad_239 rfl rfl ?_
                      refine z_goto (n := 244) C dX10_readRoad_240 rfl ?_
                      refine z_zret C E dX10_readRoad_244 (by decide) ?_
                      refine hO (dv cd a, dv cd (a + 1), (10 * dv cd (a + 2) + dv cd (a + 3)), dv cd (a + 4 + 1), dv cd (a + 4 + 2), a + 4 + 3) (by
                        unfold rdP
                        rw [if_neg (by rw [b10]; decide), if_neg (fun q => q.elim (fun q => by rw [b51] at q; cases q) (fun q => by rw [((isDb_w (by omega)).mp b51).1] at d24; cases d24)), if_neg (fun q => q (by rw [hnu]; exact ⟨by dsimp only; omega, by dsimp only; omega⟩)), hnu, if_neg (by rw [i99]; decide), if_neg (by rw [b221]; decide), if_neg (by rw [show a + 4 + 2 = a + 4 + 1 + 1 from rfl, b233]; decide)]) I7 (((f4.u (by omega)).tr f6).tr f7) m7.1 (fun j hj => by rw [o7 _ (by omega), o6 _ (by omega), upI_p _ _ (by decide)]; exact ar j hj) (fun f hf5 => ?_) m7
                      rcases (show f = 0 ∨ f = 1 ∨ f = 2 ∨ f = 3 ∨ f = 4 by omega) with rfl | rfl | rfl | rfl | rfl
                      · rw [o7 _ (by omega), o6 _ (by omega), upI_p _ _ (by decide)]; simpa [rdU] using a0
                      · rw [o7 _ (by omega), o6 _ (by omega), upI_p _ _ (by decide)]; simpa [rdU] using a1
                      · rw [o7 _ (by omega), o6 _ (by omega), upI_p _ _ (by decide)]; simpa [rdU] using a2
                      · rw [o7 _ (by omega)]; simpa [rdU] using e6
                      · simpa [rdU] using e7
                    · refine z_ifT_eq (tgt := 243) C (by decide) dX10_readRoad_236 rfl ?_
                      refine z_iconst (n := 244) (v := 0) C dX10_readRoad_243 rfl rfl ?_
                      refine z_zret C E dX10_readRoad_244 (by decide) ?_
                      refine hE (a + 4 + 2) (by
                        unfold rdP
                        rw [if_neg (by rw [b10]; decide), if_neg (fun q => q.elim (fun q => by rw [b51] at q; cases q) (fun q => by rw [((isDb_w (by omega)).mp b51).1] at d24; cases d24)), if_neg (fun q => q (by rw [hnu]; exact ⟨by dsimp only; omega, by dsimp only; omega⟩)), hnu, if_neg (by rw [i99]; decide), if_neg (by rw [b221]; decide), if_pos b233]) I6 ((f4.u (by omega)).tr f6) m6.1
                  · refine z_ifT_eq (tgt := 243) C (by decide) dX10_readRoad_224 rfl ?_
                    refine z_iconst (n := 244) (v := 0) C dX10_readRoad_243 rfl rfl ?_
                    refine z_zret C E dX10_readRoad_244 (by decide) ?_
                    refine hE (a + 4 + 1) (by
                      unfold rdP
                      rw [if_neg (by rw [b10]; decide), if_neg (fun q => q.elim (fun q => by rw [b51] at q; cases q) (fun q => by rw [((isDb_w (by omega)).mp b51).1] at d24; cases d24)), if_neg (fun q => q (by rw [hnu]; exact ⟨by dsimp only; omega, by dsimp only; omega⟩)), hnu, if_neg (by rw [i99]; decide), if_pos b221]) _ (f4.u (by omega)) m5.1
                · refine z_iconst (n := 204) (v := 1) C dX10_readRoad_203 rfl rfl ?_
                  refine z_zret C E dX10_readRoad_204 (by decide) ?_
                  have i99 : isCb cd n (a + 4) 99 = false := isCb_f.mpr (fun q => c200 q.2)
                  refine hO (dv cd a, dv cd (a + 1), (10 * dv cd (a + 2) + dv cd (a + 3)), 0, 0, a + 4) (by
                    unfold rdP
                    rw [if_neg (by rw [b10]; decide), if_neg (fun q => q.elim (fun q => by rw [b51] at q; cases q) (fun q => by rw [((isDb_w (by omega)).mp b51).1] at d24; cases d24)), if_neg (fun q => q (by rw [hnu]; exact ⟨by dsimp only; omega, by dsimp only; omega⟩)), hnu, if_pos i99]) I3 f4 m4.1 (fun j hj => ar j hj) (fun f hf5 => ?_) m4
                  rcases (show f = 0 ∨ f = 1 ∨ f = 2 ∨ f = 3 ∨ f = 4 by omega) with rfl | rfl | rfl | rfl | rfl
                  · simpa [rdU] using a0
                  · simpa [rdU] using a1
                  · simpa [rdU] using a2
                  · simpa [rdU] using a3
                  · simpa [rdU] using a4
            · refine z_ifF_ne (n := 116) (tgt := 118) C (by decide) dX10_readRoad_113 rfl rfl ?_
              refine z_iconst (n := 117) (v := 0) C dX10_readRoad_116 rfl rfl ?_
              refine z_zret C E dX10_readRoad_117 (by decide) ?_
              refine hE (a + 2) (by
                unfold rdP
                rw [if_neg (by rw [b10]; decide), if_neg (fun q => q.elim (fun q => by rw [b51] at q; cases q) (fun q => by rw [((isDb_w (by omega)).mp b51).1] at d24; cases d24)), if_pos (fun q => b110 ⟨by rw [nI_toInt (by omega)]; have := q.1; rw [hnu] at this; dsimp only at this; omega, by rw [nI_toInt (by omega)]; have := q.2; rw [hnu] at this; dsimp only at this; omega⟩)]) I2 (f1.tr f2) m2.1
          · refine z_istore_n (n := 81) (L' := [(3, _), (2, _), (0, _), (1, _)]) C dX10_readRoad_80 rfl (by rw [hnL]; decide) rfl ?_
            refine z_iload_n (n := 82) C 1 dX10_readRoad_81 rfl rfl ?_
            refine z_bipush (n := 84) (v := (-9)) C dX10_readRoad_82 rfl rfl ?_
            have v65 := (isDb_t.mp d65).v
            refine z_icmpF_eq (n := 87) (tgt := 93) C (n9 (by omega)) dX10_readRoad_84 rfl rfl ?_
            refine z_iload_n (n := 88) C 0 dX10_readRoad_87 rfl rfl ?_
            refine z_bipush (n := 90) (v := (-9)) C dX10_readRoad_88 rfl rfl ?_
            refine z_icmpF_ne (n := 93) (tgt := 97) C (by decide) dX10_readRoad_90 rfl rfl ?_
            refine z_iload_n (n := 94) C 1 dX10_readRoad_93 rfl rfl ?_
            refine z_goto (n := 103) C dX10_readRoad_94 rfl ?_
            have hnu : nuP cd n (a + 2) = (dv cd (a + 2), a + 3) := by unfold nuP; rw [if_pos d65, if_neg (by rw [show a + 2 + 1 = a + 3 from rfl, d77]; decide)]
            refine z_istore (n := 105) (L' := [(4, _), (3, _), (2, _), (0, _), (1, _)]) C dX10_readRoad_103 rfl (by rw [hnL]; decide) rfl ?_
            refine z_iload (n := 107) C 0 dX10_readRoad_105 rfl rfl ?_
            refine z_iconst (n := 108) (v := 1) C dX10_readRoad_107 rfl rfl ?_
            refine z_bipush (n := 110) (v := 30) C dX10_readRoad_108 rfl rfl ?_
            refine z_si_3 (n := 113) (d' := 1) C K dX10_readRoad_110 rfl yk_X10_within kT_yX10_within kM_RX10_92 (by decide) hR0 rfl ?_
            refine m_inB (lo := 1) (hi := 30) (by decide) (by decide) (fun b110 => ?_) (fun b110 => ?_)
            · refine z_ifT_ne (tgt := 118) C (by decide) dX10_readRoad_113 rfl ?_
              have l110 := b110.1
              have u110 := b110.2
              rw [nI_toInt (by omega)] at l110 u110
              refine z_aload_n (n := 119) C 3 dX10_readRoad_118 rfl rfl ?_
              refine z_getR (n := 122) (q := 95) C K fF_RX10_37 dX10_readRoad_119 rfl rfl sh_85 (by decide) rfl ?_
              refine z_iconst (n := 123) (v := 5) C dX10_readRoad_122 rfl rfl ?_
              refine z_aload_n (n := 124) C 3 dX10_readRoad_123 rfl rfl ?_
              refine z_getI (n := 127) C K fF_RX10_121 dX10_readRoad_124 rfl sh_85 (by decide) ?_
              refine z_imul (n := 128) C dX10_readRoad_127 rfl ?_
              refine z_iconst (n := 129) (v := 2) C dX10_readRoad_128 rfl rfl ?_
              refine z_iadd (n := 130) C dX10_readRoad_129 rfl ?_
              refine z_iload (n := 132) C 0 dX10_readRoad_130 rfl rfl ?_
              refine z_iastN (n := 133) C K (5 * r + 2) dX10_readRoad_132 rfl sh_95 (by decide) (by rw [m2.2.1, show (5 : Int32) = nI 5 from rfl, mul_nI]; exact nI_add _ 2) (by omega) (by decide) ?_
              refine z_aload_n (n := 134) C 3 dX10_readRoad_133 rfl rfl ?_
              refine z_dup (n := 135) C dX10_readRoad_134 rfl rfl ?_
              refine z_getI (n := 138) C K fF_RX10_142 dX10_readRoad_135 rfl sh_85 (by decide) ?_
              refine z_iload_n (n := 139) C 1 dX10_readRoad_138 rfl rfl ?_
              refine z_bipush (n := 141) (v := (-9)) C dX10_readRoad_139 rfl rfl ?_
              refine z_icmpF_ne (n := 144) (tgt := 148) C (by decide) dX10_readRoad_141 rfl rfl ?_
              refine z_iconst (n := 145) (v := 1) C dX10_readRoad_144 rfl rfl ?_
              refine z_goto (n := 149) C dX10_readRoad_145 rfl ?_
              refine z_iadd (n := 150) C dX10_readRoad_149 rfl ?_
              rw [upI_p _ _ (show 85 ≠ 95 by decide), m2.1, nI_1, show b + (a + 1 + 1) + 1 = b + (a + 3) by omega]
              have m3 : mat (upI (upI I2 95 (5 * r + 2) (nI (dv cd (a + 2)))) 85 18 (nI (b + (a + 3)))) b (a + 3) r nc := m2.r.u
              refine z_putI (n := 153) C K fF_RX10_142 dX10_readRoad_150 rfl sh_85 (by decide) ?_
              refine z_aload_n (n := 154) C 3 dX10_readRoad_153 rfl rfl ?_
              refine z_getR (n := 157) (q := 95) C K fF_RX10_37 dX10_readRoad_154 rfl rfl sh_85 (by decide) rfl ?_
              refine z_iconst (n := 158) (v := 5) C dX10_readRoad_157 rfl rfl ?_
              refine z_aload_n (n := 159) C 3 dX10_readRoad_158 rfl rfl ?_
              refine z_getI (n := 162) C K fF_RX10_121 dX10_readRoad_159 rfl sh_85 (by decide) ?_
              refine z_imul (n := 163) C dX10_readRoad_162 rfl ?_
              refine z_iconst (n := 164) (v := 3) C dX10_readRoad_163 rfl rfl ?_
              refine z_iadd (n := 165) C dX10_readRoad_164 rfl ?_
              refine z_iconst (n := 166) (v := 0) C dX10_readRoad_165 rfl rfl ?_
              refine z_iastN (n := 167) C K (5 * r + 3) dX10_readRoad_166 rfl sh_95 (by decide) (by rw [m3.2.1, show (5 : Int32) = nI 5 from rfl, mul_nI]; exact nI_add _ 3) (by omega) (by decide) ?_
              refine z_aload_n (n := 168) C 3 dX10_readRoad_167 rfl rfl ?_
              refine z_getR (n := 171) (q := 95) C K fF_RX10_37 dX10_readRoad_168 rfl rfl sh_85 (by decide) rfl ?_
              refine z_iconst (n := 172) (v := 5) C dX10_readRoad_171 rfl rfl ?_
              refine z_aload_n (n := 173) C 3 dX10_readRoad_172 rfl rfl ?_
              refine z_getI (n := 176) C K fF_RX10_121 dX10_readRoad_173 rfl sh_85 (by decide) ?_
              refine z_imul (n := 177) C dX10_readRoad_176 rfl ?_
              refine z_iconst (n := 178) (v := 4) C dX10_readRoad_177 rfl rfl ?_
              refine z_iadd (n := 179) C dX10_readRoad_178 rfl ?_
              refine z_iconst (n := 180) (v := 0) C dX10_readRoad_179 rfl rfl ?_
              refine z_iastN (n := 181) C K (5 * r + 4) dX10_readRoad_180 rfl sh_95 (by decide) (by rw [(m3.r).2.1, show (5 : Int32) = nI 5 from rfl, mul_nI]; exact nI_add _ 4) (by omega) (by decide) ?_
              obtain ⟨I3, hI3⟩ : ∃ z, z = upI (upI (upI (upI I2 95 (5 * r + 2) (nI (dv cd (a + 2)))) 85 18 (nI (b + (a + 3)))) 95 (5 * r + 3) 0) 95 (5 * r + 4) 0 := ⟨_, rfl⟩
              rw [← hI3]
              have m4 : mat I3 b (a + 3) r nc := by rw [hI3]; exact m3.r.r
              have k4 : mcd I3 b cd n := by rw [hI3]; exact k2.r.u.r.r
              have f4 : frM I I3 := by rw [hI3]; exact (f1.tr f2).r.u (by omega) |>.r.r
              have a0 : I3 95 (5 * r) = nI (dv cd a) := by rw [hI3, upI_k _ _ (by omega), upI_k _ _ (by omega), upI_p _ _ (by decide), upI_k _ _ (by omega), o2 _ (by omega)]; exact e1
              have a1 : I3 95 (5 * r + 1) = nI (dv cd (a + 1)) := by rw [hI3, upI_k _ _ (by omega), upI_k _ _ (by omega), upI_p _ _ (by decide), upI_k _ _ (by omega)]; exact e2
              have a2 : I3 95 (5 * r + 2) = nI (dv cd (a + 2)) := by rw [hI3, upI_k _ _ (by omega), upI_k _ _ (by omega), upI_p _ _ (by decide), upI_same]
              have a3 : I3 95 (5 * r + 3) = nI 0 := by rw [hI3, upI_k _ _ (by omega), upI_same]; rfl
              have a4 : I3 95 (5 * r + 4) = nI 0 := by rw [hI3, upI_same]; rfl
              have ar : ∀ j, j < 5 * r → I3 95 j = I 95 j := fun j hj => by rw [hI3, upI_k _ _ (by omega), upI_k _ _ (by omega), upI_p _ _ (by decide), upI_k _ _ (by omega), o2 _ (by omega), o1 _ (by omega)]
              have hin : a + 3 ≤ n := by have := (isDb_t.mp d65).1; omega
              refine z_aload_n (n := 182) C 3 dX10_readRoad_181 rfl rfl ?_
              refine z_getI (n := 185) C K fF_RX10_142 dX10_readRoad_182 rfl sh_85 (by decide) ?_
              refine z_iload_n (n := 186) C 4 dX10_readRoad_185 rfl rfl ?_
              rw [m4.1, he]
              refine z_icmp_ge (tgt := 203) (n := 189) C dX10_readRoad_186 rfl rfl (fun c186 => ?_) (fun c186 => ?_)
              · refine z_iconst (n := 204) (v := 1) C dX10_readRoad_203 rfl rfl ?_
                refine z_zret C E dX10_readRoad_204 (by decide) ?_
                rw [fa_le, nI_toInt (by omega), nI_toInt (by omega)] at c186
                have i99 : isCb cd n (a + 3) 99 = false := isCb_f.mpr (fun q => by have := q.1; omega)
                refine hO (dv cd a, dv cd (a + 1), (dv cd (a + 2)), 0, 0, a + 3) (by
                  unfold rdP
                  rw [if_neg (by rw [b10]; decide), if_neg (fun q => q.elim (fun q => by rw [b51] at q; cases q) (fun q => by rw [((isDb_w (by omega)).mp b51).1] at d24; cases d24)), if_neg (fun q => q (by rw [hnu]; exact ⟨by dsimp only; omega, by dsimp only; omega⟩)), hnu, if_pos i99]) I3 f4 m4.1 (fun j hj => ar j hj) (fun f hf5 => ?_) m4
                rcases (show f = 0 ∨ f = 1 ∨ f = 2 ∨ f = 3 ∨ f = 4 by omega) with rfl | rfl | rfl | rfl | rfl
                · simpa [rdU] using a0
                · simpa [rdU] using a1
                · simpa [rdU] using a2
                · simpa [rdU] using a3
                · simpa [rdU] using a4
              · rw [fa_le, nI_toInt (by omega), nI_toInt (by omega)] at c186
                refine z_aload_n (n := 190) C 3 dX10_readRoad_189 rfl rfl ?_
                refine z_getR (n := 193) (q := 88) C K fF_RX10_16 dX10_readRoad_190 rfl rfl sh_85 (by decide) rfl ?_
                refine z_aload_n (n := 194) C 3 dX10_readRoad_193 rfl rfl ?_
                refine z_getI (n := 197) C K fF_RX10_142 dX10_readRoad_194 rfl sh_85 (by decide) ?_
                refine z_ialdN (n := 198) C K (b + (a + 3)) dX10_readRoad_197 rfl sh_88 (by decide) m4.1 (by omega) (by decide) ?_
                refine z_bipush (n := 200) (v := 99) C dX10_readRoad_198 rfl rfl ?_
                rw [k4.2 (a + 3) (by omega)]
                refine z_icmp_eq (tgt := 205) (n := 203) C dX10_readRoad_200 rfl rfl (fun c200 => ?_) (fun c200 => ?_)
                · refine z_aload_n (n := 206) C 3 dX10_readRoad_205 rfl rfl ?_
                  refine z_dup (n := 207) C dX10_readRoad_206 rfl rfl ?_
                  refine z_getI (n := 210) C K fF_RX10_142 dX10_readRoad_207 rfl sh_85 (by decide) ?_
                  refine z_iconst (n := 211) (v := 1) C dX10_readRoad_210 rfl rfl ?_
                  refine z_iadd (n := 212) C dX10_readRoad_211 rfl ?_
                  rw [m4.1, nI_1, show b + (a + 3) + 1 = b + (a + 3 + 1) from rfl]
                  have i99 : isCb cd n (a + 3) 99 = true := isCb_t.mpr ⟨by omega, c200⟩
                  have m5 : mat (upI I3 85 18 (nI (b + (a + 3 + 1)))) b (a + 3 + 1) r nc := m4.u
                  refine z_putI (n := 215) C K fF_RX10_142 dX10_readRoad_212 rfl sh_85 (by decide) ?_
                  refine z_aload_n (n := 216) C 3 dX10_readRoad_215 rfl rfl ?_
                  refine z_iload_n (n := 217) C 4 dX10_readRoad_216 rfl rfl ?_
                  refine z_iconst (n := 218) (v := 3) C dX10_readRoad_217 rfl rfl ?_
                  refine z_iconst (n := 219) (v := 1) C dX10_readRoad_218 rfl rfl ?_
                  refine z_bipush (n := 221) (v := 9) C dX10_readRoad_219 rfl rfl ?_
                  refine z_vi_4 (n := 224) (d' := 3) C K dX10_readRoad_221 rfl yk_X10_takes yv_X10_takes kM_RX10_148 (by decide) hR0 rfl rfl sh_85 (by decide) (by decide) ?_
                  have j99 := (isCb_t.mp i99).1
                  refine c_X10_takes k4.u (by omega) m5 hr12 (w := 3) (lo := 1) (hi := 9) (by decide) (by omega) (by omega) rfl rfl rfl (fun b221 I6 k6 m6 f6 e6 o6 => ?_) (fun b221 => ?_)
                  · refine z_ifF_eq (n := 227) (tgt := 243) C (by decide) dX10_readRoad_224 rfl rfl ?_
                    refine z_aload_n (n := 228) C 3 dX10_readRoad_227 rfl rfl ?_
                    refine z_iload_n (n := 229) C 4 dX10_readRoad_228 rfl rfl ?_
                    refine z_iconst (n := 230) (v := 4) C dX10_readRoad_229 rfl rfl ?_
                    refine z_iconst (n := 231) (v := 1) C dX10_readRoad_230 rfl rfl ?_
                    refine z_bipush (n := 233) (v := 9) C dX10_readRoad_231 rfl rfl ?_
                    refine z_vi_4 (n := 236) (d' := 3) C K dX10_readRoad_233 rfl yk_X10_takes yv_X10_takes kM_RX10_148 (by decide) hR0 rfl rfl sh_85 (by decide) (by decide) ?_
                    have j221 := (isDb_t.mp b221).1
                    refine c_X10_takes k6 (by omega) m6 hr12 (w := 4) (lo := 1) (hi := 9) (by decide) (by omega) (by omega) rfl rfl rfl (fun b233 I7 k7 m7 f7 e7 o7 => ?_) (fun b233 => ?_)
                    · refine z_ifF_eq (n := 239) (tgt := 243) C (by decide) dX10_readRoad_236 rfl rfl ?_
                      refine z_iconst (n := 240) (v := 1) C dX10_readRoad_239 rfl rfl ?_
                      refine z_goto (n := 244) C dX10_readRoad_240 rfl ?_
                      refine z_zret C E dX10_readRoad_244 (by decide) ?_
                      refine hO (dv cd a, dv cd (a + 1), (dv cd (a + 2)), dv cd (a + 3 + 1), dv cd (a + 3 + 2), a + 3 + 3) (by
                        unfold rdP
                        rw [if_neg (by rw [b10]; decide), if_neg (fun q => q.elim (fun q => by rw [b51] at q; cases q) (fun q => by rw [((isDb_w (by omega)).mp b51).1] at d24; cases d24)), if_neg (fun q => q (by rw [hnu]; exact ⟨by dsimp only; omega, by dsimp only; omega⟩)), hnu, if_neg (by rw [i99]; decide), if_neg (by rw [b221]; decide), if_neg (by rw [show a + 3 + 2 = a + 3 + 1 + 1 from rfl, b233]; decide)]) I7 (((f4.u (by omega)).tr f6).tr f7) m7.1 (fun j hj => by rw [o7 _ (by omega), o6 _ (by omega), upI_p _ _ (by decide)]; exact ar j hj) (fun f hf5 => ?_) m7
                      rcases (show f = 0 ∨ f = 1 ∨ f = 2 ∨ f = 3 ∨ f = 4 by omega) with rfl | rfl | rfl | rfl | rfl
                      · rw [o7 _ (by omega), o6 _ (by omega), upI_p _ _ (by decide)]; simpa [rdU] using a0
                      · rw [o7 _ (by omega), o6 _ (by omega), upI_p _ _ (by decide)]; simpa [rdU] using a1
                      · rw [o7 _ (by omega), o6 _ (by omega), upI_p _ _ (by decide)]; simpa [rdU] using a2
                      · rw [o7 _ (by omega)]; simpa [rdU] using e6
                      · simpa [rdU] using e7
                    · refine z_ifT_eq (tgt := 243) C (by decide) dX10_readRoad_236 rfl ?_
                      refine z_iconst (n := 244) (v := 0) C dX10_readRoad_243 rfl rfl ?_
                      refine z_zret C E dX10_readRoad_244 (by decide) ?_
                      refine hE (a + 3 + 2) (by
                        unfold rdP
                        rw [if_neg (by rw [b10]; decide), if_neg (fun q => q.elim (fun q => by rw [b51] at q; cases q) (fun q => by rw [((isDb_w (by omega)).mp b51).1] at d24; cases d24)), if_neg (fun q => q (by rw [hnu]; exact ⟨by dsimp only; omega, by dsimp only; omega⟩)), hnu, if_neg (by rw [i99]; decide), if_neg (by rw [b221]; decide), if_pos b233]) I6 ((f4.u (by omega)).tr f6) m6.1
                  · refine z_ifT_eq (tgt := 243) C (by decide) dX10_readRoad_224 rfl ?_
                    refine z_iconst (n := 244) (v := 0) C dX10_readRoad_243 rfl rfl ?_
                    refine z_zret C E dX10_readRoad_244 (by decide) ?_
                    refine hE (a + 3 + 1) (by
                      unfold rdP
                      rw [if_neg (by rw [b10]; decide), if_neg (fun q => q.elim (fun q => by rw [b51] at q; cases q) (fun q => by rw [((isDb_w (by omega)).mp b51).1] at d24; cases d24)), if_neg (fun q => q (by rw [hnu]; exact ⟨by dsimp only; omega, by dsimp only; omega⟩)), hnu, if_neg (by rw [i99]; decide), if_pos b221]) _ (f4.u (by omega)) m5.1
                · refine z_iconst (n := 204) (v := 1) C dX10_readRoad_203 rfl rfl ?_
                  refine z_zret C E dX10_readRoad_204 (by decide) ?_
                  have i99 : isCb cd n (a + 3) 99 = false := isCb_f.mpr (fun q => c200 q.2)
                  refine hO (dv cd a, dv cd (a + 1), (dv cd (a + 2)), 0, 0, a + 3) (by
                    unfold rdP
                    rw [if_neg (by rw [b10]; decide), if_neg (fun q => q.elim (fun q => by rw [b51] at q; cases q) (fun q => by rw [((isDb_w (by omega)).mp b51).1] at d24; cases d24)), if_neg (fun q => q (by rw [hnu]; exact ⟨by dsimp only; omega, by dsimp only; omega⟩)), hnu, if_pos i99]) I3 f4 m4.1 (fun j hj => ar j hj) (fun f hf5 => ?_) m4
                  rcases (show f = 0 ∨ f = 1 ∨ f = 2 ∨ f = 3 ∨ f = 4 by omega) with rfl | rfl | rfl | rfl | rfl
                  · simpa [rdU] using a0
                  · simpa [rdU] using a1
                  · simpa [rdU] using a2
                  · simpa [rdU] using a3
                  · simpa [rdU] using a4
            · refine z_ifF_ne (n := 116) (tgt := 118) C (by decide) dX10_readRoad_113 rfl rfl ?_
              refine z_iconst (n := 117) (v := 0) C dX10_readRoad_116 rfl rfl ?_
              refine z_zret C E dX10_readRoad_117 (by decide) ?_
              refine hE (a + 2) (by
                unfold rdP
                rw [if_neg (by rw [b10]; decide), if_neg (fun q => q.elim (fun q => by rw [b51] at q; cases q) (fun q => by rw [((isDb_w (by omega)).mp b51).1] at d24; cases d24)), if_pos (fun q => b110 ⟨by rw [nI_toInt (by omega)]; have := q.1; rw [hnu] at this; dsimp only at this; omega, by rw [nI_toInt (by omega)]; have := q.2; rw [hnu] at this; dsimp only at this; omega⟩)]) I2 (f1.tr f2) m2.1
        · refine z_istore_n (n := 69) (L' := [(2, _), (0, _), (1, _)]) C dX10_readRoad_68 rfl (by rw [hnL]; decide) rfl ?_
          refine z_aload_n (n := 70) C 1 dX10_readRoad_69 rfl rfl ?_
          refine z_aload_n (n := 71) C 1 dX10_readRoad_70 rfl rfl ?_
          refine z_getI (n := 74) C K fF_RX10_142 dX10_readRoad_71 rfl sh_85 (by decide) ?_
          refine z_iconst (n := 75) (v := 1) C dX10_readRoad_74 rfl rfl ?_
          refine z_iadd (n := 76) C dX10_readRoad_75 rfl ?_
          refine z_iload_n (n := 77) C 2 dX10_readRoad_76 rfl rfl ?_
          refine z_vi_2 (n := 80) (d' := 2) C K dX10_readRoad_77 rfl yk_X10_digitAt yv_X10_digitAt kM_RX10_139 (by decide) hR0 rfl rfl sh_85 (by decide) (by decide) ?_
          rw [m2.1, nI_1]
          refine c_X10_digitAt k2 (a := a + 3) (by omega) rfl he (fun d77 => ?_) (fun d77 => ?_)
          · refine z_istore_n (n := 81) (L' := [(3, _), (2, _), (0, _), (1, _)]) C dX10_readRoad_80 rfl (by rw [hnL]; decide) rfl ?_
            refine z_iload_n (n := 82) C 1 dX10_readRoad_81 rfl rfl ?_
            refine z_bipush (n := 84) (v := (-9)) C dX10_readRoad_82 rfl rfl ?_
            refine z_icmpT_eq (tgt := 93) C (by decide) dX10_readRoad_84 rfl ?_
            refine z_iload_n (n := 94) C 1 dX10_readRoad_93 rfl rfl ?_
            refine z_goto (n := 103) C dX10_readRoad_94 rfl ?_
            have hnu : nuP cd n (a + 2) = (0, a + 2) := by unfold nuP; rw [if_neg (by rw [d65]; decide)]
            refine z_istore (n := 105) (L' := [(4, _), (3, _), (2, _), (0, _), (1, _)]) C dX10_readRoad_103 rfl (by rw [hnL]; decide) rfl ?_
            refine z_iload (n := 107) C 0 dX10_readRoad_105 rfl rfl ?_
            refine z_iconst (n := 108) (v := 1) C dX10_readRoad_107 rfl rfl ?_
            refine z_bipush (n := 110) (v := 30) C dX10_readRoad_108 rfl rfl ?_
            refine z_si_3 (n := 113) (d' := 1) C K dX10_readRoad_110 rfl yk_X10_within kT_yX10_within kM_RX10_92 (by decide) hR0 rfl ?_
            refine m_inB (lo := 1) (hi := 30) (by decide) (by decide) (fun b110 => ?_) (fun b110 => ?_)
            · refine z_ifT_ne (tgt := 118) C (by decide) dX10_readRoad_113 rfl ?_
              exfalso
              have := b110.1
              have e9 : (-9 : Int32).toInt = -9 := by decide
              rw [e9] at this
              omega
            · refine z_ifF_ne (n := 116) (tgt := 118) C (by decide) dX10_readRoad_113 rfl rfl ?_
              refine z_iconst (n := 117) (v := 0) C dX10_readRoad_116 rfl rfl ?_
              refine z_zret C E dX10_readRoad_117 (by decide) ?_
              refine hE (a + 2) (by
                unfold rdP
                rw [if_neg (by rw [b10]; decide), if_neg (fun q => q.elim (fun q => by rw [b51] at q; cases q) (fun q => by rw [((isDb_w (by omega)).mp b51).1] at d24; cases d24)), if_pos (fun q => by have := q.1; rw [hnu] at this; dsimp only at this; omega)]) I2 (f1.tr f2) m2.1
          · refine z_istore_n (n := 81) (L' := [(3, _), (2, _), (0, _), (1, _)]) C dX10_readRoad_80 rfl (by rw [hnL]; decide) rfl ?_
            refine z_iload_n (n := 82) C 1 dX10_readRoad_81 rfl rfl ?_
            refine z_bipush (n := 84) (v := (-9)) C dX10_readRoad_82 rfl rfl ?_
            refine z_icmpT_eq (tgt := 93) C (by decide) dX10_readRoad_84 rfl ?_
            refine z_iload_n (n := 94) C 1 dX10_readRoad_93 rfl rfl ?_
            refine z_goto (n := 103) C dX10_readRoad_94 rfl ?_
            have hnu : nuP cd n (a + 2) = (0, a + 2) := by unfold nuP; rw [if_neg (by rw [d65]; decide)]
            refine z_istore (n := 105) (L' := [(4, _), (3, _), (2, _), (0, _), (1, _)]) C dX10_readRoad_103 rfl (by rw [hnL]; decide) rfl ?_
            refine z_iload (n := 107) C 0 dX10_readRoad_105 rfl rfl ?_
            refine z_iconst (n := 108) (v := 1) C dX10_readRoad_107 rfl rfl ?_
            refine z_bipush (n := 110) (v := 30) C dX10_readRoad_108 rfl rfl ?_
            refine z_si_3 (n := 113) (d' := 1) C K dX10_readRoad_110 rfl yk_X10_within kT_yX10_within kM_RX10_92 (by decide) hR0 rfl ?_
            refine m_inB (lo := 1) (hi := 30) (by decide) (by decide) (fun b110 => ?_) (fun b110 => ?_)
            · refine z_ifT_ne (tgt := 118) C (by decide) dX10_readRoad_113 rfl ?_
              exfalso
              have := b110.1
              have e9 : (-9 : Int32).toInt = -9 := by decide
              rw [e9] at this
              omega
            · refine z_ifF_ne (n := 116) (tgt := 118) C (by decide) dX10_readRoad_113 rfl rfl ?_
              refine z_iconst (n := 117) (v := 0) C dX10_readRoad_116 rfl rfl ?_
              refine z_zret C E dX10_readRoad_117 (by decide) ?_
              refine hE (a + 2) (by
                unfold rdP
                rw [if_neg (by rw [b10]; decide), if_neg (fun q => q.elim (fun q => by rw [b51] at q; cases q) (fun q => by rw [((isDb_w (by omega)).mp b51).1] at d24; cases d24)), if_pos (fun q => by have := q.1; rw [hnu] at this; dsimp only at this; omega)]) I2 (f1.tr f2) m2.1
      · refine z_ifF_ne (n := 57) (tgt := 59) C (by decide) dX10_readRoad_54 rfl rfl ?_
        refine z_iconst (n := 58) (v := 0) C dX10_readRoad_57 rfl rfl ?_
        refine z_zret C E dX10_readRoad_58 (by decide) ?_
        refine hE (a + 1) (by
          unfold rdP
          rw [if_neg (by rw [b10]; decide), if_pos (Or.inl b51)]) I1 f1 m1.1
  · refine z_ifF_ne (n := 16) (tgt := 18) C (by decide) dX10_readRoad_13 rfl rfl ?_
    refine z_iconst (n := 17) (v := 0) C dX10_readRoad_16 rfl rfl ?_
    refine z_zret C E dX10_readRoad_17 (by decide) ?_
    refine hE (a) (by
      unfold rdP
      rw [if_pos b10]) I (frM.rf I) hm.1
