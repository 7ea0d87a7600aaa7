theorem rrP_le {cd : Nat → Int32} {n nc : Nat} : ∀ (f r a : Nat) (rd : Nat → Nat → Nat) (p : Nat), a ≤ n → rrP cd n nc f r a rd = .inl p → p ≤ n := by
  intro f
  induction f with
  | zero => intro r a rd p ha h; simp [rrP] at h; omega
  | succ f ih =>
    intro r a rd p ha h
    rw [rrP] at h
    split at h
    · cases h; exact ha
    · rename_i h1
      have g1 := (isCb_t.mp (by simpa using h1)).1
      split at h
      · rename_i h2
        have g2 := (isCb_t.mp h2.2).1
        split at h
        · cases h; omega
        · rename_i h3
          have g3 := (isDb_t.mp (by simpa using h3)).1
          split at h
          · cases h
          · cases h; omega
      · split at h
        · cases h; omega
        · split at h
          · rename_i h4; cases h; exact rdP_le (by omega) h4
          · rename_i q h4
            have ha2 : q.2.2.2.2.2 ≤ n := by
              by_cases hnc : 2 ≤ nc
              · exact (rdP_in hnc h4).2.2.2.2.2.2.2.2
              · unfold rdP at h4
                split at h4
                · cases h4
                · rename_i e1
                  split at h4
                  · cases h4
                  · rename_i e2
                    have d1 := (isDb_t.mp (by simpa using e1))
                    have d2 := (isDb_t.mp (by have : ¬ isDb cd n (a + 1 + 1) 0 (nc - 1) = false := fun e => e2 (Or.inl e)
                                              simpa using this))
                    have v1 := d1.v
                    have v2 := d2.v
                    exact absurd (show dv cd (a + 1 + 1) = dv cd (a + 1) by omega) (fun e => e2 (Or.inr e))
            exact ih _ _ _ _ ha2 h
theorem txP_le {cd : Nat → Int32} {n p : Nat} (h : txP cd n = .inl p) : p ≤ n + 1 := by
  unfold txP at h
  split at h
  · cases h; omega
  · rename_i h1
    have g1 := (isCb_t.mp (by simpa using h1)).1
    split at h
    · cases h; omega
    · rename_i h2
      have g2 := (isDb_t.mp (by simpa using h2)).1
      split at h
      · rename_i h3; cases h
        have := rrP_le 13 0 2 _ _ (by omega) h3
        omega
      · cases h
theorem subb {b a : Nat} (h : b + a < 2 ^ 31) : nI (b + a) - nI b = nI a := by rw [pk_sub (by omega), Nat.add_sub_cancel_left]
set_option maxHeartbeats 4000000 in
set_option maxRecDepth 100000 in
theorem l_X10_readStreets {X : KX} {J : KJ} {t : Nat} (C : Cx X RX10 cX10_readStreets 5) (K : Kx X) (hnL : xnL X = 4) {Q : Int32 → KI → KJ → KR → Prop} (E : Ei X .int Q) {cd : Nat → Int32} {b n nc : Nat} (hnc : 2 ≤ nc ∧ nc ≤ 7) {I0 : KI} {res : Nat ⊕ (Nat × Nat × (Nat → Nat → Nat))}
    (hE : ∀ p I', res = .inl p → frM I0 I' → Q (nI p) I' J (rf t)) (hO : ∀ q I', res = .inr q → frM I0 I' → I' 85 15 = nI q.1 → I' 85 14 = nI nc → I' 85 16 = nI q.2.1 → rom I' q.1 q.2.2 → Q (-9) I' J (rf t)) :
    ∀ (f r a : Nat) (rd : Nat → Nat → Nat) (I : KI), f + r = 13 → r ≤ 12 → rrP cd n nc f r a rd = res → frM I0 I → mcd I b cd n → mat I b a r nc → rom I r rd → a ≤ n → Z X 0 0 (V X I J (rf t)) 61 [(0, .ref (xad X 85)), (1, .int (nI b)), (2, .int (nI n)), (3, .int (nI (b + n)))] [] := by
  intro f
  induction f with
  | zero => intro r a rd I h; omega
  | succ f ih =>
    intro r a rd I hfr hr12 hres hf hc hm ho han
    have hb := hc.1
    rw [rrP] at hres
    refine z_aload_n (n := 62) C 0 dX10_readStreets_61 rfl rfl ?_
    refine z_getI (n := 65) C K fF_RX10_142 dX10_readStreets_62 rfl sh_85 (by decide) ?_
    refine z_iload_n (n := 66) C 3 dX10_readStreets_65 rfl rfl ?_
    rw [hm.1]
    refine z_icmp_ge (tgt := 83) (n := 69) C dX10_readStreets_66 rfl rfl (fun c66 => ?_) (fun c66 => ?_)
    · rw [fa_le, nI_toInt (by omega), nI_toInt (by omega)] at c66
      refine z_aload_n (n := 84) C 0 dX10_readStreets_83 rfl rfl ?_
      refine z_getI (n := 87) C K fF_RX10_142 dX10_readStreets_84 rfl sh_85 (by decide) ?_
      refine z_iload_n (n := 88) C 1 dX10_readStreets_87 rfl rfl ?_
      refine z_isub (n := 89) C dX10_readStreets_88 rfl ?_
      refine z_iret C E dX10_readStreets_89 ?_
      rw [hm.1, subb (by omega)]
      exact hE a I (by rw [← hres, if_pos (isCb_f.mpr (fun q => by have := q.1; omega))]) hf
    · rw [fa_le, nI_toInt (by omega), nI_toInt (by omega)] at c66
      refine z_aload_n (n := 70) C 0 dX10_readStreets_69 rfl rfl ?_
      refine z_getR (n := 73) (q := 88) C K fF_RX10_16 dX10_readStreets_70 rfl rfl sh_85 (by decide) rfl ?_
      refine z_aload_n (n := 74) C 0 dX10_readStreets_73 rfl rfl ?_
      refine z_getI (n := 77) C K fF_RX10_142 dX10_readStreets_74 rfl sh_85 (by decide) ?_
      refine z_ialdN (n := 78) C K (b + a) dX10_readStreets_77 rfl sh_88 (by decide) hm.1 (by omega) (by decide) ?_
      refine z_bipush (n := 80) (v := 59) C dX10_readStreets_78 rfl rfl ?_
      rw [hc.2 a (by omega)]
      refine z_icmp_eq (tgt := 90) (n := 83) C dX10_readStreets_80 rfl rfl (fun c80 => ?_) (fun c80 => ?_)
      · have i59 : isCb cd n a 59 = true := isCb_t.mpr ⟨by omega, c80⟩
        refine z_aload_n (n := 91) C 0 dX10_readStreets_90 rfl rfl ?_
        refine z_dup (n := 92) C dX10_readStreets_91 rfl rfl ?_
        refine z_getI (n := 95) C K fF_RX10_142 dX10_readStreets_92 rfl sh_85 (by decide) ?_
        refine z_iconst (n := 96) (v := 1) C dX10_readStreets_95 rfl rfl ?_
        refine z_iadd (n := 97) C dX10_readStreets_96 rfl ?_
        rw [hm.1, nI_1, show b + a + 1 = b + (a + 1) from rfl]
        have m1 : mat (upI I 85 18 (nI (b + (a + 1)))) b (a + 1) r nc := hm.u
        refine z_putI (n := 100) C K fF_RX10_142 dX10_readStreets_97 rfl sh_85 (by decide) ?_
        refine z_aload_n (n := 101) C 0 dX10_readStreets_100 rfl rfl ?_
        refine z_getI (n := 104) C K fF_RX10_121 dX10_readStreets_101 rfl sh_85 (by decide) ?_
        refine z_if_le (tgt := 206) (n := 107) C dX10_readStreets_104 rfl rfl (fun c104 => ?_) (fun c104 => ?_)
        · rw [upI_k _ _ (by decide), hm.2.1, fa_le, nI_toInt (by omega)] at c104
          simp only [Int32.reduceToInt] at c104
          have n115 : ¬ (0 < r ∧ isCb cd n (a + 1) 115 = true) := fun q => by omega
          refine z_aload_n (n := 207) C 0 dX10_readStreets_206 rfl rfl ?_
          refine z_getI (n := 210) C K fF_RX10_121 dX10_readStreets_207 rfl sh_85 (by decide) ?_
          refine z_bipush (n := 212) (v := 12) C dX10_readStreets_210 rfl rfl ?_
          rw [m1.2.1]
          refine z_icmp_eq (tgt := 223) (n := 215) C dX10_readStreets_212 rfl rfl (fun c212 => ?_) (fun c212 => ?_)
          · refine z_aload_n (n := 224) C 0 dX10_readStreets_223 rfl rfl ?_
            refine z_getI (n := 227) C K fF_RX10_142 dX10_readStreets_224 rfl sh_85 (by decide) ?_
            refine z_iload_n (n := 228) C 1 dX10_readStreets_227 rfl rfl ?_
            refine z_isub (n := 229) C dX10_readStreets_228 rfl ?_
            refine z_iret C E dX10_readStreets_229 ?_
            rw [m1.1, subb (by omega)]
            exact hE (a + 1) _ (by rw [← hres, if_neg (by rw [i59]; decide), if_neg n115, if_pos (nI_inj (b := 12) c212 (by omega) (by decide))]) (hf.u (by omega))
          · refine z_aload_n (n := 216) C 0 dX10_readStreets_215 rfl rfl ?_
            refine z_iload_n (n := 217) C 3 dX10_readStreets_216 rfl rfl ?_
            refine z_vi_1 (n := 220) (d' := 4) C K dX10_readStreets_217 rfl yk_X10_readRoad yv_X10_readRoad kM_RX10_145 (by decide) hR0 rfl rfl sh_85 (by decide) (by decide) ?_
            have hne12 : ¬ r = 12 := fun e => c212 (by rw [e]; rfl)
            have n59 := (isCb_t.mp i59).1
            refine c_X10_readRoad hc.u (a := a + 1) (by omega) m1 (by omega) hnc rfl (fun p hp I1 g1 g2 => ?_) (fun q hq I1 g1 g2 g3 g4 g5 => ?_)
            · refine z_ifF_ne (n := 223) (tgt := 230) C (by decide) dX10_readStreets_220 rfl rfl ?_
              refine z_aload_n (n := 224) C 0 dX10_readStreets_223 rfl rfl ?_
              refine z_getI (n := 227) C K fF_RX10_142 dX10_readStreets_224 rfl sh_85 (by decide) ?_
              refine z_iload_n (n := 228) C 1 dX10_readStreets_227 rfl rfl ?_
              refine z_isub (n := 229) C dX10_readStreets_228 rfl ?_
              refine z_iret C E dX10_readStreets_229 ?_
              rw [g2, subb (by have := rdP_le (a := a + 1) (by omega) hp; omega)]
              exact hE p I1 (by rw [← hres, if_neg (by rw [i59]; decide), if_neg n115, if_neg hne12, hp]) ((hf.u (by omega)).tr g1)
            · refine z_ifT_ne (tgt := 230) C (by decide) dX10_readStreets_220 rfl ?_
              refine z_aload_n (n := 231) C 0 dX10_readStreets_230 rfl rfl ?_
              refine z_dup (n := 232) C dX10_readStreets_231 rfl rfl ?_
              refine z_getI (n := 235) C K fF_RX10_121 dX10_readStreets_232 rfl sh_85 (by decide) ?_
              refine z_iconst (n := 236) (v := 1) C dX10_readStreets_235 rfl rfl ?_
              refine z_iadd (n := 237) C dX10_readStreets_236 rfl ?_
              skip
              refine z_putI (n := 240) C K fF_RX10_121 dX10_readStreets_237 rfl sh_85 (by decide) ?_
              refine z_goto (n := 61) C dX10_readStreets_240 rfl ?_
              rw [hq, if_neg (by rw [i59]; decide), if_neg n115, if_neg hne12] at hres
              have hq5 := (rdP_in hnc.1 hq).2.2.2.2.2.2.2.2
              rw [g5.2.1, nI_1]
              exact ih (r + 1) q.2.2.2.2.2 (rdU rd r q) _ (by omega) (by omega) hres (((hf.u (by omega)).tr g1).u (by omega)) ((hc.fr (by rw [g1.1 88 (by decide) (by decide), upI_row _ _ (by decide)])).u) ⟨by rw [upI_k _ _ (by decide)]; exact g2, upI_same _ _ _ _, by rw [upI_k _ _ (by decide)]; exact g5.2.2⟩ (fun k hk f hf5 => by
                rw [upI_p _ _ (by decide)]
                by_cases e : k = r
                · subst e; rw [g4 f hf5]; simp [rdU]
                · rw [g3 _ (by omega), upI_p _ _ (by decide), ho k (by omega) f hf5]; simp [rdU, e]) hq5
        · refine z_aload_n (n := 108) C 0 dX10_readStreets_107 rfl rfl ?_
          refine z_getI (n := 111) C K fF_RX10_142 dX10_readStreets_108 rfl sh_85 (by decide) ?_
          refine z_iload_n (n := 112) C 3 dX10_readStreets_111 rfl rfl ?_
          rw [m1.1]
          refine z_icmp_ge (tgt := 206) (n := 115) C dX10_readStreets_112 rfl rfl (fun c112 => ?_) (fun c112 => ?_)
          · rw [fa_le, nI_toInt (by omega), nI_toInt (by omega)] at c112
            have n115 : ¬ (0 < r ∧ isCb cd n (a + 1) 115 = true) := fun q => by have := (isCb_t.mp q.2).1; omega
            refine z_aload_n (n := 207) C 0 dX10_readStreets_206 rfl rfl ?_
            refine z_getI (n := 210) C K fF_RX10_121 dX10_readStreets_207 rfl sh_85 (by decide) ?_
            refine z_bipush (n := 212) (v := 12) C dX10_readStreets_210 rfl rfl ?_
            rw [m1.2.1]
            refine z_icmp_eq (tgt := 223) (n := 215) C dX10_readStreets_212 rfl rfl (fun c212 => ?_) (fun c212 => ?_)
            · refine z_aload_n (n := 224) C 0 dX10_readStreets_223 rfl rfl ?_
              refine z_getI (n := 227) C K fF_RX10_142 dX10_readStreets_224 rfl sh_85 (by decide) ?_
              refine z_iload_n (n := 228) C 1 dX10_readStreets_227 rfl rfl ?_
              refine z_isub (n := 229) C dX10_readStreets_228 rfl ?_
              refine z_iret C E dX10_readStreets_229 ?_
              rw [m1.1, subb (by omega)]
              exact hE (a + 1) _ (by rw [← hres, if_neg (by rw [i59]; decide), if_neg n115, if_pos (nI_inj (b := 12) c212 (by omega) (by decide))]) (hf.u (by omega))
            · refine z_aload_n (n := 216) C 0 dX10_readStreets_215 rfl rfl ?_
              refine z_iload_n (n := 217) C 3 dX10_readStreets_216 rfl rfl ?_
              refine z_vi_1 (n := 220) (d' := 4) C K dX10_readStreets_217 rfl yk_X10_readRoad yv_X10_readRoad kM_RX10_145 (by decide) hR0 rfl rfl sh_85 (by decide) (by decide) ?_
              have hne12 : ¬ r = 12 := fun e => c212 (by rw [e]; rfl)
              have n59 := (isCb_t.mp i59).1
              refine c_X10_readRoad hc.u (a := a + 1) (by omega) m1 (by omega) hnc rfl (fun p hp I1 g1 g2 => ?_) (fun q hq I1 g1 g2 g3 g4 g5 => ?_)
              · refine z_ifF_ne (n := 223) (tgt := 230) C (by decide) dX10_readStreets_220 rfl rfl ?_
                refine z_aload_n (n := 224) C 0 dX10_readStreets_223 rfl rfl ?_
                refine z_getI (n := 227) C K fF_RX10_142 dX10_readStreets_224 rfl sh_85 (by decide) ?_
                refine z_iload_n (n := 228) C 1 dX10_readStreets_227 rfl rfl ?_
                refine z_isub (n := 229) C dX10_readStreets_228 rfl ?_
                refine z_iret C E dX10_readStreets_229 ?_
                rw [g2, subb (by have := rdP_le (a := a + 1) (by omega) hp; omega)]
                exact hE p I1 (by rw [← hres, if_neg (by rw [i59]; decide), if_neg n115, if_neg hne12, hp]) ((hf.u (by omega)).tr g1)
              · refine z_ifT_ne (tgt := 230) C (by decide) dX10_readStreets_220 rfl ?_
                refine z_aload_n (n := 231) C 0 dX10_readStreets_230 rfl rfl ?_
                refine z_dup (n := 232) C dX10_readStreets_231 rfl rfl ?_
                refine z_getI (n := 235) C K fF_RX10_121 dX10_readStreets_232 rfl sh_85 (by decide) ?_
                refine z_iconst (n := 236) (v := 1) C dX10_readStreets_235 rfl rfl ?_
                refine z_iadd (n := 237) C dX10_readStreets_236 rfl ?_
                skip
                refine z_putI (n := 240) C K fF_RX10_121 dX10_readStreets_237 rfl sh_85 (by decide) ?_
                refine z_goto (n := 61) C dX10_readStreets_240 rfl ?_
                rw [hq, if_neg (by rw [i59]; decide), if_neg n115, if_neg hne12] at hres
                have hq5 := (rdP_in hnc.1 hq).2.2.2.2.2.2.2.2
                rw [g5.2.1, nI_1]
                exact ih (r + 1) q.2.2.2.2.2 (rdU rd r q) _ (by omega) (by omega) hres (((hf.u (by omega)).tr g1).u (by omega)) ((hc.fr (by rw [g1.1 88 (by decide) (by decide), upI_row _ _ (by decide)])).u) ⟨by rw [upI_k _ _ (by decide)]; exact g2, upI_same _ _ _ _, by rw [upI_k _ _ (by decide)]; exact g5.2.2⟩ (fun k hk f hf5 => by
                  rw [upI_p _ _ (by decide)]
                  by_cases e : k = r
                  · subst e; rw [g4 f hf5]; simp [rdU]
                  · rw [g3 _ (by omega), upI_p _ _ (by decide), ho k (by omega) f hf5]; simp [rdU, e]) hq5
          · rw [fa_le, nI_toInt (by omega), nI_toInt (by omega)] at c112
            refine z_aload_n (n := 116) C 0 dX10_readStreets_115 rfl rfl ?_
            refine z_getR (n := 119) (q := 88) C K fF_RX10_16 dX10_readStreets_116 rfl rfl sh_85 (by decide) rfl ?_
            refine z_aload_n (n := 120) C 0 dX10_readStreets_119 rfl rfl ?_
            refine z_getI (n := 123) C K fF_RX10_142 dX10_readStreets_120 rfl sh_85 (by decide) ?_
            refine z_ialdN (n := 124) C K (b + (a + 1)) dX10_readStreets_123 rfl sh_88 (by decide) m1.1 (by omega) (by decide) ?_
            refine z_bipush (n := 126) (v := 115) C dX10_readStreets_124 rfl rfl ?_
            rw [hc.u.2 (a + 1) (by omega)]
            refine z_icmp_ne (tgt := 206) (n := 129) C dX10_readStreets_126 rfl rfl (fun c126 => ?_) (fun c126 => ?_)
            · have n115 : ¬ (0 < r ∧ isCb cd n (a + 1) 115 = true) := fun q => c126 (isCb_t.mp q.2).2
              refine z_aload_n (n := 207) C 0 dX10_readStreets_206 rfl rfl ?_
              refine z_getI (n := 210) C K fF_RX10_121 dX10_readStreets_207 rfl sh_85 (by decide) ?_
              refine z_bipush (n := 212) (v := 12) C dX10_readStreets_210 rfl rfl ?_
              rw [m1.2.1]
              refine z_icmp_eq (tgt := 223) (n := 215) C dX10_readStreets_212 rfl rfl (fun c212 => ?_) (fun c212 => ?_)
              · refine z_aload_n (n := 224) C 0 dX10_readStreets_223 rfl rfl ?_
                refine z_getI (n := 227) C K fF_RX10_142 dX10_readStreets_224 rfl sh_85 (by decide) ?_
                refine z_iload_n (n := 228) C 1 dX10_readStreets_227 rfl rfl ?_
                refine z_isub (n := 229) C dX10_readStreets_228 rfl ?_
                refine z_iret C E dX10_readStreets_229 ?_
                rw [m1.1, subb (by omega)]
                exact hE (a + 1) _ (by rw [← hres, if_neg (by rw [i59]; decide), if_neg n115, if_pos (nI_inj (b := 12) c212 (by omega) (by decide))]) (hf.u (by omega))
              · refine z_aload_n (n := 216) C 0 dX10_readStreets_215 rfl rfl ?_
                refine z_iload_n (n := 217) C 3 dX10_readStreets_216 rfl rfl ?_
                refine z_vi_1 (n := 220) (d' := 4) C K dX10_readStreets_217 rfl yk_X10_readRoad yv_X10_readRoad kM_RX10_145 (by decide) hR0 rfl rfl sh_85 (by decide) (by decide) ?_
                have hne12 : ¬ r = 12 := fun e => c212 (by rw [e]; rfl)
                have n59 := (isCb_t.mp i59).1
                refine c_X10_readRoad hc.u (a := a + 1) (by omega) m1 (by omega) hnc rfl (fun p hp I1 g1 g2 => ?_) (fun q hq I1 g1 g2 g3 g4 g5 => ?_)
                · refine z_ifF_ne (n := 223) (tgt := 230) C (by decide) dX10_readStreets_220 rfl rfl ?_
                  refine z_aload_n (n := 224) C 0 dX10_readStreets_223 rfl rfl ?_
                  refine z_getI (n := 227) C K fF_RX10_142 dX10_readStreets_224 rfl sh_85 (by decide) ?_
                  refine z_iload_n (n := 228) C 1 dX10_readStreets_227 rfl rfl ?_
                  refine z_isub (n := 229) C dX10_readStreets_228 rfl ?_
                  refine z_iret C E dX10_readStreets_229 ?_
                  rw [g2, subb (by have := rdP_le (a := a + 1) (by omega) hp; omega)]
                  exact hE p I1 (by rw [← hres, if_neg (by rw [i59]; decide), if_neg n115, if_neg hne12, hp]) ((hf.u (by omega)).tr g1)
                · refine z_ifT_ne (tgt := 230) C (by decide) dX10_readStreets_220 rfl ?_
                  refine z_aload_n (n := 231) C 0 dX10_readStreets_230 rfl rfl ?_
                  refine z_dup (n := 232) C dX10_readStreets_231 rfl rfl ?_
                  refine z_getI (n := 235) C K fF_RX10_121 dX10_readStreets_232 rfl sh_85 (by decide) ?_
                  refine z_iconst (n := 236) (v := 1) C dX10_readStreets_235 rfl rfl ?_
                  refine z_iadd (n := 237) C dX10_readStreets_236 rfl ?_
                  skip
                  refine z_putI (n := 240) C K fF_RX10_121 dX10_readStreets_237 rfl sh_85 (by decide) ?_
                  refine z_goto (n := 61) C dX10_readStreets_240 rfl ?_
                  rw [hq, if_neg (by rw [i59]; decide), if_neg n115, if_neg hne12] at hres
                  have hq5 := (rdP_in hnc.1 hq).2.2.2.2.2.2.2.2
                  rw [g5.2.1, nI_1]
                  exact ih (r + 1) q.2.2.2.2.2 (rdU rd r q) _ (by omega) (by omega) hres (((hf.u (by omega)).tr g1).u (by omega)) ((hc.fr (by rw [g1.1 88 (by decide) (by decide), upI_row _ _ (by decide)])).u) ⟨by rw [upI_k _ _ (by decide)]; exact g2, upI_same _ _ _ _, by rw [upI_k _ _ (by decide)]; exact g5.2.2⟩ (fun k hk f hf5 => by
                    rw [upI_p _ _ (by decide)]
                    by_cases e : k = r
                    · subst e; rw [g4 f hf5]; simp [rdU]
                    · rw [g3 _ (by omega), upI_p _ _ (by decide), ho k (by omega) f hf5]; simp [rdU, e]) hq5
            · have i115 : isCb cd n (a + 1) 115 = true := isCb_t.mpr ⟨by omega, c126⟩
              rw [upI_k _ _ (by decide), hm.2.1, fa_le, nI_toInt (by omega)] at c104
              simp only [Int32.reduceToInt] at c104
              refine z_aload_n (n := 130) C 0 dX10_readStreets_129 rfl rfl ?_
              refine z_dup (n := 131) C dX10_readStreets_130 rfl rfl ?_
              refine z_getI (n := 134) C K fF_RX10_142 dX10_readStreets_131 rfl sh_85 (by decide) ?_
              refine z_iconst (n := 135) (v := 1) C dX10_readStreets_134 rfl rfl ?_
              refine z_iadd (n := 136) C dX10_readStreets_135 rfl ?_
              rw [m1.1, nI_1, show b + (a + 1) + 1 = b + (a + 2) from rfl]
              have m2a : mat (upI (upI I 85 18 (nI (b + (a + 1)))) 85 18 (nI (b + (a + 2)))) b (a + 2) r nc := m1.u
              refine z_putI (n := 139) C K fF_RX10_142 dX10_readStreets_136 rfl sh_85 (by decide) ?_
              refine z_aload_n (n := 140) C 0 dX10_readStreets_139 rfl rfl ?_
              refine z_aload_n (n := 141) C 0 dX10_readStreets_140 rfl rfl ?_
              refine z_aload_n (n := 142) C 0 dX10_readStreets_141 rfl rfl ?_
              refine z_getI (n := 145) C K fF_RX10_142 dX10_readStreets_142 rfl sh_85 (by decide) ?_
              refine z_iload_n (n := 146) C 3 dX10_readStreets_145 rfl rfl ?_
              refine z_vi_2 (n := 149) (d' := 2) C K dX10_readStreets_146 rfl yk_X10_digitAt yv_X10_digitAt kM_RX10_139 (by decide) hR0 rfl rfl sh_85 (by decide) (by decide) ?_
              rw [m2a.1]
              refine c_X10_digitAt hc.u.u (a := a + 2) (by omega) rfl rfl (fun d146 => ?_) (fun d146 => ?_)
              · refine z_putI (n := 152) C K fF_RX10_127 dX10_readStreets_149 rfl sh_85 (by decide) ?_
                have m2 : mat (upI (upI (upI I 85 18 (nI (b + (a + 1)))) 85 18 (nI (b + (a + 2)))) 85 16 (nI (dv cd (a + 2)))) b (a + 2) r nc := ⟨by rw [upI_k _ _ (by decide)]; exact m2a.1, by rw [upI_k _ _ (by decide)]; exact m2a.2.1, by rw [upI_k _ _ (by decide)]; exact m2a.2.2⟩
                refine z_aload_n (n := 153) C 0 dX10_readStreets_152 rfl rfl ?_
                refine z_getI (n := 156) C K fF_RX10_127 dX10_readStreets_153 rfl sh_85 (by decide) ?_
                refine z_iconst (n := 157) (v := 0) C dX10_readStreets_156 rfl rfl ?_
                refine z_aload_n (n := 158) C 0 dX10_readStreets_157 rfl rfl ?_
                refine z_getI (n := 161) C K fF_RX10_118 dX10_readStreets_158 rfl sh_85 (by decide) ?_
                refine z_iconst (n := 162) (v := 1) C dX10_readStreets_161 rfl rfl ?_
                refine z_isub (n := 163) C dX10_readStreets_162 rfl ?_
                rw [upI_same, nc1 m2.2.2 (by omega)]
                refine z_si_3 (n := 166) (d' := 1) C K dX10_readStreets_163 rfl yk_X10_within kT_yX10_within kM_RX10_92 (by decide) hR0 rfl ?_
                refine c_X10_within (fun b163 => ?_) (fun b163 => ?_)
                · refine z_ifT_ne (tgt := 176) C (by decide) dX10_readStreets_166 rfl ?_
                  have v146 := (isDb_t.mp d146).v
                  have n146 := (isDb_t.mp d146).1
                  rw [nI_toInt (by omega), nI_toInt (by omega)] at b163
                  have yd : isDb cd n (a + 2) 0 (nc - 1) = true := (isDb_w (by omega)).mpr ⟨d146, by omega, by omega⟩
                  refine z_aload_n (n := 177) C 0 dX10_readStreets_176 rfl rfl ?_
                  refine z_dup (n := 178) C dX10_readStreets_177 rfl rfl ?_
                  refine z_getI (n := 181) C K fF_RX10_142 dX10_readStreets_178 rfl sh_85 (by decide) ?_
                  refine z_iconst (n := 182) (v := 1) C dX10_readStreets_181 rfl rfl ?_
                  refine z_iadd (n := 183) C dX10_readStreets_182 rfl ?_
                  rw [m2.1, nI_1, show b + (a + 2) + 1 = b + (a + 3) from rfl]
                  have m3 : mat (upI (upI (upI (upI I 85 18 (nI (b + (a + 1)))) 85 18 (nI (b + (a + 2)))) 85 16 (nI (dv cd (a + 2)))) 85 18 (nI (b + (a + 3)))) b (a + 3) r nc := m2.u
                  have f4 := (((hf.u (j := 18) (v := nI (b + (a + 1))) (by omega)).u (j := 18) (v := nI (b + (a + 2))) (by omega)).u (j := 16) (v := nI (dv cd (a + 2))) (by omega)).u (j := 18) (v := nI (b + (a + 3))) (by omega)
                  refine z_putI (n := 186) C K fF_RX10_142 dX10_readStreets_183 rfl sh_85 (by decide) ?_
                  refine z_aload_n (n := 187) C 0 dX10_readStreets_186 rfl rfl ?_
                  refine z_getI (n := 190) C K fF_RX10_142 dX10_readStreets_187 rfl sh_85 (by decide) ?_
                  refine z_iload_n (n := 191) C 3 dX10_readStreets_190 rfl rfl ?_
                  rw [m3.1]
                  refine z_icmp_ge (tgt := 203) (n := 194) C dX10_readStreets_191 rfl rfl (fun c191 => ?_) (fun c191 => ?_)
                  · rw [fa_le, nI_toInt (by omega), nI_toInt (by omega)] at c191
                    refine z_bipush (n := 205) (v := (-9)) C dX10_readStreets_203 rfl rfl ?_
                    refine z_iret C E dX10_readStreets_205 ?_
                    exact hO (r, dv cd (a + 2), rd) _ (by rw [← hres, if_neg (by rw [i59]; decide), if_pos ⟨by omega, i115⟩, if_neg (by rw [yd]; decide), if_pos (by omega)]) f4 m3.2.1 m3.2.2 (by rw [upI_k _ _ (by decide), upI_same]) (fun k hk f hf5 => by rw [upI_row _ _ (by decide), upI_row _ _ (by decide), upI_row _ _ (by decide), upI_row _ _ (by decide)]; exact ho k hk f hf5)
                  · rw [fa_le, nI_toInt (by omega), nI_toInt (by omega)] at c191
                    refine z_aload_n (n := 195) C 0 dX10_readStreets_194 rfl rfl ?_
                    refine z_getI (n := 198) C K fF_RX10_142 dX10_readStreets_195 rfl sh_85 (by decide) ?_
                    refine z_iload_n (n := 199) C 1 dX10_readStreets_198 rfl rfl ?_
                    refine z_isub (n := 200) C dX10_readStreets_199 rfl ?_
                    refine z_goto (n := 205) C dX10_readStreets_200 rfl ?_
                    refine z_iret C E dX10_readStreets_205 ?_
                    rw [m3.1, subb (by omega)]
                    exact hE (a + 3) _ (by rw [← hres, if_neg (by rw [i59]; decide), if_pos ⟨by omega, i115⟩, if_neg (by rw [yd]; decide), if_neg (by omega)]) f4
                · refine z_ifF_ne (n := 169) (tgt := 176) C (by decide) dX10_readStreets_166 rfl rfl ?_
                  have nd : isDb cd n (a + 2) 0 (nc - 1) = false := by
                    cases hq : isDb cd n (a + 2) 0 (nc - 1) with
                    | false => rfl
                    | true =>
                      have h2 := (isDb_w (by omega)).mp hq
                      exact absurd ⟨by rw [nI_toInt (by have := h2.2.2; omega)]; simp only [Int32.reduceToInt]; omega, by rw [nI_toInt (by have := h2.2.2; omega), nI_toInt (by omega)]; omega⟩ b163
                  refine z_aload_n (n := 170) C 0 dX10_readStreets_169 rfl rfl ?_
                  refine z_getI (n := 173) C K fF_RX10_142 dX10_readStreets_170 rfl sh_85 (by decide) ?_
                  refine z_iload_n (n := 174) C 1 dX10_readStreets_173 rfl rfl ?_
                  refine z_isub (n := 175) C dX10_readStreets_174 rfl ?_
                  refine z_iret C E dX10_readStreets_175 ?_
                  rw [m2.1, subb (by omega)]
                  refine hE (a + 2) _ (by rw [← hres, if_neg (by rw [i59]; decide), if_pos ⟨by omega, i115⟩, if_pos nd]) (hf.u (by omega) |>.u (by omega) |>.u (by omega))
              · refine z_putI (n := 152) C K fF_RX10_127 dX10_readStreets_149 rfl sh_85 (by decide) ?_
                have m2 : mat (upI (upI (upI I 85 18 (nI (b + (a + 1)))) 85 18 (nI (b + (a + 2)))) 85 16 (-9)) b (a + 2) r nc := ⟨by rw [upI_k _ _ (by decide)]; exact m2a.1, by rw [upI_k _ _ (by decide)]; exact m2a.2.1, by rw [upI_k _ _ (by decide)]; exact m2a.2.2⟩
                refine z_aload_n (n := 153) C 0 dX10_readStreets_152 rfl rfl ?_
                refine z_getI (n := 156) C K fF_RX10_127 dX10_readStreets_153 rfl sh_85 (by decide) ?_
                refine z_iconst (n := 157) (v := 0) C dX10_readStreets_156 rfl rfl ?_
                refine z_aload_n (n := 158) C 0 dX10_readStreets_157 rfl rfl ?_
                refine z_getI (n := 161) C K fF_RX10_118 dX10_readStreets_158 rfl sh_85 (by decide) ?_
                refine z_iconst (n := 162) (v := 1) C dX10_readStreets_161 rfl rfl ?_
                refine z_isub (n := 163) C dX10_readStreets_162 rfl ?_
                rw [upI_same, nc1 m2.2.2 (by omega)]
                refine z_si_3 (n := 166) (d' := 1) C K dX10_readStreets_163 rfl yk_X10_within kT_yX10_within kM_RX10_92 (by decide) hR0 rfl ?_
                refine c_X10_within (fun b163 => ?_) (fun b163 => ?_)
                · refine z_ifT_ne (tgt := 176) C (by decide) dX10_readStreets_166 rfl ?_
                  exfalso
                  have := b163.1
                  have e9 : (-9 : Int32).toInt = -9 := by decide
                  rw [e9] at this
                  revert this
                  decide
                · refine z_ifF_ne (n := 169) (tgt := 176) C (by decide) dX10_readStreets_166 rfl rfl ?_
                  have nd : isDb cd n (a + 2) 0 (nc - 1) = false := by
                    cases hq : isDb cd n (a + 2) 0 (nc - 1) with
                    | false => rfl
                    | true =>
                      have h2 := (isDb_w (by omega)).mp hq
                      rw [h2.1] at d146; cases d146
                  refine z_aload_n (n := 170) C 0 dX10_readStreets_169 rfl rfl ?_
                  refine z_getI (n := 173) C K fF_RX10_142 dX10_readStreets_170 rfl sh_85 (by decide) ?_
                  refine z_iload_n (n := 174) C 1 dX10_readStreets_173 rfl rfl ?_
                  refine z_isub (n := 175) C dX10_readStreets_174 rfl ?_
                  refine z_iret C E dX10_readStreets_175 ?_
                  rw [m2.1, subb (by omega)]
                  refine hE (a + 2) _ (by rw [← hres, if_neg (by rw [i59]; decide), if_pos ⟨by omega, i115⟩, if_pos nd]) (hf.u (by omega) |>.u (by omega) |>.u (by omega))
      · refine z_aload_n (n := 84) C 0 dX10_readStreets_83 rfl rfl ?_
        refine z_getI (n := 87) C K fF_RX10_142 dX10_readStreets_84 rfl sh_85 (by decide) ?_
        refine z_iload_n (n := 88) C 1 dX10_readStreets_87 rfl rfl ?_
        refine z_isub (n := 89) C dX10_readStreets_88 rfl ?_
        refine z_iret C E dX10_readStreets_89 ?_
        rw [hm.1, subb (by omega)]
        exact hE a I (by rw [← hres, if_pos (isCb_f.mpr (fun q => c80 q.2))]) hf
