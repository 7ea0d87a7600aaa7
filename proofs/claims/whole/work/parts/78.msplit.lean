def bsI (b : Nat × Nat × Nat × Nat) : Int32 := if b.1 = 0 then -9 else nI b.2.1
theorem bsI_eq {b : Nat × Nat × Nat × Nat} (h : b.2.1 < 1024) : bsI b = -9 ↔ b.1 = 0 := by
  unfold bsI
  by_cases e : b.1 = 0
  · rw [if_pos e]; exact ⟨fun _ => e, fun _ => rfl⟩
  · rw [if_neg e]
    refine ⟨fun q => ?_, fun q => absurd q e⟩
    have := congrArg Int32.toInt q
    rw [nI_toInt (by omega)] at this
    simp only [Int32.reduceToInt] at this
    omega
set_option maxHeartbeats 4000000 in
set_option maxRecDepth 100000 in
theorem l_X10_split {X : KX} {t : Nat} (C : Cx X RX10 cX10_split 8) (K : Kx X) (hnL : xnL X = 15) {Q : Int32 → KI → KJ → KR → Prop} (E : Ei X .int Q) {I : KI} {J : KJ} {n r s : Nat} {rd : Nat → Nat → Nat} (hw : mTw I n r s rd) (ok : okTw n r s rd) {C0 : Nat → Nat → Nat} (hc : okW n r rd C0) (hW : mWy I n C0) {c : Nat} {ki co ag re : Nat → Nat} {T : Nat → Nat → Nat} (hk : mKd I c ki co ag re T) (okk : okKd n c ki co ag re T) {hv0 hcn : Nat} {hdn : Nat → Nat} (hmi : mMi I hv0 hcn hdn) (oki : okMi hv0 hcn hdn) {set a bl h : Nat} {wv : Int32} (hset0 : 0 < set) (hset : set < 2 ^ c) (ha : a < n) (hbl : bl ≤ 200) (hh : h ≤ 100) (hQ : ∀ I' J', (∀ q, q ≠ 85 → q ≠ 102 → q ≠ 103 → q ≠ 104 → I' q = I q) → (∀ j, j ≠ 27 → j ≠ 28 → j ≠ 29 → I' 85 j = I 85 j) → (∀ q, q ≠ 101 → J' q = J q) → Q (spV (spF (grS ki c hv0) (soF r rd C0 c co ki ag re s a bl h) set set) (grS ki c hv0 set) wv) I' J' (rf t)) : ∀ (f k : Nat) (b : Nat × Nat × Nat × Nat) (I1 : KI) (J1 : KJ), set - k < f → (k ≤ set ∧ (∀ q, q ≠ 85 → q ≠ 102 → q ≠ 103 → q ≠ 104 → I1 q = I q) ∧ (∀ j, j ≠ 27 → j ≠ 28 → j ≠ 29 → I1 85 j = I 85 j) ∧ (∀ q, q ≠ 101 → J1 q = J q) ∧ spF (grS ki c hv0) (soF r rd C0 c co ki ag re s a bl h) set k = b) → Z X 0 0 (V X I1 J1 (rf t)) 86 [(10, .int (nI k)), (9, .int (nI b.2.2.2)), (8, .int (nI b.2.2.1)), (7, .int (bsI b)), (6, .int (nI (lbS set))), (0, .ref (xad X 85)), (1, .int (nI set)), (2, .int (nI a)), (3, .int (nI bl)), (4, .int (nI h)), (5, .int wv)] [] := by
  intro f
  induction f with
  | zero => intro k b I1 J1 h; omega
  | succ f ih =>
    intro k b I1 J1 hf hi
    obtain ⟨hks, hfI, hf0, hfJ, eb⟩ := hi
    have hn7 := ok.1
    have h1024 : 2 ^ c ≤ 2 ^ 10 := Nat.pow_le_pow_right (by decide) okk.1
    obtain ⟨lb1, lb2, lb3, lb4⟩ := lbS_fact (m := set) (by omega) hset0
    have hgr : ∀ m, grS ki c hv0 m ≤ 50 := fun m => grS_le okk.1 oki.1 oki.2.1
    have hso : ∀ m, soF r rd C0 c co ki ag re s a bl h m ≤ 201 := fun m => Nat.le_trans soS_le (by omega)
    have hbo : spOk b := eb ▸ spF_ok hgr hso k (by omega)
    obtain ⟨ob1, ob2, ob3, ob4⟩ := hbo
    have hw1 : mTw I1 n r s rd := hw.fr (hf0 5 (by decide) (by decide) (by decide)) (hf0 6 (by decide) (by decide) (by decide)) (hf0 7 (by decide) (by decide) (by decide)) (fun q q1 q2 => hfI q (by omega) (by omega) (by omega) (by omega))
    have hW1 : mWy I1 n C0 := hW.fr (hfI 94 (by decide) (by decide) (by decide) (by decide))
    have hk1 : mKd I1 c ki co ag re T := hk.fr (hf0 19 (by decide) (by decide) (by decide)) (fun q q1 q2 => hfI q (by omega) (by omega) (by omega) (by omega))
    have hm1 : mMi I1 hv0 hcn hdn := hmi.fr (hf0 32 (by decide) (by decide) (by decide)) (hf0 37 (by decide) (by decide) (by decide)) (hfI 107 (by decide) (by decide) (by decide) (by decide))
    refine z_iload (n := 88) C 0 dX10_split_86 rfl rfl ?_
    refine z_iload_n (n := 89) C 6 dX10_split_88 rfl rfl ?_
    refine z_icmp_ge (tgt := 244) (n := 92) C dX10_split_89 rfl rfl (fun c89 => ?_) (fun c89 => ?_)
    · refine z_iload (n := 246) C 3 dX10_split_244 rfl rfl ?_
      refine z_bipush (n := 248) (v := (-9)) C dX10_split_246 rfl rfl ?_
      refine z_icmp_ne (tgt := 254) (n := 251) C dX10_split_248 rfl rfl (fun c248 => ?_) (fun c248 => ?_)
      · refine z_iload (n := 256) C 10 dX10_split_254 rfl rfl ?_
        refine z_if_ne (tgt := 264) (n := 259) C dX10_split_256 rfl rfl (fun c256 => ?_) (fun c256 => ?_)
        · refine z_iload (n := 266) C 10 dX10_split_264 rfl rfl ?_
          refine z_iconst (n := 267) (v := 1) C dX10_split_266 rfl rfl ?_
          refine z_icmp_ne (tgt := 275) (n := 270) C dX10_split_267 rfl rfl (fun c267 => ?_) (fun c267 => ?_)
          · refine z_iload (n := 277) C 10 dX10_split_275 rfl rfl ?_
            refine z_iconst (n := 278) (v := 2) C dX10_split_277 rfl rfl ?_
            refine z_icmp_ne (tgt := 286) (n := 281) C dX10_split_278 rfl rfl (fun c278 => ?_) (fun c278 => ?_)
            · refine z_iload (n := 288) C 2 dX10_split_286 rfl rfl ?_
              refine z_aload_n (n := 289) C 5 dX10_split_288 rfl rfl ?_
              refine z_iload_n (n := 290) C 6 dX10_split_289 rfl rfl ?_
              refine z_vi_1 (n := 293) (d' := 2) C K dX10_split_290 rfl yk_X10_grownOf yv_X10_grownOf kM_RX10_262 (by decide) hR0 rfl rfl sh_85 (by decide) (by decide) ?_
              refine c_X10_grownOf hk1 okk hm1 oki (by omega) ?_
              refine z_isub (n := 294) C dX10_split_293 rfl ?_
              refine z_iret C E dX10_split_294 ?_
              rw [fa_le, nI_toInt (by omega), nI_toInt (by omega)] at c89
              have e : k = set := by omega
              subst e
              have hx := hQ I1 J1 hfI hf0 hfJ
              rw [eb] at hx
              unfold spV at hx
              rw [if_neg (fun q => c248 ((bsI_eq ob2).mpr q))] at hx
              rw [if_neg (show ¬ wv = 0 from c256)] at hx
              rw [if_neg (show ¬ wv = 1 from c267)] at hx
              rw [if_neg (show ¬ wv = 2 from c278)] at hx
              exact hx
            · refine z_iload (n := 283) C 1 dX10_split_281 rfl rfl ?_
              refine z_goto (n := 294) C dX10_split_283 rfl ?_
              refine z_iret C E dX10_split_294 ?_
              rw [fa_le, nI_toInt (by omega), nI_toInt (by omega)] at c89
              have e : k = set := by omega
              subst e
              have hx := hQ I1 J1 hfI hf0 hfJ
              rw [eb] at hx
              unfold spV at hx
              rw [if_neg (fun q => c248 ((bsI_eq ob2).mpr q))] at hx
              rw [if_neg (show ¬ wv = 0 from c256)] at hx
              rw [if_neg (show ¬ wv = 1 from c267)] at hx
              rw [if_pos (show wv = 2 from c278)] at hx
              exact hx
          · refine z_iload (n := 272) C 2 dX10_split_270 rfl rfl ?_
            refine z_goto (n := 294) C dX10_split_272 rfl ?_
            refine z_iret C E dX10_split_294 ?_
            rw [fa_le, nI_toInt (by omega), nI_toInt (by omega)] at c89
            have e : k = set := by omega
            subst e
            have hx := hQ I1 J1 hfI hf0 hfJ
            rw [eb] at hx
            unfold spV at hx
            rw [if_neg (fun q => c248 ((bsI_eq ob2).mpr q))] at hx
            rw [if_neg (show ¬ wv = 0 from c256)] at hx
            rw [if_pos (show wv = 1 from c267)] at hx
            exact hx
        · refine z_iload (n := 261) C 3 dX10_split_259 rfl rfl ?_
          refine z_goto (n := 294) C dX10_split_261 rfl ?_
          refine z_iret C E dX10_split_294 ?_
          rw [fa_le, nI_toInt (by omega), nI_toInt (by omega)] at c89
          have e : k = set := by omega
          subst e
          have hx := hQ I1 J1 hfI hf0 hfJ
          rw [eb] at hx
          unfold spV at hx
          rw [if_neg (fun q => c248 ((bsI_eq ob2).mpr q))] at hx
          rw [if_pos (show wv = 0 from c256)] at hx
          unfold bsI
          rw [if_neg (fun q => c248 ((bsI_eq ob2).mpr q))]
          exact hx
      · refine z_bipush (n := 253) (v := (-9)) C dX10_split_251 rfl rfl ?_
        refine z_iret C E dX10_split_253 ?_
        rw [fa_le, nI_toInt (by omega), nI_toInt (by omega)] at c89
        have e : k = set := by omega
        subst e
        have hx := hQ I1 J1 hfI hf0 hfJ
        rw [eb] at hx
        unfold spV at hx
        rw [if_pos ((bsI_eq ob2).mp c248)] at hx
        exact hx
    · rw [fa_le, nI_toInt (by omega), nI_toInt (by omega)] at c89
      refine z_iload (n := 94) C 0 dX10_split_92 rfl rfl ?_
      refine z_iload_n (n := 95) C 6 dX10_split_94 rfl rfl ?_
      refine z_iconst (n := 96) (v := (-1)) C dX10_split_95 rfl rfl ?_
      refine z_ixor (n := 97) C dX10_split_96 rfl ?_
      refine z_iand (n := 98) C dX10_split_97 rfl ?_
      rw [clr_nI]
      refine z_if_ne (tgt := 238) (n := 101) C dX10_split_98 rfl rfl (fun c98 => ?_) (fun c98 => ?_)
      · refine z_iincG (n := 241) (c := 1) (L' := [(10, _), (9, _), (8, _), (7, _), (6, _), (0, _), (1, _), (2, _), (3, _), (4, _), (5, _)]) C 0 dX10_split_238 rfl rfl rfl (by rw [hnL]; decide) rfl ?_
        refine z_goto (n := 86) C dX10_split_241 rfl ?_
        rw [nI_1]
        exact ih (k + 1) b I1 J1 (by omega) ⟨by omega, hfI, hf0, hfJ, by rw [spF_no (spT_f1 (fun e => c98 (by rw [e]; rfl)))]; exact eb⟩
      · have hcl : clr k set = 0 := nI_inj (b := 0) c98 (by have := clr_le k set; omega) (by decide)
        refine z_iload (n := 103) C 0 dX10_split_101 rfl rfl ?_
        refine z_iload (n := 105) C 4 dX10_split_103 rfl rfl ?_
        refine z_iand (n := 106) C dX10_split_105 rfl ?_
        rw [and_nI]
        refine z_if_ne (tgt := 112) (n := 109) C dX10_split_106 rfl rfl (fun c106 => ?_) (fun c106 => ?_)
        · have hsp : spT set k = true := spT_t hcl (fun e => c106 (by rw [e]; rfl))
          have hop := clr_pos hcl (by omega)
          have hol := clr_le set k
          refine z_iload_n (n := 113) C 6 dX10_split_112 rfl rfl ?_
          refine z_iload (n := 115) C 0 dX10_split_113 rfl rfl ?_
          refine z_iconst (n := 116) (v := (-1)) C dX10_split_115 rfl rfl ?_
          refine z_ixor (n := 117) C dX10_split_116 rfl ?_
          refine z_iand (n := 118) C dX10_split_117 rfl ?_
          rw [clr_nI]
          refine z_istore (n := 120) (L' := [(11, _), (10, _), (9, _), (8, _), (7, _), (6, _), (0, _), (1, _), (2, _), (3, _), (4, _), (5, _)]) C dX10_split_118 rfl (by rw [hnL]; decide) rfl ?_
          refine z_aload_n (n := 121) C 6 dX10_split_120 rfl rfl ?_
          refine z_iload (n := 123) C 1 dX10_split_121 rfl rfl ?_
          refine z_vi_1 (n := 126) (d' := 2) C K dX10_split_123 rfl yk_X10_grownOf yv_X10_grownOf kM_RX10_262 (by decide) hR0 rfl rfl sh_85 (by decide) (by decide) ?_
          refine c_X10_grownOf hk1 okk hm1 oki (by omega) ?_
          refine z_aload_n (n := 127) C 6 dX10_split_126 rfl rfl ?_
          refine z_iload (n := 129) C 0 dX10_split_127 rfl rfl ?_
          refine z_vi_1 (n := 132) (d' := 2) C K dX10_split_129 rfl yk_X10_grownOf yv_X10_grownOf kM_RX10_262 (by decide) hR0 rfl rfl sh_85 (by decide) (by decide) ?_
          refine c_X10_grownOf hk1 okk hm1 oki (by omega) ?_
          refine z_iadd (n := 133) C dX10_split_132 rfl ?_
          rw [nI_add]
          have hg1 := hgr k
          have hg2 := hgr (clr set k)
          refine z_istore (n := 135) (L' := [(12, _), (11, _), (10, _), (9, _), (8, _), (7, _), (6, _), (0, _), (1, _), (2, _), (3, _), (4, _), (5, _)]) C dX10_split_133 rfl (by rw [hnL]; decide) rfl ?_
          refine z_iload (n := 137) C 5 dX10_split_135 rfl rfl ?_
          refine z_bipush (n := 139) (v := (-9)) C dX10_split_137 rfl rfl ?_
          refine z_icmp_eq (tgt := 152) (n := 142) C dX10_split_139 rfl rfl (fun c139 => ?_) (fun c139 => ?_)
          · have b0 := (bsI_eq ob2).mp c139
            have hn1 : ¬ (b.1 = 1 ∧ b.2.2.1 < grS ki c hv0 k + grS ki c hv0 (clr set k)) := fun q => by omega
            refine z_aload_n (n := 153) C 7 dX10_split_152 rfl rfl ?_
            refine z_iload (n := 155) C 2 dX10_split_153 rfl rfl ?_
            refine z_iload_n (n := 156) C 9 dX10_split_155 rfl rfl ?_
            refine z_iload_n (n := 157) C 10 dX10_split_156 rfl rfl ?_
            refine z_iload (n := 159) C 11 dX10_split_157 rfl rfl ?_
            refine z_vi_4 (n := 162) (d' := 7) C K dX10_split_159 rfl yk_X10_startOf yv_X10_startOf kM_RX10_265 (by decide) hR0 rfl rfl sh_85 (by decide) (by decide) ?_
            refine c_X10_startOf hw1 ok hc hW1 hk1 okk (show k < 2 ^ c by omega) ha hbl hh (fun I2 J2 hf2 hj2 hg2 => ?_)
            have hle1 := hso k
            have hle2 := hso (clr set k)
            have hw2 : mTw I2 n r s rd := hw1.fr (hj2 5 (by decide) (by decide) (by decide)) (hj2 6 (by decide) (by decide) (by decide)) (hj2 7 (by decide) (by decide) (by decide)) (fun q q1 q2 => hf2 q (by omega) (by omega) (by omega) (by omega))
            have hW2 : mWy I2 n C0 := hW1.fr (hf2 94 (by decide) (by decide) (by decide) (by decide))
            have hk2 : mKd I2 c ki co ag re T := hk1.fr (hj2 19 (by decide) (by decide) (by decide)) (fun q q1 q2 => hf2 q (by omega) (by omega) (by omega) (by omega))
            refine z_istore (n := 164) (L' := [(13, _), (12, _), (11, _), (10, _), (9, _), (8, _), (7, _), (6, _), (0, _), (1, _), (2, _), (3, _), (4, _), (5, _)]) C dX10_split_162 rfl (by rw [hnL]; decide) rfl ?_
            refine z_iload (n := 166) C 0 dX10_split_164 rfl rfl ?_
            refine z_bipush (n := 168) (v := (-9)) C dX10_split_166 rfl rfl ?_
            refine z_icmp_ne (tgt := 176) (n := 171) C dX10_split_168 rfl rfl (fun c168 => ?_) (fun c168 => ?_)
            · refine z_aload_n (n := 177) C 8 dX10_split_176 rfl rfl ?_
              refine z_iload (n := 179) C 2 dX10_split_177 rfl rfl ?_
              refine z_iload_n (n := 180) C 10 dX10_split_179 rfl rfl ?_
              refine z_iload_n (n := 181) C 11 dX10_split_180 rfl rfl ?_
              refine z_iload (n := 183) C 12 dX10_split_181 rfl rfl ?_
              refine z_vi_4 (n := 186) (d' := 7) C K dX10_split_183 rfl yk_X10_startOf yv_X10_startOf kM_RX10_265 (by decide) hR0 rfl rfl sh_85 (by decide) (by decide) ?_
              refine c_X10_startOf hw2 ok hc hW2 hk2 okk (show clr set k < 2 ^ c by omega) ha hbl hh (fun I3 J3 hf3 hj3 hg3 => ?_)
              refine z_istore (n := 188) (L' := [(14, _), (13, _), (12, _), (11, _), (10, _), (9, _), (8, _), (7, _), (6, _), (0, _), (1, _), (2, _), (3, _), (4, _), (5, _)]) C dX10_split_186 rfl (by rw [hnL]; decide) rfl ?_
              refine z_iload (n := 190) C 0 dX10_split_188 rfl rfl ?_
              refine z_bipush (n := 192) (v := (-9)) C dX10_split_190 rfl rfl ?_
              refine z_icmp_ne (tgt := 198) (n := 195) C dX10_split_192 rfl rfl (fun c192 => ?_) (fun c192 => ?_)
              · have hx1 : soF r rd C0 c co ki ag re s a bl h k ≠ 0 := fun e => c168 ((stI_eq hle1).mpr e)
                have hx2 : soF r rd C0 c co ki ag re s a bl h (clr set k) ≠ 0 := fun e => c192 ((stI_eq hle2).mpr e)
                rw [show stI (soS r rd C0 (rdG k c co re) (pcG k c co ki ag) s a bl h).1 = nI (soF r rd C0 c co ki ag re s a bl h k - 1) from stI_n9 hle1 hx1, show stI (soS r rd C0 (rdG (clr set k) c co re) (pcG (clr set k) c co ki ag) s a bl h).1 = nI (soF r rd C0 c co ki ag re s a bl h (clr set k) - 1) from stI_n9 hle2 hx2]
                refine z_iload (n := 200) C 1 dX10_split_198 rfl rfl ?_
                refine z_iload (n := 202) C 0 dX10_split_200 rfl rfl ?_
                refine z_iadd (n := 203) C dX10_split_202 rfl ?_
                rw [nI_add]
                refine z_istore (n := 205) (L' := [(13, _), (14, _), (12, _), (11, _), (10, _), (9, _), (8, _), (7, _), (6, _), (0, _), (1, _), (2, _), (3, _), (4, _), (5, _)]) C dX10_split_203 rfl (by rw [hnL]; decide) rfl ?_
                refine z_iload (n := 207) C 7 dX10_split_205 rfl rfl ?_
                refine z_bipush (n := 209) (v := (-9)) C dX10_split_207 rfl rfl ?_
                refine z_icmp_eq (tgt := 226) (n := 212) C dX10_split_209 rfl rfl (fun c209 => ?_) (fun c209 => ?_)
                · refine z_iload (n := 228) C 4 dX10_split_226 rfl rfl ?_
                  refine z_istore (n := 230) (L' := [(7, _), (13, _), (14, _), (12, _), (11, _), (10, _), (9, _), (8, _), (6, _), (0, _), (1, _), (2, _), (3, _), (4, _), (5, _)]) C dX10_split_228 rfl (by rw [hnL]; decide) rfl ?_
                  refine z_iload (n := 232) C 3 dX10_split_230 rfl rfl ?_
                  refine z_istore (n := 234) (L' := [(8, _), (7, _), (13, _), (14, _), (12, _), (11, _), (10, _), (9, _), (6, _), (0, _), (1, _), (2, _), (3, _), (4, _), (5, _)]) C dX10_split_232 rfl (by rw [hnL]; decide) rfl ?_
                  refine z_iload (n := 236) C 2 dX10_split_234 rfl rfl ?_
                  refine z_istore (n := 238) (L' := [(9, _), (8, _), (7, _), (13, _), (14, _), (12, _), (11, _), (10, _), (6, _), (0, _), (1, _), (2, _), (3, _), (4, _), (5, _)]) C dX10_split_236 rfl (by rw [hnL]; decide) rfl ?_
                  refine z_iincG (n := 241) (c := 1) (L' := [(10, _), (9, _), (8, _), (7, _), (13, _), (14, _), (12, _), (11, _), (6, _), (0, _), (1, _), (2, _), (3, _), (4, _), (5, _)]) C 7 dX10_split_238 rfl rfl rfl (by rw [hnL]; decide) rfl ?_
                  refine z_goto (n := 86) C dX10_split_241 rfl ?_
                  refine z_sub (L' := [(10, _), (9, _), (8, _), (7, _), (6, _), (0, _), (1, _), (2, _), (3, _), (4, _), (5, _)]) [0, 1, 2, 3, 8, 9, 10, 11, 12, 13, 14] rfl ?_
                  rw [nI_1]
                  exact ih (k + 1) (1, k, grS ki c hv0 k + grS ki c hv0 (clr set k), ((soF r rd C0 c co ki ag re s a bl h) k - 1) + ((soF r rd C0 c co ki ag re s a bl h) (clr set k) - 1)) I3 J3 (by omega) ⟨by omega, fun q q1 q2 q3 q4 => by rw [hf3 q q1 q2 q3 q4, hf2 q q1 q2 q3 q4]; exact hfI q q1 q2 q3 q4, fun j j1 j2 j3 => by rw [hj3 j j1 j2 j3, hj2 j j1 j2 j3]; exact hf0 j j1 j2 j3, fun q hq => by rw [hg3 q hq, hg2 q hq]; exact hfJ q hq, by rw [spF_yes hsp, eb]; exact spN_3 hn1 (fun q => q.elim hx1 hx2) (Or.inl ((bsI_eq ob2).mp c209))⟩
                · have hb0 : ¬ b.1 = 0 := fun e => c209 ((bsI_eq ob2).mpr e)
                  refine z_iload (n := 214) C 2 dX10_split_212 rfl rfl ?_
                  refine z_iload (n := 216) C 6 dX10_split_214 rfl rfl ?_
                  refine z_icmp_lt (tgt := 226) (n := 219) C dX10_split_216 rfl rfl (fun c216 => ?_) (fun c216 => ?_)
                  · refine z_iload (n := 228) C 4 dX10_split_226 rfl rfl ?_
                    refine z_istore (n := 230) (L' := [(7, _), (13, _), (14, _), (12, _), (11, _), (10, _), (9, _), (8, _), (6, _), (0, _), (1, _), (2, _), (3, _), (4, _), (5, _)]) C dX10_split_228 rfl (by rw [hnL]; decide) rfl ?_
                    refine z_iload (n := 232) C 3 dX10_split_230 rfl rfl ?_
                    refine z_istore (n := 234) (L' := [(8, _), (7, _), (13, _), (14, _), (12, _), (11, _), (10, _), (9, _), (6, _), (0, _), (1, _), (2, _), (3, _), (4, _), (5, _)]) C dX10_split_232 rfl (by rw [hnL]; decide) rfl ?_
                    refine z_iload (n := 236) C 2 dX10_split_234 rfl rfl ?_
                    refine z_istore (n := 238) (L' := [(9, _), (8, _), (7, _), (13, _), (14, _), (12, _), (11, _), (10, _), (6, _), (0, _), (1, _), (2, _), (3, _), (4, _), (5, _)]) C dX10_split_236 rfl (by rw [hnL]; decide) rfl ?_
                    refine z_iincG (n := 241) (c := 1) (L' := [(10, _), (9, _), (8, _), (7, _), (13, _), (14, _), (12, _), (11, _), (6, _), (0, _), (1, _), (2, _), (3, _), (4, _), (5, _)]) C 7 dX10_split_238 rfl rfl rfl (by rw [hnL]; decide) rfl ?_
                    refine z_goto (n := 86) C dX10_split_241 rfl ?_
                    refine z_sub (L' := [(10, _), (9, _), (8, _), (7, _), (6, _), (0, _), (1, _), (2, _), (3, _), (4, _), (5, _)]) [0, 1, 2, 3, 8, 9, 10, 11, 12, 13, 14] rfl ?_
                    rw [fa_lt, nI_toInt (by omega), nI_toInt (by omega)] at c216
                    rw [nI_1]
                    exact ih (k + 1) (1, k, grS ki c hv0 k + grS ki c hv0 (clr set k), ((soF r rd C0 c co ki ag re s a bl h) k - 1) + ((soF r rd C0 c co ki ag re s a bl h) (clr set k) - 1)) I3 J3 (by omega) ⟨by omega, fun q q1 q2 q3 q4 => by rw [hf3 q q1 q2 q3 q4, hf2 q q1 q2 q3 q4]; exact hfI q q1 q2 q3 q4, fun j j1 j2 j3 => by rw [hj3 j j1 j2 j3, hj2 j j1 j2 j3]; exact hf0 j j1 j2 j3, fun q hq => by rw [hg3 q hq, hg2 q hq]; exact hfJ q hq, by rw [spF_yes hsp, eb]; exact spN_3 hn1 (fun q => q.elim hx1 hx2) (Or.inr (Or.inl (by omega)))⟩
                  · rw [fa_lt, nI_toInt (by omega), nI_toInt (by omega)] at c216
                    refine z_iload (n := 221) C 0 dX10_split_219 rfl rfl ?_
                    refine z_iload (n := 223) C 5 dX10_split_221 rfl rfl ?_
                    refine z_icmp_le (tgt := 238) (n := 226) C dX10_split_223 rfl rfl (fun c223 => ?_) (fun c223 => ?_)
                    · refine z_iincG (n := 241) (c := 1) (L' := [(10, _), (13, _), (14, _), (12, _), (11, _), (9, _), (8, _), (7, _), (6, _), (0, _), (1, _), (2, _), (3, _), (4, _), (5, _)]) C 4 dX10_split_238 rfl rfl rfl (by rw [hnL]; decide) rfl ?_
                      refine z_goto (n := 86) C dX10_split_241 rfl ?_
                      refine z_sub (L' := [(10, _), (9, _), (8, _), (7, _), (6, _), (0, _), (1, _), (2, _), (3, _), (4, _), (5, _)]) [0, 5, 6, 7, 8, 9, 10, 11, 12, 13, 14] rfl ?_
                      rw [fa_le, nI_toInt (by omega), nI_toInt (by omega)] at c223
                      rw [nI_1]
                      exact ih (k + 1) b I3 J3 (by omega) ⟨by omega, fun q q1 q2 q3 q4 => by rw [hf3 q q1 q2 q3 q4, hf2 q q1 q2 q3 q4]; exact hfI q q1 q2 q3 q4, fun j j1 j2 j3 => by rw [hj3 j j1 j2 j3, hj2 j j1 j2 j3]; exact hf0 j j1 j2 j3, fun q hq => by rw [hg3 q hq, hg2 q hq]; exact hfJ q hq, by rw [spF_yes hsp, eb]; exact spN_4 (fun q => q.elim (fun q => hb0 q) (fun q => q.elim (by omega) (by omega)))⟩
                    · refine z_iload (n := 228) C 4 dX10_split_226 rfl rfl ?_
                      refine z_istore (n := 230) (L' := [(7, _), (13, _), (14, _), (12, _), (11, _), (10, _), (9, _), (8, _), (6, _), (0, _), (1, _), (2, _), (3, _), (4, _), (5, _)]) C dX10_split_228 rfl (by rw [hnL]; decide) rfl ?_
                      refine z_iload (n := 232) C 3 dX10_split_230 rfl rfl ?_
                      refine z_istore (n := 234) (L' := [(8, _), (7, _), (13, _), (14, _), (12, _), (11, _), (10, _), (9, _), (6, _), (0, _), (1, _), (2, _), (3, _), (4, _), (5, _)]) C dX10_split_232 rfl (by rw [hnL]; decide) rfl ?_
                      refine z_iload (n := 236) C 2 dX10_split_234 rfl rfl ?_
                      refine z_istore (n := 238) (L' := [(9, _), (8, _), (7, _), (13, _), (14, _), (12, _), (11, _), (10, _), (6, _), (0, _), (1, _), (2, _), (3, _), (4, _), (5, _)]) C dX10_split_236 rfl (by rw [hnL]; decide) rfl ?_
                      refine z_iincG (n := 241) (c := 1) (L' := [(10, _), (9, _), (8, _), (7, _), (13, _), (14, _), (12, _), (11, _), (6, _), (0, _), (1, _), (2, _), (3, _), (4, _), (5, _)]) C 7 dX10_split_238 rfl rfl rfl (by rw [hnL]; decide) rfl ?_
                      refine z_goto (n := 86) C dX10_split_241 rfl ?_
                      refine z_sub (L' := [(10, _), (9, _), (8, _), (7, _), (6, _), (0, _), (1, _), (2, _), (3, _), (4, _), (5, _)]) [0, 1, 2, 3, 8, 9, 10, 11, 12, 13, 14] rfl ?_
                      rw [fa_le, nI_toInt (by omega), nI_toInt (by omega)] at c223
                      rw [nI_1]
                      exact ih (k + 1) (1, k, grS ki c hv0 k + grS ki c hv0 (clr set k), ((soF r rd C0 c co ki ag re s a bl h) k - 1) + ((soF r rd C0 c co ki ag re s a bl h) (clr set k) - 1)) I3 J3 (by omega) ⟨by omega, fun q q1 q2 q3 q4 => by rw [hf3 q q1 q2 q3 q4, hf2 q q1 q2 q3 q4]; exact hfI q q1 q2 q3 q4, fun j j1 j2 j3 => by rw [hj3 j j1 j2 j3, hj2 j j1 j2 j3]; exact hf0 j j1 j2 j3, fun q hq => by rw [hg3 q hq, hg2 q hq]; exact hfJ q hq, by rw [spF_yes hsp, eb]; exact spN_3 hn1 (fun q => q.elim hx1 hx2) (Or.inr (Or.inr (by omega)))⟩
              · refine z_goto (n := 238) C dX10_split_195 rfl ?_
                refine z_iincG (n := 241) (c := 1) (L' := [(10, _), (14, _), (13, _), (12, _), (11, _), (9, _), (8, _), (7, _), (6, _), (0, _), (1, _), (2, _), (3, _), (4, _), (5, _)]) C 4 dX10_split_238 rfl rfl rfl (by rw [hnL]; decide) rfl ?_
                refine z_goto (n := 86) C dX10_split_241 rfl ?_
                refine z_sub (L' := [(10, _), (9, _), (8, _), (7, _), (6, _), (0, _), (1, _), (2, _), (3, _), (4, _), (5, _)]) [0, 5, 6, 7, 8, 9, 10, 11, 12, 13, 14] rfl ?_
                rw [nI_1]
                exact ih (k + 1) b I3 J3 (by omega) ⟨by omega, fun q q1 q2 q3 q4 => by rw [hf3 q q1 q2 q3 q4, hf2 q q1 q2 q3 q4]; exact hfI q q1 q2 q3 q4, fun j j1 j2 j3 => by rw [hj3 j j1 j2 j3, hj2 j j1 j2 j3]; exact hf0 j j1 j2 j3, fun q hq => by rw [hg3 q hq, hg2 q hq]; exact hfJ q hq, by rw [spF_yes hsp, eb]; exact spN_2 (Or.inr ((stI_eq hle2).mp c192))⟩
            · refine z_bipush (n := 173) (v := (-9)) C dX10_split_171 rfl rfl ?_
              refine z_goto (n := 186) C dX10_split_173 rfl ?_
              refine z_istore (n := 188) (L' := [(14, _), (13, _), (12, _), (11, _), (10, _), (9, _), (8, _), (7, _), (6, _), (0, _), (1, _), (2, _), (3, _), (4, _), (5, _)]) C dX10_split_186 rfl (by rw [hnL]; decide) rfl ?_
              refine z_iload (n := 190) C 0 dX10_split_188 rfl rfl ?_
              refine z_bipush (n := 192) (v := (-9)) C dX10_split_190 rfl rfl ?_
              refine z_icmpF_ne (n := 195) (tgt := 198) C rfl dX10_split_192 rfl rfl ?_
              refine z_goto (n := 238) C dX10_split_195 rfl ?_
              refine z_iincG (n := 241) (c := 1) (L' := [(10, _), (14, _), (13, _), (12, _), (11, _), (9, _), (8, _), (7, _), (6, _), (0, _), (1, _), (2, _), (3, _), (4, _), (5, _)]) C 4 dX10_split_238 rfl rfl rfl (by rw [hnL]; decide) rfl ?_
              refine z_goto (n := 86) C dX10_split_241 rfl ?_
              refine z_sub (L' := [(10, _), (9, _), (8, _), (7, _), (6, _), (0, _), (1, _), (2, _), (3, _), (4, _), (5, _)]) [0, 5, 6, 7, 8, 9, 10, 11, 12, 13, 14] rfl ?_
              rw [nI_1]
              exact ih (k + 1) b I2 J2 (by omega) ⟨by omega, fun q q1 q2 q3 q4 => by rw [hf2 q q1 q2 q3 q4]; exact hfI q q1 q2 q3 q4, fun j j1 j2 j3 => by rw [hj2 j j1 j2 j3]; exact hf0 j j1 j2 j3, fun q hq => by rw [hg2 q hq]; exact hfJ q hq, by rw [spF_yes hsp, eb]; exact spN_2 (Or.inl ((stI_eq hle1).mp c168))⟩
          · have hb1 : b.1 = 1 := by have : b.1 ≠ 0 := fun e => c139 ((bsI_eq ob2).mpr e); omega
            refine z_iload (n := 144) C 0 dX10_split_142 rfl rfl ?_
            refine z_iload (n := 146) C 4 dX10_split_144 rfl rfl ?_
            refine z_icmp_le (tgt := 152) (n := 149) C dX10_split_146 rfl rfl (fun c146 => ?_) (fun c146 => ?_)
            · rw [fa_le, nI_toInt (by omega), nI_toInt (by omega)] at c146
              have hn1 : ¬ (b.1 = 1 ∧ b.2.2.1 < grS ki c hv0 k + grS ki c hv0 (clr set k)) := fun q => by omega
              refine z_aload_n (n := 153) C 7 dX10_split_152 rfl rfl ?_
              refine z_iload (n := 155) C 2 dX10_split_153 rfl rfl ?_
              refine z_iload_n (n := 156) C 9 dX10_split_155 rfl rfl ?_
              refine z_iload_n (n := 157) C 10 dX10_split_156 rfl rfl ?_
              refine z_iload (n := 159) C 11 dX10_split_157 rfl rfl ?_
              refine z_vi_4 (n := 162) (d' := 7) C K dX10_split_159 rfl yk_X10_startOf yv_X10_startOf kM_RX10_265 (by decide) hR0 rfl rfl sh_85 (by decide) (by decide) ?_
              refine c_X10_startOf hw1 ok hc hW1 hk1 okk (show k < 2 ^ c by omega) ha hbl hh (fun I2 J2 hf2 hj2 hg2 => ?_)
              have hle1 := hso k
              have hle2 := hso (clr set k)
              have hw2 : mTw I2 n r s rd := hw1.fr (hj2 5 (by decide) (by decide) (by decide)) (hj2 6 (by decide) (by decide) (by decide)) (hj2 7 (by decide) (by decide) (by decide)) (fun q q1 q2 => hf2 q (by omega) (by omega) (by omega) (by omega))
              have hW2 : mWy I2 n C0 := hW1.fr (hf2 94 (by decide) (by decide) (by decide) (by decide))
              have hk2 : mKd I2 c ki co ag re T := hk1.fr (hj2 19 (by decide) (by decide) (by decide)) (fun q q1 q2 => hf2 q (by omega) (by omega) (by omega) (by omega))
              refine z_istore (n := 164) (L' := [(13, _), (12, _), (11, _), (10, _), (9, _), (8, _), (7, _), (6, _), (0, _), (1, _), (2, _), (3, _), (4, _), (5, _)]) C dX10_split_162 rfl (by rw [hnL]; decide) rfl ?_
              refine z_iload (n := 166) C 0 dX10_split_164 rfl rfl ?_
              refine z_bipush (n := 168) (v := (-9)) C dX10_split_166 rfl rfl ?_
              refine z_icmp_ne (tgt := 176) (n := 171) C dX10_split_168 rfl rfl (fun c168 => ?_) (fun c168 => ?_)
              · refine z_aload_n (n := 177) C 8 dX10_split_176 rfl rfl ?_
                refine z_iload (n := 179) C 2 dX10_split_177 rfl rfl ?_
                refine z_iload_n (n := 180) C 10 dX10_split_179 rfl rfl ?_
                refine z_iload_n (n := 181) C 11 dX10_split_180 rfl rfl ?_
                refine z_iload (n := 183) C 12 dX10_split_181 rfl rfl ?_
                refine z_vi_4 (n := 186) (d' := 7) C K dX10_split_183 rfl yk_X10_startOf yv_X10_startOf kM_RX10_265 (by decide) hR0 rfl rfl sh_85 (by decide) (by decide) ?_
                refine c_X10_startOf hw2 ok hc hW2 hk2 okk (show clr set k < 2 ^ c by omega) ha hbl hh (fun I3 J3 hf3 hj3 hg3 => ?_)
                refine z_istore (n := 188) (L' := [(14, _), (13, _), (12, _), (11, _), (10, _), (9, _), (8, _), (7, _), (6, _), (0, _), (1, _), (2, _), (3, _), (4, _), (5, _)]) C dX10_split_186 rfl (by rw [hnL]; decide) rfl ?_
                refine z_iload (n := 190) C 0 dX10_split_188 rfl rfl ?_
                refine z_bipush (n := 192) (v := (-9)) C dX10_split_190 rfl rfl ?_
                refine z_icmp_ne (tgt := 198) (n := 195) C dX10_split_192 rfl rfl (fun c192 => ?_) (fun c192 => ?_)
                · have hx1 : soF r rd C0 c co ki ag re s a bl h k ≠ 0 := fun e => c168 ((stI_eq hle1).mpr e)
                  have hx2 : soF r rd C0 c co ki ag re s a bl h (clr set k) ≠ 0 := fun e => c192 ((stI_eq hle2).mpr e)
                  rw [show stI (soS r rd C0 (rdG k c co re) (pcG k c co ki ag) s a bl h).1 = nI (soF r rd C0 c co ki ag re s a bl h k - 1) from stI_n9 hle1 hx1, show stI (soS r rd C0 (rdG (clr set k) c co re) (pcG (clr set k) c co ki ag) s a bl h).1 = nI (soF r rd C0 c co ki ag re s a bl h (clr set k) - 1) from stI_n9 hle2 hx2]
                  refine z_iload (n := 200) C 1 dX10_split_198 rfl rfl ?_
                  refine z_iload (n := 202) C 0 dX10_split_200 rfl rfl ?_
                  refine z_iadd (n := 203) C dX10_split_202 rfl ?_
                  rw [nI_add]
                  refine z_istore (n := 205) (L' := [(13, _), (14, _), (12, _), (11, _), (10, _), (9, _), (8, _), (7, _), (6, _), (0, _), (1, _), (2, _), (3, _), (4, _), (5, _)]) C dX10_split_203 rfl (by rw [hnL]; decide) rfl ?_
                  refine z_iload (n := 207) C 7 dX10_split_205 rfl rfl ?_
                  refine z_bipush (n := 209) (v := (-9)) C dX10_split_207 rfl rfl ?_
                  refine z_icmp_eq (tgt := 226) (n := 212) C dX10_split_209 rfl rfl (fun c209 => ?_) (fun c209 => ?_)
                  · refine z_iload (n := 228) C 4 dX10_split_226 rfl rfl ?_
                    refine z_istore (n := 230) (L' := [(7, _), (13, _), (14, _), (12, _), (11, _), (10, _), (9, _), (8, _), (6, _), (0, _), (1, _), (2, _), (3, _), (4, _), (5, _)]) C dX10_split_228 rfl (by rw [hnL]; decide) rfl ?_
                    refine z_iload (n := 232) C 3 dX10_split_230 rfl rfl ?_
                    refine z_istore (n := 234) (L' := [(8, _), (7, _), (13, _), (14, _), (12, _), (11, _), (10, _), (9, _), (6, _), (0, _), (1, _), (2, _), (3, _), (4, _), (5, _)]) C dX10_split_232 rfl (by rw [hnL]; decide) rfl ?_
                    refine z_iload (n := 236) C 2 dX10_split_234 rfl rfl ?_
                    refine z_istore (n := 238) (L' := [(9, _), (8, _), (7, _), (13, _), (14, _), (12, _), (11, _), (10, _), (6, _), (0, _), (1, _), (2, _), (3, _), (4, _), (5, _)]) C dX10_split_236 rfl (by rw [hnL]; decide) rfl ?_
                    refine z_iincG (n := 241) (c := 1) (L' := [(10, _), (9, _), (8, _), (7, _), (13, _), (14, _), (12, _), (11, _), (6, _), (0, _), (1, _), (2, _), (3, _), (4, _), (5, _)]) C 7 dX10_split_238 rfl rfl rfl (by rw [hnL]; decide) rfl ?_
                    refine z_goto (n := 86) C dX10_split_241 rfl ?_
                    refine z_sub (L' := [(10, _), (9, _), (8, _), (7, _), (6, _), (0, _), (1, _), (2, _), (3, _), (4, _), (5, _)]) [0, 1, 2, 3, 8, 9, 10, 11, 12, 13, 14] rfl ?_
                    rw [nI_1]
                    exact ih (k + 1) (1, k, grS ki c hv0 k + grS ki c hv0 (clr set k), ((soF r rd C0 c co ki ag re s a bl h) k - 1) + ((soF r rd C0 c co ki ag re s a bl h) (clr set k) - 1)) I3 J3 (by omega) ⟨by omega, fun q q1 q2 q3 q4 => by rw [hf3 q q1 q2 q3 q4, hf2 q q1 q2 q3 q4]; exact hfI q q1 q2 q3 q4, fun j j1 j2 j3 => by rw [hj3 j j1 j2 j3, hj2 j j1 j2 j3]; exact hf0 j j1 j2 j3, fun q hq => by rw [hg3 q hq, hg2 q hq]; exact hfJ q hq, by rw [spF_yes hsp, eb]; exact spN_3 hn1 (fun q => q.elim hx1 hx2) (Or.inl ((bsI_eq ob2).mp c209))⟩
                  · have hb0 : ¬ b.1 = 0 := fun e => c209 ((bsI_eq ob2).mpr e)
                    refine z_iload (n := 214) C 2 dX10_split_212 rfl rfl ?_
                    refine z_iload (n := 216) C 6 dX10_split_214 rfl rfl ?_
                    refine z_icmp_lt (tgt := 226) (n := 219) C dX10_split_216 rfl rfl (fun c216 => ?_) (fun c216 => ?_)
                    · refine z_iload (n := 228) C 4 dX10_split_226 rfl rfl ?_
                      refine z_istore (n := 230) (L' := [(7, _), (13, _), (14, _), (12, _), (11, _), (10, _), (9, _), (8, _), (6, _), (0, _), (1, _), (2, _), (3, _), (4, _), (5, _)]) C dX10_split_228 rfl (by rw [hnL]; decide) rfl ?_
                      refine z_iload (n := 232) C 3 dX10_split_230 rfl rfl ?_
                      refine z_istore (n := 234) (L' := [(8, _), (7, _), (13, _), (14, _), (12, _), (11, _), (10, _), (9, _), (6, _), (0, _), (1, _), (2, _), (3, _), (4, _), (5, _)]) C dX10_split_232 rfl (by rw [hnL]; decide) rfl ?_
                      refine z_iload (n := 236) C 2 dX10_split_234 rfl rfl ?_
                      refine z_istore (n := 238) (L' := [(9, _), (8, _), (7, _), (13, _), (14, _), (12, _), (11, _), (10, _), (6, _), (0, _), (1, _), (2, _), (3, _), (4, _), (5, _)]) C dX10_split_236 rfl (by rw [hnL]; decide) rfl ?_
                      refine z_iincG (n := 241) (c := 1) (L' := [(10, _), (9, _), (8, _), (7, _), (13, _), (14, _), (12, _), (11, _), (6, _), (0, _), (1, _), (2, _), (3, _), (4, _), (5, _)]) C 7 dX10_split_238 rfl rfl rfl (by rw [hnL]; decide) rfl ?_
                      refine z_goto (n := 86) C dX10_split_241 rfl ?_
                      refine z_sub (L' := [(10, _), (9, _), (8, _), (7, _), (6, _), (0, _), (1, _), (2, _), (3, _), (4, _), (5, _)]) [0, 1, 2, 3, 8, 9, 10, 11, 12, 13, 14] rfl ?_
                      rw [fa_lt, nI_toInt (by omega), nI_toInt (by omega)] at c216
                      rw [nI_1]
                      exact ih (k + 1) (1, k, grS ki c hv0 k + grS ki c hv0 (clr set k), ((soF r rd C0 c co ki ag re s a bl h) k - 1) + ((soF r rd C0 c co ki ag re s a bl h) (clr set k) - 1)) I3 J3 (by omega) ⟨by omega, fun q q1 q2 q3 q4 => by rw [hf3 q q1 q2 q3 q4, hf2 q q1 q2 q3 q4]; exact hfI q q1 q2 q3 q4, fun j j1 j2 j3 => by rw [hj3 j j1 j2 j3, hj2 j j1 j2 j3]; exact hf0 j j1 j2 j3, fun q hq => by rw [hg3 q hq, hg2 q hq]; exact hfJ q hq, by rw [spF_yes hsp, eb]; exact spN_3 hn1 (fun q => q.elim hx1 hx2) (Or.inr (Or.inl (by omega)))⟩
                    · rw [fa_lt, nI_toInt (by omega), nI_toInt (by omega)] at c216
                      refine z_iload (n := 221) C 0 dX10_split_219 rfl rfl ?_
                      refine z_iload (n := 223) C 5 dX10_split_221 rfl rfl ?_
                      refine z_icmp_le (tgt := 238) (n := 226) C dX10_split_223 rfl rfl (fun c223 => ?_) (fun c223 => ?_)
                      · refine z_iincG (n := 241) (c := 1) (L' := [(10, _), (13, _), (14, _), (12, _), (11, _), (9, _), (8, _), (7, _), (6, _), (0, _), (1, _), (2, _), (3, _), (4, _), (5, _)]) C 4 dX10_split_238 rfl rfl rfl (by rw [hnL]; decide) rfl ?_
                        refine z_goto (n := 86) C dX10_split_241 rfl ?_
                        refine z_sub (L' := [(10, _), (9, _), (8, _), (7, _), (6, _), (0, _), (1, _), (2, _), (3, _), (4, _), (5, _)]) [0, 5, 6, 7, 8, 9, 10, 11, 12, 13, 14] rfl ?_
                        rw [fa_le, nI_toInt (by omega), nI_toInt (by omega)] at c223
                        rw [nI_1]
                        exact ih (k + 1) b I3 J3 (by omega) ⟨by omega, fun q q1 q2 q3 q4 => by rw [hf3 q q1 q2 q3 q4, hf2 q q1 q2 q3 q4]; exact hfI q q1 q2 q3 q4, fun j j1 j2 j3 => by rw [hj3 j j1 j2 j3, hj2 j j1 j2 j3]; exact hf0 j j1 j2 j3, fun q hq => by rw [hg3 q hq, hg2 q hq]; exact hfJ q hq, by rw [spF_yes hsp, eb]; exact spN_4 (fun q => q.elim (fun q => hb0 q) (fun q => q.elim (by omega) (by omega)))⟩
                      · refine z_iload (n := 228) C 4 dX10_split_226 rfl rfl ?_
                        refine z_istore (n := 230) (L' := [(7, _), (13, _), (14, _), (12, _), (11, _), (10, _), (9, _), (8, _), (6, _), (0, _), (1, _), (2, _), (3, _), (4, _), (5, _)]) C dX10_split_228 rfl (by rw [hnL]; decide) rfl ?_
                        refine z_iload (n := 232) C 3 dX10_split_230 rfl rfl ?_
                        refine z_istore (n := 234) (L' := [(8, _), (7, _), (13, _), (14, _), (12, _), (11, _), (10, _), (9, _), (6, _), (0, _), (1, _), (2, _), (3, _), (4, _), (5, _)]) C dX10_split_232 rfl (by rw [hnL]; decide) rfl ?_
                        refine z_iload (n := 236) C 2 dX10_split_234 rfl rfl ?_
                        refine z_istore (n := 238) (L' := [(9, _), (8, _), (7, _), (13, _), (14, _), (12, _), (11, _), (10, _), (6, _), (0, _), (1, _), (2, _), (3, _), (4, _), (5, _)]) C dX10_split_236 rfl (by rw [hnL]; decide) rfl ?_
                        refine z_iincG (n := 241) (c := 1) (L' := [(10, _), (9, _), (8, _), (7, _), (13, _), (14, _), (12, _), (11, _), (6, _), (0, _), (1, _), (2, _), (3, _), (4, _), (5, _)]) C 7 dX10_split_238 rfl rfl rfl (by rw [hnL]; decide) rfl ?_
                        refine z_goto (n := 86) C dX10_split_241 rfl ?_
                        refine z_sub (L' := [(10, _), (9, _), (8, _), (7, _), (6, _), (0, _), (1, _), (2, _), (3, _), (4, _), (5, _)]) [0, 1, 2, 3, 8, 9, 10, 11, 12, 13, 14] rfl ?_
                        rw [fa_le, nI_toInt (by omega), nI_toInt (by omega)] at c223
                        rw [nI_1]
                        exact ih (k + 1) (1, k, grS ki c hv0 k + grS ki c hv0 (clr set k), ((soF r rd C0 c co ki ag re s a bl h) k - 1) + ((soF r rd C0 c co ki ag re s a bl h) (clr set k) - 1)) I3 J3 (by omega) ⟨by omega, fun q q1 q2 q3 q4 => by rw [hf3 q q1 q2 q3 q4, hf2 q q1 q2 q3 q4]; exact hfI q q1 q2 q3 q4, fun j j1 j2 j3 => by rw [hj3 j j1 j2 j3, hj2 j j1 j2 j3]; exact hf0 j j1 j2 j3, fun q hq => by rw [hg3 q hq, hg2 q hq]; exact hfJ q hq, by rw [spF_yes hsp, eb]; exact spN_3 hn1 (fun q => q.elim hx1 hx2) (Or.inr (Or.inr (by omega)))⟩
                · refine z_goto (n := 238) C dX10_split_195 rfl ?_
                  refine z_iincG (n := 241) (c := 1) (L' := [(10, _), (14, _), (13, _), (12, _), (11, _), (9, _), (8, _), (7, _), (6, _), (0, _), (1, _), (2, _), (3, _), (4, _), (5, _)]) C 4 dX10_split_238 rfl rfl rfl (by rw [hnL]; decide) rfl ?_
                  refine z_goto (n := 86) C dX10_split_241 rfl ?_
                  refine z_sub (L' := [(10, _), (9, _), (8, _), (7, _), (6, _), (0, _), (1, _), (2, _), (3, _), (4, _), (5, _)]) [0, 5, 6, 7, 8, 9, 10, 11, 12, 13, 14] rfl ?_
                  rw [nI_1]
                  exact ih (k + 1) b I3 J3 (by omega) ⟨by omega, fun q q1 q2 q3 q4 => by rw [hf3 q q1 q2 q3 q4, hf2 q q1 q2 q3 q4]; exact hfI q q1 q2 q3 q4, fun j j1 j2 j3 => by rw [hj3 j j1 j2 j3, hj2 j j1 j2 j3]; exact hf0 j j1 j2 j3, fun q hq => by rw [hg3 q hq, hg2 q hq]; exact hfJ q hq, by rw [spF_yes hsp, eb]; exact spN_2 (Or.inr ((stI_eq hle2).mp c192))⟩
              · refine z_bipush (n := 173) (v := (-9)) C dX10_split_171 rfl rfl ?_
                refine z_goto (n := 186) C dX10_split_173 rfl ?_
                refine z_istore (n := 188) (L' := [(14, _), (13, _), (12, _), (11, _), (10, _), (9, _), (8, _), (7, _), (6, _), (0, _), (1, _), (2, _), (3, _), (4, _), (5, _)]) C dX10_split_186 rfl (by rw [hnL]; decide) rfl ?_
                refine z_iload (n := 190) C 0 dX10_split_188 rfl rfl ?_
                refine z_bipush (n := 192) (v := (-9)) C dX10_split_190 rfl rfl ?_
                refine z_icmpF_ne (n := 195) (tgt := 198) C rfl dX10_split_192 rfl rfl ?_
                refine z_goto (n := 238) C dX10_split_195 rfl ?_
                refine z_iincG (n := 241) (c := 1) (L' := [(10, _), (14, _), (13, _), (12, _), (11, _), (9, _), (8, _), (7, _), (6, _), (0, _), (1, _), (2, _), (3, _), (4, _), (5, _)]) C 4 dX10_split_238 rfl rfl rfl (by rw [hnL]; decide) rfl ?_
                refine z_goto (n := 86) C dX10_split_241 rfl ?_
                refine z_sub (L' := [(10, _), (9, _), (8, _), (7, _), (6, _), (0, _), (1, _), (2, _), (3, _), (4, _), (5, _)]) [0, 5, 6, 7, 8, 9, 10, 11, 12, 13, 14] rfl ?_
                rw [nI_1]
                exact ih (k + 1) b I2 J2 (by omega) ⟨by omega, fun q q1 q2 q3 q4 => by rw [hf2 q q1 q2 q3 q4]; exact hfI q q1 q2 q3 q4, fun j j1 j2 j3 => by rw [hj2 j j1 j2 j3]; exact hf0 j j1 j2 j3, fun q hq => by rw [hg2 q hq]; exact hfJ q hq, by rw [spF_yes hsp, eb]; exact spN_2 (Or.inl ((stI_eq hle1).mp c168))⟩
            · rw [fa_le, nI_toInt (by omega), nI_toInt (by omega)] at c146
              refine z_goto (n := 238) C dX10_split_149 rfl ?_
              refine z_iincG (n := 241) (c := 1) (L' := [(10, _), (12, _), (11, _), (9, _), (8, _), (7, _), (6, _), (0, _), (1, _), (2, _), (3, _), (4, _), (5, _)]) C 2 dX10_split_238 rfl rfl rfl (by rw [hnL]; decide) rfl ?_
              refine z_goto (n := 86) C dX10_split_241 rfl ?_
              refine z_sub (L' := [(10, _), (9, _), (8, _), (7, _), (6, _), (0, _), (1, _), (2, _), (3, _), (4, _), (5, _)]) [0, 3, 4, 5, 6, 7, 8, 9, 10, 11, 12] rfl ?_
              rw [nI_1]
              exact ih (k + 1) b I1 J1 (by omega) ⟨by omega, hfI, hf0, hfJ, by rw [spF_yes hsp, eb]; exact spN_1 ⟨hb1, by omega⟩⟩
        · refine z_goto (n := 238) C dX10_split_109 rfl ?_
          refine z_iincG (n := 241) (c := 1) (L' := [(10, _), (9, _), (8, _), (7, _), (6, _), (0, _), (1, _), (2, _), (3, _), (4, _), (5, _)]) C 0 dX10_split_238 rfl rfl rfl (by rw [hnL]; decide) rfl ?_
          refine z_goto (n := 86) C dX10_split_241 rfl ?_
          rw [nI_1]
          exact ih (k + 1) b I1 J1 (by omega) ⟨by omega, hfI, hf0, hfJ, by rw [spF_no (spT_f2 (nI_inj (b := 0) c106 (by have := Nat.and_le_left (n := k) (m := lbS set); omega) (by decide)))]; exact eb⟩
set_option maxHeartbeats 4000000 in
set_option maxRecDepth 100000 in
theorem c_X10_split {ad : Nat → Nat} {I : KI} {J : KJ} {t : Nat} {n r s : Nat} {rd : Nat → Nat → Nat} (hw : mTw I n r s rd) (ok : okTw n r s rd) {C0 : Nat → Nat → Nat} (hc : okW n r rd C0) (hW : mWy I n C0) {c : Nat} {ki co ag re : Nat → Nat} {T : Nat → Nat → Nat} (hk : mKd I c ki co ag re T) (okk : okKd n c ki co ag re T) {hv0 hcn : Nat} {hdn : Nat → Nat} (hmi : mMi I hv0 hcn hdn) (oki : okMi hv0 hcn hdn) {setv cov bv hv wv : Int32} {Q : Int32 → KI → KJ → KR → Prop} (hR : ∀ v I', spR n c s C0 co ki ag setv cov bv hv wv = some v → (∀ q, q ≠ 85 → q ≠ 102 → q ≠ 103 → q ≠ 104 → I' q = I q) → (∀ j, j ≠ 27 → j ≠ 28 → j ≠ 29 → I' 85 j = I 85 j) → Q v I' J (rf t)) (hS : ∀ I' J', spR n c s C0 co ki ag setv cov bv hv wv = none → (∀ q, q ≠ 85 → q ≠ 102 → q ≠ 103 → q ≠ 104 → I' q = I q) → (∀ j, j ≠ 27 → j ≠ 28 → j ≠ 29 → I' 85 j = I 85 j) → (∀ q, q ≠ 101 → J' q = J q) → Q (spV (splitB r s rd C0 c co ki ag re hv0 setv.toNatClampNeg cov.toNatClampNeg bv.toNatClampNeg hv.toNatClampNeg) (grS ki c hv0 setv.toNatClampNeg) wv) I' J' (rf t)) : Mi 8 yX10_split (wm yX10_split cX10_split 15 (some .int)) [.ref (ad 85), .int (setv), .int (cov), .int (bv), .int (hv), .int (wv)] ad I J (rf t) Q := by
  refine mi_of (own := RX10) yk_X10_split rfl (Nat.le_of_ble_eq_true rfl) rfl (fun X hA hnL C K E => ?_)
  subst hA
  refine z_aload_n (n := 1) C 0 dX10_split_0 rfl rfl ?_
  refine z_iload_n (n := 2) C 2 dX10_split_1 rfl rfl ?_
  refine z_vi_1 (n := 5) (d' := 1) C K dX10_split_2 rfl yk_X10_isCorner yv_X10_isCorner kM_RX10_159 (by decide) hR0 rfl rfl sh_85 (by decide) (by decide) ?_
  refine c_X10_isCorner hw.1 ok.1 (fun b2 => ?_) (fun b2 => ?_)
  · refine z_ifT_ne (tgt := 10) C (by decide) dX10_split_5 rfl ?_
    refine z_aload_n (n := 11) C 0 dX10_split_10 rfl rfl ?_
    refine z_iload_n (n := 12) C 1 dX10_split_11 rfl rfl ?_
    refine z_vi_1 (n := 15) (d' := 1) C K dX10_split_12 rfl yk_X10_isSet yv_X10_isSet kM_RX10_217 (by decide) hR0 rfl rfl sh_85 (by decide) (by decide) ?_
    refine c_X10_isSet hk.1 okk.1 (fun b12 => ?_) (fun b12 => ?_)
    · refine z_ifF_eq (n := 18) (tgt := 52) C (by decide) dX10_split_15 rfl rfl ?_
      obtain ⟨set, hset0, hset, rfl⟩ := b12
      have hS0 : isS c (nI set) := ⟨set, hset0, hset, rfl⟩
      have h1024 : 2 ^ c ≤ 2 ^ 10 := Nat.pow_le_pow_right (by decide) okk.1
      have e1 : (nI set).toNatClampNeg = set := nI_clamp (by omega)
      refine z_iload_n (n := 19) C 1 dX10_split_18 rfl rfl ?_
      refine z_si_1 (n := 22) (d' := 1) C K dX10_split_19 rfl yk_X10_bitsOf kT_yX10_bitsOf kM_RX10_211 (by decide) hR0 rfl ?_
      refine c_X10_bitsOf (by omega) ?_
      refine z_iconst (n := 23) (v := 2) C dX10_split_22 rfl rfl ?_
      refine z_bipush (n := 25) (v := 6) C dX10_split_23 rfl rfl ?_
      refine z_si_3 (n := 28) (d' := 1) C K dX10_split_25 rfl yk_X10_within kT_yX10_within kM_RX10_92 (by decide) hR0 rfl ?_
      refine m_inB (lo := 2) (hi := 6) (by decide) (by decide) (fun b25 => ?_) (fun b25 => ?_)
      · refine z_ifF_eq (n := 31) (tgt := 52) C (by decide) dX10_split_28 rfl rfl ?_
        refine z_aload_n (n := 32) C 0 dX10_split_31 rfl rfl ?_
        refine z_iload_n (n := 33) C 1 dX10_split_32 rfl rfl ?_
        refine z_iload_n (n := 34) C 3 dX10_split_33 rfl rfl ?_
        refine z_iload (n := 36) C 4 dX10_split_34 rfl rfl ?_
        refine z_vi_3 (n := 39) (d' := 2) C K dX10_split_36 rfl yk_X10_isAsked yv_X10_isAsked kM_RX10_253 (by decide) hR0 rfl rfl sh_85 (by decide) (by decide) ?_
        refine c_X10_isAsked hk okk (fun q1 q2 q3 => ?_) (fun q1 => ?_)
        · refine z_ifF_eq (n := 42) (tgt := 52) C (by decide) dX10_split_39 rfl rfl ?_
          refine z_iload (n := 44) C 5 dX10_split_42 rfl rfl ?_
          refine z_iconst (n := 45) (v := 0) C dX10_split_44 rfl rfl ?_
          refine z_iconst (n := 46) (v := 3) C dX10_split_45 rfl rfl ?_
          refine z_si_3 (n := 49) (d' := 1) C K dX10_split_46 rfl yk_X10_within kT_yX10_within kM_RX10_92 (by decide) hR0 rfl ?_
          refine m_inB (lo := 0) (hi := 3) (by decide) (by decide) (fun b46 => ?_) (fun b46 => ?_)
          · refine z_ifT_ne (tgt := 55) C (by decide) dX10_split_49 rfl ?_
            obtain ⟨a, ha, rfl⟩ := isN_of b2
            obtain ⟨bl, hbl, rfl⟩ := isB_of (h := 200) q2
            obtain ⟨h, hh, rfl⟩ := isB_of (h := 100) q3
            have hn7 := ok.1
            have e2 : (nI a).toNatClampNeg = a := nI_clamp (by omega)
            have e3 : (nI bl).toNatClampNeg = bl := nI_clamp (by omega)
            have e4 : (nI h).toNatClampNeg = h := nI_clamp (by omega)
            obtain ⟨lb1, lb2, lb3, lb4⟩ := lbS_fact (m := set) (by omega) hset0
            refine z_aload_n (n := 56) C 0 dX10_split_55 rfl rfl ?_
            refine z_iload_n (n := 57) C 1 dX10_split_56 rfl rfl ?_
            refine z_iload_n (n := 58) C 2 dX10_split_57 rfl rfl ?_
            refine z_vi_2 (n := 61) (d' := 4) C K dX10_split_58 rfl yk_X10_mayStart yv_X10_mayStart kM_RX10_256 (by decide) hR0 rfl rfl sh_85 (by decide) (by decide) ?_
            refine c_X10_mayStart hw ok hc hW hk okk hset ha (fun I1 hf1 hj1 hst => ?_) (fun I1 hf1 hj1 hst => ?_)
            · refine z_ifT_ne (tgt := 67) C (by decide) dX10_split_61 rfl ?_
              refine z_iload_n (n := 68) C 1 dX10_split_67 rfl rfl ?_
              refine z_iload_n (n := 69) C 1 dX10_split_68 rfl rfl ?_
              refine z_ineg (n := 70) C dX10_split_69 rfl ?_
              refine z_iand (n := 71) C dX10_split_70 rfl ?_
              rw [lb1]
              have hw1 : mTw I1 n r s rd := hw.fr (hj1 5 (by decide)) (hj1 6 (by decide)) (hj1 7 (by decide)) (fun q q1 q2 => hf1 q (by omega) (by omega) (by omega))
              have hW1 : mWy I1 n C0 := hW.fr (hf1 94 (by decide) (by decide) (by decide))
              have hk1 : mKd I1 c ki co ag re T := hk.fr (hj1 19 (by decide)) (fun q q1 q2 => hf1 q (by omega) (by omega) (by omega))
              have hm1 : mMi I1 hv0 hcn hdn := hmi.fr (hj1 32 (by decide)) (hj1 37 (by decide)) (hf1 107 (by decide) (by decide) (by decide))
              refine z_istore (n := 73) (L' := [(6, _), (0, _), (1, _), (2, _), (3, _), (4, _), (5, _)]) C dX10_split_71 rfl (by rw [hnL]; decide) rfl ?_
              refine z_bipush (n := 75) (v := (-9)) C dX10_split_73 rfl rfl ?_
              refine z_istore (n := 77) (L' := [(7, _), (6, _), (0, _), (1, _), (2, _), (3, _), (4, _), (5, _)]) C dX10_split_75 rfl (by rw [hnL]; decide) rfl ?_
              refine z_iconst (n := 78) (v := 0) C dX10_split_77 rfl rfl ?_
              refine z_istore (n := 80) (L' := [(8, _), (7, _), (6, _), (0, _), (1, _), (2, _), (3, _), (4, _), (5, _)]) C dX10_split_78 rfl (by rw [hnL]; decide) rfl ?_
              refine z_iconst (n := 81) (v := 0) C dX10_split_80 rfl rfl ?_
              refine z_istore (n := 83) (L' := [(9, _), (8, _), (7, _), (6, _), (0, _), (1, _), (2, _), (3, _), (4, _), (5, _)]) C dX10_split_81 rfl (by rw [hnL]; decide) rfl ?_
              refine z_iconst (n := 84) (v := 1) C dX10_split_83 rfl rfl ?_
              refine z_istore (n := 86) (L' := [(10, _), (9, _), (8, _), (7, _), (6, _), (0, _), (1, _), (2, _), (3, _), (4, _), (5, _)]) C dX10_split_84 rfl (by rw [hnL]; decide) rfl ?_
              have hpr : spR n c s C0 co ki ag (nI set) (nI a) (nI bl) (nI h) wv = none := by
                unfold spR
                rw [if_neg (show ¬ ¬ isN n (nI a) from fun q => q b2), if_neg (show ¬ ¬ _ from fun q => q ⟨(isSB_t okk.1).mpr hS0, by rw [e1]; exact b25, q2, q3, b46⟩), e1, e2, if_neg (fun q => q hst)]
              exact l_X10_split C K hnL E hw1 ok hc hW1 hk1 okk hm1 oki hset0 hset ha hbl hh (fun I2 J2 hf2 hj2 hg2 => by
                have hx := hS I2 J2 hpr (fun x h1 h2 h3 h4 => by rw [hf2 x h1 h2 h3 h4]; exact hf1 x h1 h2 h4) (fun j h1 h2 h3 => by rw [hj2 j h1 h2 h3]; exact hj1 j h1) hg2
                unfold splitB at hx
                rw [e1, e2, e3, e4] at hx
                exact hx) _ 1 (0, 0, 0, 0) I1 J (Nat.lt_succ_self _) ⟨by omega, fun _ _ _ _ _ => rfl, fun _ _ _ _ => rfl, fun _ _ => rfl, spF_low (by omega) hset0 1 (by omega)⟩
            · refine z_ifF_ne (n := 64) (tgt := 67) C (by decide) dX10_split_61 rfl rfl ?_
              refine z_bipush (n := 66) (v := (-3)) C dX10_split_64 rfl rfl ?_
              refine z_iret C E dX10_split_66 ?_
              exact hR _ I1 (by unfold spR; rw [if_neg (show ¬ ¬ isN n (nI a) from fun q => q b2), if_neg (show ¬ ¬ _ from fun q => q ⟨(isSB_t okk.1).mpr hS0, by rw [e1]; exact b25, q2, q3, b46⟩), e1, e2, if_pos hst]) (fun x h1 h2 _ h4 => hf1 x h1 h2 h4) (fun j h1 _ _ => hj1 j h1)
          · refine z_ifF_ne (n := 52) (tgt := 55) C (by decide) dX10_split_49 rfl rfl ?_
            refine z_bipush (n := 54) (v := (-2)) C dX10_split_52 rfl rfl ?_
            refine z_iret C E dX10_split_54 ?_
            exact hR _ I (by unfold spR; rw [if_neg (show ¬ ¬ isN n cov from fun q => q b2), if_pos (fun q => b46 q.2.2.2.2)]) (fun _ _ _ _ _ => rfl) (fun _ _ _ _ => rfl)
        · refine z_ifT_eq (tgt := 52) C (by decide) dX10_split_39 rfl ?_
          refine z_bipush (n := 54) (v := (-2)) C dX10_split_52 rfl rfl ?_
          refine z_iret C E dX10_split_54 ?_
          exact hR _ I (by unfold spR; rw [if_neg (show ¬ ¬ isN n cov from fun q => q b2), if_pos (fun q => q1 ⟨q.1, q.2.2.1, q.2.2.2.1⟩)]) (fun _ _ _ _ _ => rfl) (fun _ _ _ _ => rfl)
      · refine z_ifT_eq (tgt := 52) C (by decide) dX10_split_28 rfl ?_
        refine z_bipush (n := 54) (v := (-2)) C dX10_split_52 rfl rfl ?_
        refine z_iret C E dX10_split_54 ?_
        exact hR _ I (by unfold spR; rw [if_neg (show ¬ ¬ isN n cov from fun q => q b2), if_pos (fun q => b25 (by have := q.2.1; rw [nI_clamp (by omega)] at this; exact this))]) (fun _ _ _ _ _ => rfl) (fun _ _ _ _ => rfl)
    · refine z_ifT_eq (tgt := 52) C (by decide) dX10_split_15 rfl ?_
      refine z_bipush (n := 54) (v := (-2)) C dX10_split_52 rfl rfl ?_
      refine z_iret C E dX10_split_54 ?_
      exact hR _ I (by unfold spR; rw [if_neg (show ¬ ¬ isN n cov from fun q => q b2), if_pos (fun q => b12 ((isSB_t okk.1).mp q.1))]) (fun _ _ _ _ _ => rfl) (fun _ _ _ _ => rfl)
  · refine z_ifF_ne (n := 8) (tgt := 10) C (by decide) dX10_split_5 rfl rfl ?_
    refine z_iconst (n := 9) (v := (-1)) C dX10_split_8 rfl rfl ?_
    refine z_iret C E dX10_split_9 ?_
    exact hR _ I (by unfold spR; rw [if_pos b2]) (fun _ _ _ _ _ => rfl) (fun _ _ _ _ => rfl)
