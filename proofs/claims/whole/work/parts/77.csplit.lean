set_option maxHeartbeats 4000000 in
set_option maxRecDepth 100000 in
theorem l_X9_findSplit {X : KX} {t : Nat} (C : Cx X RX9 cX9_findSplit 6) (K : Kx X) (hnL : xnL X = 11) {Q : Int32 → KI → KJ → KR → Prop} (E : Ei X .boolean Q) {I : KI} {J : KJ} (ht : Tw t) {n r s : Nat} {rd : Nat → Nat → Nat} (hw : cTw t I n r s rd) (ok : okTw n r s rd) {C0 : Nat → Nat → Nat} (hc : okW n r rd C0) (hW : cWy t I n r rd C0) {c : Nat} {ki co ag re : Nat → Nat} {T : Nat → Nat → Nat} (hk : cKd I c ki co ag re T) (okk : okKd n c ki co ag re T) {hv0 hcn : Nat} {hdn : Nat → Nat} (hmi : cMi I hv0 hcn hdn) (oki : okMi hv0 hcn hdn) {set a bl h : Nat} (hset0 : 0 < set) (hset : set < 2 ^ c) (ha : a < n) (hbl : bl ≤ 200) (hh : h ≤ 100) (h1 : ∀ I' J' b, (∀ q, q ≠ 0 → ¬ (50 ≤ q ∧ q ≤ 56) → I' q = I q) → (∀ j, j ≠ 14 → j ≠ 15 → j ≠ 16 → I' 0 j = I 0 j) → (∀ q, q ≠ 54 → q ≠ 55 → J' q = J q) → cZs I' J' → spF (grS ki c hv0) (soF r rd C0 c co ki ag re s a bl h) set set = b → b.1 = 1 → I' 0 14 = nI b.2.1 → I' 0 15 = nI b.2.2.1 → I' 0 16 = nI b.2.2.2 → Q 1 I' J' (rf t)) (h0 : ∀ I' J' b, (∀ q, q ≠ 0 → ¬ (50 ≤ q ∧ q ≤ 56) → I' q = I q) → (∀ j, j ≠ 14 → j ≠ 15 → j ≠ 16 → I' 0 j = I 0 j) → (∀ q, q ≠ 54 → q ≠ 55 → J' q = J q) → cZs I' J' → spF (grS ki c hv0) (soF r rd C0 c co ki ag re s a bl h) set set = b → b.1 = 0 → Q 0 I' J' (rf t)) : ∀ (f k : Nat) (b : Nat × Nat × Nat × Nat) (I1 : KI) (J1 : KJ), set - k < f → (lbS set ≤ k ∧ k ≤ set ∧ (∀ q, q ≠ 0 → ¬ (50 ≤ q ∧ q ≤ 56) → I1 q = I q) ∧ (∀ j, j ≠ 14 → j ≠ 15 → j ≠ 16 → I1 0 j = I 0 j) ∧ (∀ q, q ≠ 54 → q ≠ 55 → J1 q = J q) ∧ cZs I1 J1 ∧ spF (grS ki c hv0) (soF r rd C0 c co ki ag re s a bl h) set k = b ∧ (b.1 = 1 → I1 0 14 = nI b.2.1 ∧ I1 0 15 = nI b.2.2.1 ∧ I1 0 16 = nI b.2.2.2)) → Z X 0 0 (V X I1 J1 (rf t)) 13 [(7, .int (nI k)), (6, .int (nI (lbS set))), (5, .int (nI b.1)), (0, .ref (xad X 0)), (1, .int (nI set)), (2, .int (nI a)), (3, .int (nI bl)), (4, .int (nI h))] [] := by
  intro f
  induction f with
  | zero => intro k b I1 J1 h; omega
  | succ f ih =>
    intro k b I1 J1 hf hi
    obtain ⟨hlk, hks, hfI, hf0, hfJ, hz, eb, hbv⟩ := hi
    have hn7 := ok.1
    have htq := ht
    unfold Tw at htq
    have h1024 : 2 ^ c ≤ 2 ^ 10 := Nat.pow_le_pow_right (by decide) okk.1
    obtain ⟨lb1, lb2, lb3, lb4⟩ := lbS_fact (m := set) (by omega) hset0
    have hgr : ∀ m, grS ki c hv0 m ≤ 50 := fun m => grS_le okk.1 oki.1 oki.2.1
    have hso : ∀ m, soF r rd C0 c co ki ag re s a bl h m ≤ 201 := fun m => Nat.le_trans soS_le (by omega)
    have hbo : spOk b := eb ▸ spF_ok hgr hso k (by omega)
    obtain ⟨ob1, ob2, ob3, ob4⟩ := hbo
    have hw1 : cTw t I1 n r s rd := hw.fr (fun q q1 q2 => hfI q (by omega) (by omega))
    have hW1 : cWy t I1 n r rd C0 := hW.fr hn7 (fun q q1 q2 => hfI q (by omega) (by omega))
    have hk1 : cKd I1 c ki co ag re T := hk.fr okk.1 (hf0 5 (by decide) (by decide) (by decide)) (fun q q1 q2 => hfI q (by omega) (by omega))
    have hm1 : cMi I1 hv0 hcn hdn := hmi.fr (hf0 8 (by decide) (by decide) (by decide)) (hf0 10 (by decide) (by decide) (by decide)) (hfI 62 (by decide) (by decide))
    refine z_iload (n := 15) C 0 dX9_findSplit_13 rfl rfl ?_
    refine z_iload_n (n := 16) C 4 dX9_findSplit_15 rfl rfl ?_
    refine z_icmp_ge (tgt := 222) (n := 19) C dX9_findSplit_16 rfl rfl (fun c16 => ?_) (fun c16 => ?_)
    · refine z_iload (n := 224) C 2 dX9_findSplit_222 rfl rfl ?_
      refine z_zret C E dX9_findSplit_224 (by rcases (show b.1 = 0 ∨ b.1 = 1 by omega) with e | e <;> rw [e] <;> decide) ?_
      rw [fa_le, nI_toInt (by omega), nI_toInt (by omega)] at c16
      have e : k = set := by omega
      subst e
      rcases (show b.1 = 0 ∨ b.1 = 1 by omega) with e | e
      · rw [e]
        exact h0 I1 J1 b hfI hf0 hfJ hz eb e
      · rw [e]
        exact h1 I1 J1 b hfI hf0 hfJ hz eb e (hbv e).1 (hbv e).2.1 (hbv e).2.2
    · rw [fa_le, nI_toInt (by omega), nI_toInt (by omega)] at c16
      refine z_iload (n := 21) C 0 dX9_findSplit_19 rfl rfl ?_
      refine z_sipush (n := 24) (v := 1024) C dX9_findSplit_21 rfl rfl ?_
      refine z_icmpF_ge (n := 27) (tgt := 222) C (by rw [fa_le, nI_toInt (by omega)]; simp only [Int32.reduceToInt]; omega) dX9_findSplit_24 rfl rfl ?_
      refine z_iload (n := 29) C 0 dX9_findSplit_27 rfl rfl ?_
      refine z_iload_n (n := 30) C 4 dX9_findSplit_29 rfl rfl ?_
      refine z_iconst (n := 31) (v := (-1)) C dX9_findSplit_30 rfl rfl ?_
      refine z_ixor (n := 32) C dX9_findSplit_31 rfl ?_
      refine z_iand (n := 33) C dX9_findSplit_32 rfl ?_
      rw [clr_nI]
      refine z_if_ne (tgt := 216) (n := 36) C dX9_findSplit_33 rfl rfl (fun c33 => ?_) (fun c33 => ?_)
      · refine z_iincG (n := 219) (c := 1) (L' := [(7, _), (6, _), (5, _), (0, _), (1, _), (2, _), (3, _), (4, _)]) C 0 dX9_findSplit_216 rfl rfl rfl (by rw [hnL]; decide) rfl ?_
        refine z_goto (n := 13) C dX9_findSplit_219 rfl ?_
        rw [nI_1]
        exact ih (k + 1) b I1 J1 (by omega) ⟨by omega, by omega, hfI, hf0, hfJ, hz, by rw [spF_no (spT_f1 (fun e => c33 (by rw [e]; rfl)))]; exact eb, hbv⟩
      · have hcl : clr k set = 0 := nI_inj (b := 0) c33 (by have := clr_le k set; omega) (by decide)
        refine z_iload (n := 38) C 0 dX9_findSplit_36 rfl rfl ?_
        refine z_iload (n := 40) C 1 dX9_findSplit_38 rfl rfl ?_
        refine z_iand (n := 41) C dX9_findSplit_40 rfl ?_
        rw [and_nI]
        refine z_if_ne (tgt := 47) (n := 44) C dX9_findSplit_41 rfl rfl (fun c41 => ?_) (fun c41 => ?_)
        · have hsp : spT set k = true := spT_t hcl (fun e => c41 (by rw [e]; rfl))
          have hop := clr_pos hcl (by omega)
          have hol := clr_le set k
          refine z_aload_n (n := 48) C 3 dX9_findSplit_47 rfl rfl ?_
          refine z_iload (n := 50) C 0 dX9_findSplit_48 rfl rfl ?_
          refine z_vi_1 (n := 53) (d' := 2) C K dX9_findSplit_50 rfl yk_X9_grownFor yv_X9_grownFor kM_RX9_252 (by decide) hR0 rfl rfl sh_0 (by decide) (by decide) ?_
          refine c_X9_grownFor hk1 okk hm1 oki (by omega) ?_
          refine z_aload_n (n := 54) C 3 dX9_findSplit_53 rfl rfl ?_
          refine z_iload_n (n := 55) C 4 dX9_findSplit_54 rfl rfl ?_
          refine z_iload (n := 57) C 0 dX9_findSplit_55 rfl rfl ?_
          refine z_ixor (n := 58) C dX9_findSplit_57 rfl ?_
          rw [xor_nI, clr_xor hcl]
          refine z_vi_1 (n := 61) (d' := 2) C K dX9_findSplit_58 rfl yk_X9_grownFor yv_X9_grownFor kM_RX9_252 (by decide) hR0 rfl rfl sh_0 (by decide) (by decide) ?_
          refine c_X9_grownFor hk1 okk hm1 oki (by omega) ?_
          refine z_iadd (n := 62) C dX9_findSplit_61 rfl ?_
          rw [nI_add]
          have hg1 := hgr k
          have hg2 := hgr (clr set k)
          refine z_istore (n := 64) (L' := [(8, _), (7, _), (6, _), (5, _), (0, _), (1, _), (2, _), (3, _), (4, _)]) C dX9_findSplit_62 rfl (by rw [hnL]; decide) rfl ?_
          refine z_iload (n := 66) C 3 dX9_findSplit_64 rfl rfl ?_
          refine z_if_eq (tgt := 81) (n := 69) C dX9_findSplit_66 rfl rfl (fun c66 => ?_) (fun c66 => ?_)
          · have b0 : b.1 = 0 := nI_inj (b := 0) c66 (by omega) (by decide)
            have hn1 : ¬ (b.1 = 1 ∧ b.2.2.1 < grS ki c hv0 k + grS ki c hv0 (clr set k)) := fun q => by omega
            refine z_aload_n (n := 82) C 4 dX9_findSplit_81 rfl rfl ?_
            refine z_getR (n := 85) (q := 49) C K fF_RX9_47 dX9_findSplit_82 rfl rfl sh_0 (by decide) rfl ?_
            refine z_getR (n := 88) (q := 50) C K fF_RX9_240 dX9_findSplit_85 rfl rfl sh_49 (by decide) rfl ?_
            refine z_aload_n (n := 89) C 4 dX9_findSplit_88 rfl rfl ?_
            refine z_getR (n := 92) (q := 48) C K fF_RX9_36 dX9_findSplit_89 rfl rfl sh_0 (by decide) rfl ?_
            refine z_iload (n := 94) C 1 dX9_findSplit_92 rfl rfl ?_
            refine z_vv_2 (n := 97) (d' := 3) C K dX9_findSplit_94 rfl yk_X1_gather yv_X1_gather kM_RX9_361 (by decide) hR0 rfl rfl sh_50 (by decide) (by decide) ?_
            refine c_X1_gather hk1 okk hn7 (show k < 2 ^ c by omega) (fun I2 hf2 hG2 => ?_)
            have hw2 : cTw t I2 n r s rd := hw1.fr (fun q q1 q2 => hf2 q (by omega))
            have hW2 : cWy t I2 n r rd C0 := hW1.fr hn7 (fun q q1 q2 => hf2 q (by omega))
            refine z_aload_n (n := 98) C 4 dX9_findSplit_97 rfl rfl ?_
            refine z_getR (n := 101) (q := 49) C K fF_RX9_47 dX9_findSplit_98 rfl rfl sh_0 (by decide) rfl ?_
            refine z_aload_n (n := 102) C 4 dX9_findSplit_101 rfl rfl ?_
            refine z_getR (n := 105) (q := t) C K fF_RX9_27 dX9_findSplit_102 rfl rfl sh_0 (by decide) rfl ?_
            refine z_iload_n (n := 106) C 6 dX9_findSplit_105 rfl rfl ?_
            refine z_iload_n (n := 107) C 7 dX9_findSplit_106 rfl rfl ?_
            refine z_iload (n := 109) C 8 dX9_findSplit_107 rfl rfl ?_
            refine z_vi_4 (n := 112) (d' := 5) C K dX9_findSplit_109 rfl yk_X2_findStart yv_X2_findStart kM_RX9_236 (by decide) hR0 rfl rfl sh_49 (by decide) (by decide) ?_
            refine c_X2_findStart ht hw2 ok hc hW2 hG2 rfl (pcG_le k c co ki ag) (fun x hx => gatesOf_lt okk hx) (gates_pos (co := co) (ki := ki) (ag := ag) (show 0 < k by omega) (show k < 2 ^ c by omega) (fun x hx => by have := (okk.2.1 x hx).2.1; omega)) ha (fun g => rdG_le (fun x hx => (okk.2.1 x hx).2.2.2.2) g) hbl hh (hz.fr (hf2 54 (by omega)) rfl) (fun og3 I3 J3 hf3 hg3 hz3 hG3 hl3 hbo3 => ?_)
            have hw3 : cTw t I3 n r s rd := hw2.fr (fun q q1 q2 => hf3 q (by omega))
            have hW3 : cWy t I3 n r rd C0 := hW2.fr hn7 (fun q q1 q2 => hf3 q (by omega))
            have hk3 : cKd I3 c ki co ag re T := hk1.fr okk.1 (by rw [hf3 0 (by omega), hf2 0 (by omega)]) (fun q q1 q2 => by rw [hf3 q (by omega)]; exact hf2 q (by omega))
            refine z_istore (n := 114) (L' := [(9, _), (8, _), (7, _), (6, _), (5, _), (0, _), (1, _), (2, _), (3, _), (4, _)]) C dX9_findSplit_112 rfl (by rw [hnL]; decide) rfl ?_
            refine z_aload_n (n := 115) C 5 dX9_findSplit_114 rfl rfl ?_
            refine z_getR (n := 118) (q := 49) C K fF_RX9_47 dX9_findSplit_115 rfl rfl sh_0 (by decide) rfl ?_
            refine z_getR (n := 121) (q := 50) C K fF_RX9_240 dX9_findSplit_118 rfl rfl sh_49 (by decide) rfl ?_
            refine z_aload_n (n := 122) C 5 dX9_findSplit_121 rfl rfl ?_
            refine z_getR (n := 125) (q := 48) C K fF_RX9_36 dX9_findSplit_122 rfl rfl sh_0 (by decide) rfl ?_
            refine z_iload_n (n := 126) C 6 dX9_findSplit_125 rfl rfl ?_
            refine z_iload (n := 128) C 2 dX9_findSplit_126 rfl rfl ?_
            refine z_ixor (n := 129) C dX9_findSplit_128 rfl ?_
            rw [xor_nI, clr_xor hcl]
            refine z_vv_2 (n := 132) (d' := 3) C K dX9_findSplit_129 rfl yk_X1_gather yv_X1_gather kM_RX9_361 (by decide) hR0 rfl rfl sh_50 (by decide) (by decide) ?_
            refine c_X1_gather hk3 okk hn7 (show clr set k < 2 ^ c by omega) (fun I4 hf4 hG4 => ?_)
            have hw4 : cTw t I4 n r s rd := hw3.fr (fun q q1 q2 => hf4 q (by omega))
            have hW4 : cWy t I4 n r rd C0 := hW3.fr hn7 (fun q q1 q2 => hf4 q (by omega))
            refine z_aload_n (n := 133) C 5 dX9_findSplit_132 rfl rfl ?_
            refine z_getR (n := 136) (q := 49) C K fF_RX9_47 dX9_findSplit_133 rfl rfl sh_0 (by decide) rfl ?_
            refine z_aload_n (n := 137) C 5 dX9_findSplit_136 rfl rfl ?_
            refine z_getR (n := 140) (q := t) C K fF_RX9_27 dX9_findSplit_137 rfl rfl sh_0 (by decide) rfl ?_
            refine z_iload_n (n := 141) C 7 dX9_findSplit_140 rfl rfl ?_
            refine z_iload_n (n := 142) C 8 dX9_findSplit_141 rfl rfl ?_
            refine z_iload (n := 144) C 9 dX9_findSplit_142 rfl rfl ?_
            refine z_vi_4 (n := 147) (d' := 5) C K dX9_findSplit_144 rfl yk_X2_findStart yv_X2_findStart kM_RX9_236 (by decide) hR0 rfl rfl sh_49 (by decide) (by decide) ?_
            refine c_X2_findStart ht hw4 ok hc hW4 hG4 rfl (pcG_le (clr set k) c co ki ag) (fun x hx => gatesOf_lt okk hx) (gates_pos (co := co) (ki := ki) (ag := ag) hop (show clr set k < 2 ^ c by omega) (fun x hx => by have := (okk.2.1 x hx).2.1; omega)) ha (fun g => rdG_le (fun x hx => (okk.2.1 x hx).2.2.2.2) g) hbl hh (hz3.fr (hf4 54 (by omega)) rfl) (fun og5 I5 J5 hf5 hg5 hz5 hG5 hl5 hbo5 => ?_)
            have hle1 := hso k
            have hle2 := hso (clr set k)
            refine z_istore (n := 149) (L' := [(10, _), (9, _), (8, _), (7, _), (6, _), (5, _), (0, _), (1, _), (2, _), (3, _), (4, _)]) C dX9_findSplit_147 rfl (by rw [hnL]; decide) rfl ?_
            refine z_iload (n := 151) C 1 dX9_findSplit_149 rfl rfl ?_
            refine z_bipush (n := 153) (v := (-9)) C dX9_findSplit_151 rfl rfl ?_
            refine z_icmp_eq (tgt := 216) (n := 156) C dX9_findSplit_153 rfl rfl (fun c153 => ?_) (fun c153 => ?_)
            · refine z_iincG (n := 219) (c := 1) (L' := [(7, _), (10, _), (9, _), (8, _), (6, _), (5, _), (0, _), (1, _), (2, _), (3, _), (4, _)]) C 3 dX9_findSplit_216 rfl rfl rfl (by rw [hnL]; decide) rfl ?_
              refine z_goto (n := 13) C dX9_findSplit_219 rfl ?_
              refine z_sub (L' := [(7, _), (6, _), (5, _), (0, _), (1, _), (2, _), (3, _), (4, _)]) [0, 4, 5, 6, 7, 8, 9, 10] rfl ?_
              rw [nI_1]
              exact ih (k + 1) b I5 J5 (by omega) ⟨by omega, by omega, fun q q0 q1 => by rw [hf5 q q1, hf4 q (by omega), hf3 q q1, hf2 q (by omega)]; exact hfI q q0 q1, fun j j1 j2 j3 => by rw [hf5 0 (by omega), hf4 0 (by omega), hf3 0 (by omega), hf2 0 (by omega)]; exact hf0 j j1 j2 j3, fun q q1 q2 => by rw [hg5 q q1 q2, hg3 q q1 q2]; exact hfJ q q1 q2, hz5, by rw [spF_yes hsp, eb]; exact spN_2 (Or.inl ((stI_eq hle1).mp c153)), fun e => by rw [hf5 0 (by omega), hf4 0 (by omega), hf3 0 (by omega), hf2 0 (by omega)]; exact hbv e⟩
            · refine z_iload (n := 158) C 0 dX9_findSplit_156 rfl rfl ?_
              refine z_bipush (n := 160) (v := (-9)) C dX9_findSplit_158 rfl rfl ?_
              refine z_icmp_ne (tgt := 166) (n := 163) C dX9_findSplit_160 rfl rfl (fun c160 => ?_) (fun c160 => ?_)
              · have hx1 : soF r rd C0 c co ki ag re s a bl h k ≠ 0 := fun e => c153 ((stI_eq hle1).mpr e)
                have hx2 : soF r rd C0 c co ki ag re s a bl h (clr set k) ≠ 0 := fun e => c160 ((stI_eq hle2).mpr e)
                rw [show stI (soS r rd C0 (rdG k c co re) (pcG k c co ki ag) s a bl h).1 = nI (soF r rd C0 c co ki ag re s a bl h k - 1) from stI_n9 hle1 hx1, show stI (soS r rd C0 (rdG (clr set k) c co re) (pcG (clr set k) c co ki ag) s a bl h).1 = nI (soF r rd C0 c co ki ag re s a bl h (clr set k) - 1) from stI_n9 hle2 hx2]
                refine z_iload (n := 168) C 5 dX9_findSplit_166 rfl rfl ?_
                refine z_if_eq (tgt := 192) (n := 171) C dX9_findSplit_168 rfl rfl (fun c168 => ?_) (fun c168 => ?_)
                · refine z_iconst (n := 193) (v := 1) C dX9_findSplit_192 rfl rfl ?_
                  refine z_istore (n := 195) (L' := [(5, _), (10, _), (9, _), (8, _), (7, _), (6, _), (0, _), (1, _), (2, _), (3, _), (4, _)]) C dX9_findSplit_193 rfl (by rw [hnL]; decide) rfl ?_
                  refine z_aload_n (n := 196) C 6 dX9_findSplit_195 rfl rfl ?_
                  refine z_iload (n := 198) C 4 dX9_findSplit_196 rfl rfl ?_
                  refine z_putI (n := 201) C K fF_RX9_81 dX9_findSplit_198 rfl sh_0 (by decide) ?_
                  refine z_aload_n (n := 202) C 6 dX9_findSplit_201 rfl rfl ?_
                  refine z_iload (n := 204) C 3 dX9_findSplit_202 rfl rfl ?_
                  refine z_putI (n := 207) C K fF_RX9_84 dX9_findSplit_204 rfl sh_0 (by decide) ?_
                  refine z_aload_n (n := 208) C 6 dX9_findSplit_207 rfl rfl ?_
                  refine z_iload (n := 210) C 2 dX9_findSplit_208 rfl rfl ?_
                  refine z_iload (n := 212) C 1 dX9_findSplit_210 rfl rfl ?_
                  refine z_iadd (n := 213) C dX9_findSplit_212 rfl ?_
                  rw [nI_add]
                  refine z_putI (n := 216) C K fF_RX9_87 dX9_findSplit_213 rfl sh_0 (by decide) ?_
                  refine z_iincG (n := 219) (c := 1) (L' := [(7, _), (5, _), (10, _), (9, _), (8, _), (6, _), (0, _), (1, _), (2, _), (3, _), (4, _)]) C 4 dX9_findSplit_216 rfl rfl rfl (by rw [hnL]; decide) rfl ?_
                  refine z_goto (n := 13) C dX9_findSplit_219 rfl ?_
                  refine z_sub (L' := [(7, _), (6, _), (5, _), (0, _), (1, _), (2, _), (3, _), (4, _)]) [0, 5, 1, 6, 7, 8, 9, 10] rfl ?_
                  rw [nI_1]
                  exact ih (k + 1) (1, k, grS ki c hv0 k + grS ki c hv0 (clr set k), ((soF r rd C0 c co ki ag re s a bl h) k - 1) + ((soF r rd C0 c co ki ag re s a bl h) (clr set k) - 1)) _ J5 (by omega) ⟨by omega, by omega, fun q q0 q1 => by rw [upI_row _ _ q0, upI_row _ _ q0, upI_row _ _ q0, hf5 q q1, hf4 q (by omega), hf3 q q1, hf2 q (by omega)]; exact hfI q q0 q1, fun j j1 j2 j3 => by rw [upI_k _ _ j3, upI_k _ _ j2, upI_k _ _ j1, hf5 0 (by omega), hf4 0 (by omega), hf3 0 (by omega), hf2 0 (by omega)]; exact hf0 j j1 j2 j3, fun q q1 q2 => by rw [hg5 q q1 q2, hg3 q q1 q2]; exact hfJ q q1 q2, hz5.fr (by rw [upI_row _ _ (by decide), upI_row _ _ (by decide), upI_row _ _ (by decide)]) rfl, by rw [spF_yes hsp, eb]; exact spN_3 hn1 (fun q => q.elim hx1 hx2) (Or.inl b0), fun _ => ⟨by rw [upI_k _ _ (by decide), upI_k _ _ (by decide), upI_same], by rw [upI_k _ _ (by decide), upI_same], upI_same _ _ _ _⟩⟩
                · have hbq1 : b.1 = 1 := by have : b.1 ≠ 0 := fun e => c168 (by rw [e]; rfl); omega
                  have hbq : I5 0 15 = nI b.2.2.1 ∧ I5 0 16 = nI b.2.2.2 := by rw [hf5 0 (by omega), hf4 0 (by omega), hf3 0 (by omega), hf2 0 (by omega)]; exact (hbv hbq1).2
                  refine z_iload (n := 173) C 2 dX9_findSplit_171 rfl rfl ?_
                  refine z_aload_n (n := 174) C 6 dX9_findSplit_173 rfl rfl ?_
                  refine z_getI (n := 177) C K fF_RX9_84 dX9_findSplit_174 rfl sh_0 (by decide) ?_
                  rw [hbq.1]
                  refine z_icmp_lt (tgt := 192) (n := 180) C dX9_findSplit_177 rfl rfl (fun c177 => ?_) (fun c177 => ?_)
                  · refine z_iconst (n := 193) (v := 1) C dX9_findSplit_192 rfl rfl ?_
                    refine z_istore (n := 195) (L' := [(5, _), (10, _), (9, _), (8, _), (7, _), (6, _), (0, _), (1, _), (2, _), (3, _), (4, _)]) C dX9_findSplit_193 rfl (by rw [hnL]; decide) rfl ?_
                    refine z_aload_n (n := 196) C 6 dX9_findSplit_195 rfl rfl ?_
                    refine z_iload (n := 198) C 4 dX9_findSplit_196 rfl rfl ?_
                    refine z_putI (n := 201) C K fF_RX9_81 dX9_findSplit_198 rfl sh_0 (by decide) ?_
                    refine z_aload_n (n := 202) C 6 dX9_findSplit_201 rfl rfl ?_
                    refine z_iload (n := 204) C 3 dX9_findSplit_202 rfl rfl ?_
                    refine z_putI (n := 207) C K fF_RX9_84 dX9_findSplit_204 rfl sh_0 (by decide) ?_
                    refine z_aload_n (n := 208) C 6 dX9_findSplit_207 rfl rfl ?_
                    refine z_iload (n := 210) C 2 dX9_findSplit_208 rfl rfl ?_
                    refine z_iload (n := 212) C 1 dX9_findSplit_210 rfl rfl ?_
                    refine z_iadd (n := 213) C dX9_findSplit_212 rfl ?_
                    rw [nI_add]
                    refine z_putI (n := 216) C K fF_RX9_87 dX9_findSplit_213 rfl sh_0 (by decide) ?_
                    refine z_iincG (n := 219) (c := 1) (L' := [(7, _), (5, _), (10, _), (9, _), (8, _), (6, _), (0, _), (1, _), (2, _), (3, _), (4, _)]) C 4 dX9_findSplit_216 rfl rfl rfl (by rw [hnL]; decide) rfl ?_
                    refine z_goto (n := 13) C dX9_findSplit_219 rfl ?_
                    refine z_sub (L' := [(7, _), (6, _), (5, _), (0, _), (1, _), (2, _), (3, _), (4, _)]) [0, 5, 1, 6, 7, 8, 9, 10] rfl ?_
                    rw [fa_lt, nI_toInt (by omega), nI_toInt (by omega)] at c177
                    rw [nI_1]
                    exact ih (k + 1) (1, k, grS ki c hv0 k + grS ki c hv0 (clr set k), ((soF r rd C0 c co ki ag re s a bl h) k - 1) + ((soF r rd C0 c co ki ag re s a bl h) (clr set k) - 1)) _ J5 (by omega) ⟨by omega, by omega, fun q q0 q1 => by rw [upI_row _ _ q0, upI_row _ _ q0, upI_row _ _ q0, hf5 q q1, hf4 q (by omega), hf3 q q1, hf2 q (by omega)]; exact hfI q q0 q1, fun j j1 j2 j3 => by rw [upI_k _ _ j3, upI_k _ _ j2, upI_k _ _ j1, hf5 0 (by omega), hf4 0 (by omega), hf3 0 (by omega), hf2 0 (by omega)]; exact hf0 j j1 j2 j3, fun q q1 q2 => by rw [hg5 q q1 q2, hg3 q q1 q2]; exact hfJ q q1 q2, hz5.fr (by rw [upI_row _ _ (by decide), upI_row _ _ (by decide), upI_row _ _ (by decide)]) rfl, by rw [spF_yes hsp, eb]; exact spN_3 hn1 (fun q => q.elim hx1 hx2) (Or.inr (Or.inl (by omega))), fun _ => ⟨by rw [upI_k _ _ (by decide), upI_k _ _ (by decide), upI_same], by rw [upI_k _ _ (by decide), upI_same], upI_same _ _ _ _⟩⟩
                  · rw [fa_lt, nI_toInt (by omega), nI_toInt (by omega)] at c177
                    refine z_iload (n := 182) C 1 dX9_findSplit_180 rfl rfl ?_
                    refine z_iload (n := 184) C 0 dX9_findSplit_182 rfl rfl ?_
                    refine z_iadd (n := 185) C dX9_findSplit_184 rfl ?_
                    rw [nI_add]
                    refine z_aload_n (n := 186) C 6 dX9_findSplit_185 rfl rfl ?_
                    refine z_getI (n := 189) C K fF_RX9_87 dX9_findSplit_186 rfl sh_0 (by decide) ?_
                    rw [hbq.2]
                    refine z_icmp_le (tgt := 216) (n := 192) C dX9_findSplit_189 rfl rfl (fun c189 => ?_) (fun c189 => ?_)
                    · refine z_iincG (n := 219) (c := 1) (L' := [(7, _), (10, _), (9, _), (8, _), (6, _), (5, _), (0, _), (1, _), (2, _), (3, _), (4, _)]) C 3 dX9_findSplit_216 rfl rfl rfl (by rw [hnL]; decide) rfl ?_
                      refine z_goto (n := 13) C dX9_findSplit_219 rfl ?_
                      refine z_sub (L' := [(7, _), (6, _), (5, _), (0, _), (1, _), (2, _), (3, _), (4, _)]) [0, 4, 5, 6, 7, 8, 9, 10] rfl ?_
                      rw [fa_le, nI_toInt (by omega), nI_toInt (by omega)] at c189
                      rw [nI_1]
                      exact ih (k + 1) b I5 J5 (by omega) ⟨by omega, by omega, fun q q0 q1 => by rw [hf5 q q1, hf4 q (by omega), hf3 q q1, hf2 q (by omega)]; exact hfI q q0 q1, fun j j1 j2 j3 => by rw [hf5 0 (by omega), hf4 0 (by omega), hf3 0 (by omega), hf2 0 (by omega)]; exact hf0 j j1 j2 j3, fun q q1 q2 => by rw [hg5 q q1 q2, hg3 q q1 q2]; exact hfJ q q1 q2, hz5, by rw [spF_yes hsp, eb]; exact spN_4 (fun q => q.elim (by omega) (fun q => q.elim (by omega) (by omega))), fun e => by rw [hf5 0 (by omega), hf4 0 (by omega), hf3 0 (by omega), hf2 0 (by omega)]; exact hbv e⟩
                    · refine z_iconst (n := 193) (v := 1) C dX9_findSplit_192 rfl rfl ?_
                      refine z_istore (n := 195) (L' := [(5, _), (10, _), (9, _), (8, _), (7, _), (6, _), (0, _), (1, _), (2, _), (3, _), (4, _)]) C dX9_findSplit_193 rfl (by rw [hnL]; decide) rfl ?_
                      refine z_aload_n (n := 196) C 6 dX9_findSplit_195 rfl rfl ?_
                      refine z_iload (n := 198) C 4 dX9_findSplit_196 rfl rfl ?_
                      refine z_putI (n := 201) C K fF_RX9_81 dX9_findSplit_198 rfl sh_0 (by decide) ?_
                      refine z_aload_n (n := 202) C 6 dX9_findSplit_201 rfl rfl ?_
                      refine z_iload (n := 204) C 3 dX9_findSplit_202 rfl rfl ?_
                      refine z_putI (n := 207) C K fF_RX9_84 dX9_findSplit_204 rfl sh_0 (by decide) ?_
                      refine z_aload_n (n := 208) C 6 dX9_findSplit_207 rfl rfl ?_
                      refine z_iload (n := 210) C 2 dX9_findSplit_208 rfl rfl ?_
                      refine z_iload (n := 212) C 1 dX9_findSplit_210 rfl rfl ?_
                      refine z_iadd (n := 213) C dX9_findSplit_212 rfl ?_
                      rw [nI_add]
                      refine z_putI (n := 216) C K fF_RX9_87 dX9_findSplit_213 rfl sh_0 (by decide) ?_
                      refine z_iincG (n := 219) (c := 1) (L' := [(7, _), (5, _), (10, _), (9, _), (8, _), (6, _), (0, _), (1, _), (2, _), (3, _), (4, _)]) C 4 dX9_findSplit_216 rfl rfl rfl (by rw [hnL]; decide) rfl ?_
                      refine z_goto (n := 13) C dX9_findSplit_219 rfl ?_
                      refine z_sub (L' := [(7, _), (6, _), (5, _), (0, _), (1, _), (2, _), (3, _), (4, _)]) [0, 5, 1, 6, 7, 8, 9, 10] rfl ?_
                      rw [fa_le, nI_toInt (by omega), nI_toInt (by omega)] at c189
                      rw [nI_1]
                      exact ih (k + 1) (1, k, grS ki c hv0 k + grS ki c hv0 (clr set k), ((soF r rd C0 c co ki ag re s a bl h) k - 1) + ((soF r rd C0 c co ki ag re s a bl h) (clr set k) - 1)) _ J5 (by omega) ⟨by omega, by omega, fun q q0 q1 => by rw [upI_row _ _ q0, upI_row _ _ q0, upI_row _ _ q0, hf5 q q1, hf4 q (by omega), hf3 q q1, hf2 q (by omega)]; exact hfI q q0 q1, fun j j1 j2 j3 => by rw [upI_k _ _ j3, upI_k _ _ j2, upI_k _ _ j1, hf5 0 (by omega), hf4 0 (by omega), hf3 0 (by omega), hf2 0 (by omega)]; exact hf0 j j1 j2 j3, fun q q1 q2 => by rw [hg5 q q1 q2, hg3 q q1 q2]; exact hfJ q q1 q2, hz5.fr (by rw [upI_row _ _ (by decide), upI_row _ _ (by decide), upI_row _ _ (by decide)]) rfl, by rw [spF_yes hsp, eb]; exact spN_3 hn1 (fun q => q.elim hx1 hx2) (Or.inr (Or.inr (by omega))), fun _ => ⟨by rw [upI_k _ _ (by decide), upI_k _ _ (by decide), upI_same], by rw [upI_k _ _ (by decide), upI_same], upI_same _ _ _ _⟩⟩
              · refine z_goto (n := 216) C dX9_findSplit_163 rfl ?_
                refine z_iincG (n := 219) (c := 1) (L' := [(7, _), (10, _), (9, _), (8, _), (6, _), (5, _), (0, _), (1, _), (2, _), (3, _), (4, _)]) C 3 dX9_findSplit_216 rfl rfl rfl (by rw [hnL]; decide) rfl ?_
                refine z_goto (n := 13) C dX9_findSplit_219 rfl ?_
                refine z_sub (L' := [(7, _), (6, _), (5, _), (0, _), (1, _), (2, _), (3, _), (4, _)]) [0, 4, 5, 6, 7, 8, 9, 10] rfl ?_
                rw [nI_1]
                exact ih (k + 1) b I5 J5 (by omega) ⟨by omega, by omega, fun q q0 q1 => by rw [hf5 q q1, hf4 q (by omega), hf3 q q1, hf2 q (by omega)]; exact hfI q q0 q1, fun j j1 j2 j3 => by rw [hf5 0 (by omega), hf4 0 (by omega), hf3 0 (by omega), hf2 0 (by omega)]; exact hf0 j j1 j2 j3, fun q q1 q2 => by rw [hg5 q q1 q2, hg3 q q1 q2]; exact hfJ q q1 q2, hz5, by rw [spF_yes hsp, eb]; exact spN_2 (Or.inr ((stI_eq hle2).mp c160)), fun e => by rw [hf5 0 (by omega), hf4 0 (by omega), hf3 0 (by omega), hf2 0 (by omega)]; exact hbv e⟩
          · have hb1 : b.1 = 1 := by have : b.1 ≠ 0 := fun e => c66 (by rw [e]; rfl); omega
            refine z_iload (n := 71) C 0 dX9_findSplit_69 rfl rfl ?_
            refine z_aload_n (n := 72) C 4 dX9_findSplit_71 rfl rfl ?_
            refine z_getI (n := 75) C K fF_RX9_84 dX9_findSplit_72 rfl sh_0 (by decide) ?_
            rw [(hbv hb1).2.1]
            refine z_icmp_le (tgt := 81) (n := 78) C dX9_findSplit_75 rfl rfl (fun c75 => ?_) (fun c75 => ?_)
            · rw [fa_le, nI_toInt (by omega), nI_toInt (by omega)] at c75
              have hn1 : ¬ (b.1 = 1 ∧ b.2.2.1 < grS ki c hv0 k + grS ki c hv0 (clr set k)) := fun q => by omega
              refine z_aload_n (n := 82) C 4 dX9_findSplit_81 rfl rfl ?_
              refine z_getR (n := 85) (q := 49) C K fF_RX9_47 dX9_findSplit_82 rfl rfl sh_0 (by decide) rfl ?_
              refine z_getR (n := 88) (q := 50) C K fF_RX9_240 dX9_findSplit_85 rfl rfl sh_49 (by decide) rfl ?_
              refine z_aload_n (n := 89) C 4 dX9_findSplit_88 rfl rfl ?_
              refine z_getR (n := 92) (q := 48) C K fF_RX9_36 dX9_findSplit_89 rfl rfl sh_0 (by decide) rfl ?_
              refine z_iload (n := 94) C 1 dX9_findSplit_92 rfl rfl ?_
              refine z_vv_2 (n := 97) (d' := 3) C K dX9_findSplit_94 rfl yk_X1_gather yv_X1_gather kM_RX9_361 (by decide) hR0 rfl rfl sh_50 (by decide) (by decide) ?_
              refine c_X1_gather hk1 okk hn7 (show k < 2 ^ c by omega) (fun I2 hf2 hG2 => ?_)
              have hw2 : cTw t I2 n r s rd := hw1.fr (fun q q1 q2 => hf2 q (by omega))
              have hW2 : cWy t I2 n r rd C0 := hW1.fr hn7 (fun q q1 q2 => hf2 q (by omega))
              refine z_aload_n (n := 98) C 4 dX9_findSplit_97 rfl rfl ?_
              refine z_getR (n := 101) (q := 49) C K fF_RX9_47 dX9_findSplit_98 rfl rfl sh_0 (by decide) rfl ?_
              refine z_aload_n (n := 102) C 4 dX9_findSplit_101 rfl rfl ?_
              refine z_getR (n := 105) (q := t) C K fF_RX9_27 dX9_findSplit_102 rfl rfl sh_0 (by decide) rfl ?_
              refine z_iload_n (n := 106) C 6 dX9_findSplit_105 rfl rfl ?_
              refine z_iload_n (n := 107) C 7 dX9_findSplit_106 rfl rfl ?_
              refine z_iload (n := 109) C 8 dX9_findSplit_107 rfl rfl ?_
              refine z_vi_4 (n := 112) (d' := 5) C K dX9_findSplit_109 rfl yk_X2_findStart yv_X2_findStart kM_RX9_236 (by decide) hR0 rfl rfl sh_49 (by decide) (by decide) ?_
              refine c_X2_findStart ht hw2 ok hc hW2 hG2 rfl (pcG_le k c co ki ag) (fun x hx => gatesOf_lt okk hx) (gates_pos (co := co) (ki := ki) (ag := ag) (show 0 < k by omega) (show k < 2 ^ c by omega) (fun x hx => by have := (okk.2.1 x hx).2.1; omega)) ha (fun g => rdG_le (fun x hx => (okk.2.1 x hx).2.2.2.2) g) hbl hh (hz.fr (hf2 54 (by omega)) rfl) (fun og3 I3 J3 hf3 hg3 hz3 hG3 hl3 hbo3 => ?_)
              have hw3 : cTw t I3 n r s rd := hw2.fr (fun q q1 q2 => hf3 q (by omega))
              have hW3 : cWy t I3 n r rd C0 := hW2.fr hn7 (fun q q1 q2 => hf3 q (by omega))
              have hk3 : cKd I3 c ki co ag re T := hk1.fr okk.1 (by rw [hf3 0 (by omega), hf2 0 (by omega)]) (fun q q1 q2 => by rw [hf3 q (by omega)]; exact hf2 q (by omega))
              refine z_istore (n := 114) (L' := [(9, _), (8, _), (7, _), (6, _), (5, _), (0, _), (1, _), (2, _), (3, _), (4, _)]) C dX9_findSplit_112 rfl (by rw [hnL]; decide) rfl ?_
              refine z_aload_n (n := 115) C 5 dX9_findSplit_114 rfl rfl ?_
              refine z_getR (n := 118) (q := 49) C K fF_RX9_47 dX9_findSplit_115 rfl rfl sh_0 (by decide) rfl ?_
              refine z_getR (n := 121) (q := 50) C K fF_RX9_240 dX9_findSplit_118 rfl rfl sh_49 (by decide) rfl ?_
              refine z_aload_n (n := 122) C 5 dX9_findSplit_121 rfl rfl ?_
              refine z_getR (n := 125) (q := 48) C K fF_RX9_36 dX9_findSplit_122 rfl rfl sh_0 (by decide) rfl ?_
              refine z_iload_n (n := 126) C 6 dX9_findSplit_125 rfl rfl ?_
              refine z_iload (n := 128) C 2 dX9_findSplit_126 rfl rfl ?_
              refine z_ixor (n := 129) C dX9_findSplit_128 rfl ?_
              rw [xor_nI, clr_xor hcl]
              refine z_vv_2 (n := 132) (d' := 3) C K dX9_findSplit_129 rfl yk_X1_gather yv_X1_gather kM_RX9_361 (by decide) hR0 rfl rfl sh_50 (by decide) (by decide) ?_
              refine c_X1_gather hk3 okk hn7 (show clr set k < 2 ^ c by omega) (fun I4 hf4 hG4 => ?_)
              have hw4 : cTw t I4 n r s rd := hw3.fr (fun q q1 q2 => hf4 q (by omega))
              have hW4 : cWy t I4 n r rd C0 := hW3.fr hn7 (fun q q1 q2 => hf4 q (by omega))
              refine z_aload_n (n := 133) C 5 dX9_findSplit_132 rfl rfl ?_
              refine z_getR (n := 136) (q := 49) C K fF_RX9_47 dX9_findSplit_133 rfl rfl sh_0 (by decide) rfl ?_
              refine z_aload_n (n := 137) C 5 dX9_findSplit_136 rfl rfl ?_
              refine z_getR (n := 140) (q := t) C K fF_RX9_27 dX9_findSplit_137 rfl rfl sh_0 (by decide) rfl ?_
              refine z_iload_n (n := 141) C 7 dX9_findSplit_140 rfl rfl ?_
              refine z_iload_n (n := 142) C 8 dX9_findSplit_141 rfl rfl ?_
              refine z_iload (n := 144) C 9 dX9_findSplit_142 rfl rfl ?_
              refine z_vi_4 (n := 147) (d' := 5) C K dX9_findSplit_144 rfl yk_X2_findStart yv_X2_findStart kM_RX9_236 (by decide) hR0 rfl rfl sh_49 (by decide) (by decide) ?_
              refine c_X2_findStart ht hw4 ok hc hW4 hG4 rfl (pcG_le (clr set k) c co ki ag) (fun x hx => gatesOf_lt okk hx) (gates_pos (co := co) (ki := ki) (ag := ag) hop (show clr set k < 2 ^ c by omega) (fun x hx => by have := (okk.2.1 x hx).2.1; omega)) ha (fun g => rdG_le (fun x hx => (okk.2.1 x hx).2.2.2.2) g) hbl hh (hz3.fr (hf4 54 (by omega)) rfl) (fun og5 I5 J5 hf5 hg5 hz5 hG5 hl5 hbo5 => ?_)
              have hle1 := hso k
              have hle2 := hso (clr set k)
              refine z_istore (n := 149) (L' := [(10, _), (9, _), (8, _), (7, _), (6, _), (5, _), (0, _), (1, _), (2, _), (3, _), (4, _)]) C dX9_findSplit_147 rfl (by rw [hnL]; decide) rfl ?_
              refine z_iload (n := 151) C 1 dX9_findSplit_149 rfl rfl ?_
              refine z_bipush (n := 153) (v := (-9)) C dX9_findSplit_151 rfl rfl ?_
              refine z_icmp_eq (tgt := 216) (n := 156) C dX9_findSplit_153 rfl rfl (fun c153 => ?_) (fun c153 => ?_)
              · refine z_iincG (n := 219) (c := 1) (L' := [(7, _), (10, _), (9, _), (8, _), (6, _), (5, _), (0, _), (1, _), (2, _), (3, _), (4, _)]) C 3 dX9_findSplit_216 rfl rfl rfl (by rw [hnL]; decide) rfl ?_
                refine z_goto (n := 13) C dX9_findSplit_219 rfl ?_
                refine z_sub (L' := [(7, _), (6, _), (5, _), (0, _), (1, _), (2, _), (3, _), (4, _)]) [0, 4, 5, 6, 7, 8, 9, 10] rfl ?_
                rw [nI_1]
                exact ih (k + 1) b I5 J5 (by omega) ⟨by omega, by omega, fun q q0 q1 => by rw [hf5 q q1, hf4 q (by omega), hf3 q q1, hf2 q (by omega)]; exact hfI q q0 q1, fun j j1 j2 j3 => by rw [hf5 0 (by omega), hf4 0 (by omega), hf3 0 (by omega), hf2 0 (by omega)]; exact hf0 j j1 j2 j3, fun q q1 q2 => by rw [hg5 q q1 q2, hg3 q q1 q2]; exact hfJ q q1 q2, hz5, by rw [spF_yes hsp, eb]; exact spN_2 (Or.inl ((stI_eq hle1).mp c153)), fun e => by rw [hf5 0 (by omega), hf4 0 (by omega), hf3 0 (by omega), hf2 0 (by omega)]; exact hbv e⟩
              · refine z_iload (n := 158) C 0 dX9_findSplit_156 rfl rfl ?_
                refine z_bipush (n := 160) (v := (-9)) C dX9_findSplit_158 rfl rfl ?_
                refine z_icmp_ne (tgt := 166) (n := 163) C dX9_findSplit_160 rfl rfl (fun c160 => ?_) (fun c160 => ?_)
                · have hx1 : soF r rd C0 c co ki ag re s a bl h k ≠ 0 := fun e => c153 ((stI_eq hle1).mpr e)
                  have hx2 : soF r rd C0 c co ki ag re s a bl h (clr set k) ≠ 0 := fun e => c160 ((stI_eq hle2).mpr e)
                  rw [show stI (soS r rd C0 (rdG k c co re) (pcG k c co ki ag) s a bl h).1 = nI (soF r rd C0 c co ki ag re s a bl h k - 1) from stI_n9 hle1 hx1, show stI (soS r rd C0 (rdG (clr set k) c co re) (pcG (clr set k) c co ki ag) s a bl h).1 = nI (soF r rd C0 c co ki ag re s a bl h (clr set k) - 1) from stI_n9 hle2 hx2]
                  refine z_iload (n := 168) C 5 dX9_findSplit_166 rfl rfl ?_
                  refine z_if_eq (tgt := 192) (n := 171) C dX9_findSplit_168 rfl rfl (fun c168 => ?_) (fun c168 => ?_)
                  · have b0 : b.1 = 0 := nI_inj (b := 0) c168 (by omega) (by decide)
                    refine z_iconst (n := 193) (v := 1) C dX9_findSplit_192 rfl rfl ?_
                    refine z_istore (n := 195) (L' := [(5, _), (10, _), (9, _), (8, _), (7, _), (6, _), (0, _), (1, _), (2, _), (3, _), (4, _)]) C dX9_findSplit_193 rfl (by rw [hnL]; decide) rfl ?_
                    refine z_aload_n (n := 196) C 6 dX9_findSplit_195 rfl rfl ?_
                    refine z_iload (n := 198) C 4 dX9_findSplit_196 rfl rfl ?_
                    refine z_putI (n := 201) C K fF_RX9_81 dX9_findSplit_198 rfl sh_0 (by decide) ?_
                    refine z_aload_n (n := 202) C 6 dX9_findSplit_201 rfl rfl ?_
                    refine z_iload (n := 204) C 3 dX9_findSplit_202 rfl rfl ?_
                    refine z_putI (n := 207) C K fF_RX9_84 dX9_findSplit_204 rfl sh_0 (by decide) ?_
                    refine z_aload_n (n := 208) C 6 dX9_findSplit_207 rfl rfl ?_
                    refine z_iload (n := 210) C 2 dX9_findSplit_208 rfl rfl ?_
                    refine z_iload (n := 212) C 1 dX9_findSplit_210 rfl rfl ?_
                    refine z_iadd (n := 213) C dX9_findSplit_212 rfl ?_
                    rw [nI_add]
                    refine z_putI (n := 216) C K fF_RX9_87 dX9_findSplit_213 rfl sh_0 (by decide) ?_
                    refine z_iincG (n := 219) (c := 1) (L' := [(7, _), (5, _), (10, _), (9, _), (8, _), (6, _), (0, _), (1, _), (2, _), (3, _), (4, _)]) C 4 dX9_findSplit_216 rfl rfl rfl (by rw [hnL]; decide) rfl ?_
                    refine z_goto (n := 13) C dX9_findSplit_219 rfl ?_
                    refine z_sub (L' := [(7, _), (6, _), (5, _), (0, _), (1, _), (2, _), (3, _), (4, _)]) [0, 5, 1, 6, 7, 8, 9, 10] rfl ?_
                    rw [nI_1]
                    exact ih (k + 1) (1, k, grS ki c hv0 k + grS ki c hv0 (clr set k), ((soF r rd C0 c co ki ag re s a bl h) k - 1) + ((soF r rd C0 c co ki ag re s a bl h) (clr set k) - 1)) _ J5 (by omega) ⟨by omega, by omega, fun q q0 q1 => by rw [upI_row _ _ q0, upI_row _ _ q0, upI_row _ _ q0, hf5 q q1, hf4 q (by omega), hf3 q q1, hf2 q (by omega)]; exact hfI q q0 q1, fun j j1 j2 j3 => by rw [upI_k _ _ j3, upI_k _ _ j2, upI_k _ _ j1, hf5 0 (by omega), hf4 0 (by omega), hf3 0 (by omega), hf2 0 (by omega)]; exact hf0 j j1 j2 j3, fun q q1 q2 => by rw [hg5 q q1 q2, hg3 q q1 q2]; exact hfJ q q1 q2, hz5.fr (by rw [upI_row _ _ (by decide), upI_row _ _ (by decide), upI_row _ _ (by decide)]) rfl, by rw [spF_yes hsp, eb]; exact spN_3 hn1 (fun q => q.elim hx1 hx2) (Or.inl b0), fun _ => ⟨by rw [upI_k _ _ (by decide), upI_k _ _ (by decide), upI_same], by rw [upI_k _ _ (by decide), upI_same], upI_same _ _ _ _⟩⟩
                  · have hbq1 : b.1 = 1 := by have : b.1 ≠ 0 := fun e => c168 (by rw [e]; rfl); omega
                    have hbq : I5 0 15 = nI b.2.2.1 ∧ I5 0 16 = nI b.2.2.2 := by rw [hf5 0 (by omega), hf4 0 (by omega), hf3 0 (by omega), hf2 0 (by omega)]; exact (hbv hbq1).2
                    refine z_iload (n := 173) C 2 dX9_findSplit_171 rfl rfl ?_
                    refine z_aload_n (n := 174) C 6 dX9_findSplit_173 rfl rfl ?_
                    refine z_getI (n := 177) C K fF_RX9_84 dX9_findSplit_174 rfl sh_0 (by decide) ?_
                    rw [hbq.1]
                    refine z_icmp_lt (tgt := 192) (n := 180) C dX9_findSplit_177 rfl rfl (fun c177 => ?_) (fun c177 => ?_)
                    · refine z_iconst (n := 193) (v := 1) C dX9_findSplit_192 rfl rfl ?_
                      refine z_istore (n := 195) (L' := [(5, _), (10, _), (9, _), (8, _), (7, _), (6, _), (0, _), (1, _), (2, _), (3, _), (4, _)]) C dX9_findSplit_193 rfl (by rw [hnL]; decide) rfl ?_
                      refine z_aload_n (n := 196) C 6 dX9_findSplit_195 rfl rfl ?_
                      refine z_iload (n := 198) C 4 dX9_findSplit_196 rfl rfl ?_
                      refine z_putI (n := 201) C K fF_RX9_81 dX9_findSplit_198 rfl sh_0 (by decide) ?_
                      refine z_aload_n (n := 202) C 6 dX9_findSplit_201 rfl rfl ?_
                      refine z_iload (n := 204) C 3 dX9_findSplit_202 rfl rfl ?_
                      refine z_putI (n := 207) C K fF_RX9_84 dX9_findSplit_204 rfl sh_0 (by decide) ?_
                      refine z_aload_n (n := 208) C 6 dX9_findSplit_207 rfl rfl ?_
                      refine z_iload (n := 210) C 2 dX9_findSplit_208 rfl rfl ?_
                      refine z_iload (n := 212) C 1 dX9_findSplit_210 rfl rfl ?_
                      refine z_iadd (n := 213) C dX9_findSplit_212 rfl ?_
                      rw [nI_add]
                      refine z_putI (n := 216) C K fF_RX9_87 dX9_findSplit_213 rfl sh_0 (by decide) ?_
                      refine z_iincG (n := 219) (c := 1) (L' := [(7, _), (5, _), (10, _), (9, _), (8, _), (6, _), (0, _), (1, _), (2, _), (3, _), (4, _)]) C 4 dX9_findSplit_216 rfl rfl rfl (by rw [hnL]; decide) rfl ?_
                      refine z_goto (n := 13) C dX9_findSplit_219 rfl ?_
                      refine z_sub (L' := [(7, _), (6, _), (5, _), (0, _), (1, _), (2, _), (3, _), (4, _)]) [0, 5, 1, 6, 7, 8, 9, 10] rfl ?_
                      rw [fa_lt, nI_toInt (by omega), nI_toInt (by omega)] at c177
                      rw [nI_1]
                      exact ih (k + 1) (1, k, grS ki c hv0 k + grS ki c hv0 (clr set k), ((soF r rd C0 c co ki ag re s a bl h) k - 1) + ((soF r rd C0 c co ki ag re s a bl h) (clr set k) - 1)) _ J5 (by omega) ⟨by omega, by omega, fun q q0 q1 => by rw [upI_row _ _ q0, upI_row _ _ q0, upI_row _ _ q0, hf5 q q1, hf4 q (by omega), hf3 q q1, hf2 q (by omega)]; exact hfI q q0 q1, fun j j1 j2 j3 => by rw [upI_k _ _ j3, upI_k _ _ j2, upI_k _ _ j1, hf5 0 (by omega), hf4 0 (by omega), hf3 0 (by omega), hf2 0 (by omega)]; exact hf0 j j1 j2 j3, fun q q1 q2 => by rw [hg5 q q1 q2, hg3 q q1 q2]; exact hfJ q q1 q2, hz5.fr (by rw [upI_row _ _ (by decide), upI_row _ _ (by decide), upI_row _ _ (by decide)]) rfl, by rw [spF_yes hsp, eb]; exact spN_3 hn1 (fun q => q.elim hx1 hx2) (Or.inr (Or.inl (by omega))), fun _ => ⟨by rw [upI_k _ _ (by decide), upI_k _ _ (by decide), upI_same], by rw [upI_k _ _ (by decide), upI_same], upI_same _ _ _ _⟩⟩
                    · rw [fa_lt, nI_toInt (by omega), nI_toInt (by omega)] at c177
                      refine z_iload (n := 182) C 1 dX9_findSplit_180 rfl rfl ?_
                      refine z_iload (n := 184) C 0 dX9_findSplit_182 rfl rfl ?_
                      refine z_iadd (n := 185) C dX9_findSplit_184 rfl ?_
                      rw [nI_add]
                      refine z_aload_n (n := 186) C 6 dX9_findSplit_185 rfl rfl ?_
                      refine z_getI (n := 189) C K fF_RX9_87 dX9_findSplit_186 rfl sh_0 (by decide) ?_
                      rw [hbq.2]
                      refine z_icmp_le (tgt := 216) (n := 192) C dX9_findSplit_189 rfl rfl (fun c189 => ?_) (fun c189 => ?_)
                      · refine z_iincG (n := 219) (c := 1) (L' := [(7, _), (10, _), (9, _), (8, _), (6, _), (5, _), (0, _), (1, _), (2, _), (3, _), (4, _)]) C 3 dX9_findSplit_216 rfl rfl rfl (by rw [hnL]; decide) rfl ?_
                        refine z_goto (n := 13) C dX9_findSplit_219 rfl ?_
                        refine z_sub (L' := [(7, _), (6, _), (5, _), (0, _), (1, _), (2, _), (3, _), (4, _)]) [0, 4, 5, 6, 7, 8, 9, 10] rfl ?_
                        rw [fa_le, nI_toInt (by omega), nI_toInt (by omega)] at c189
                        rw [nI_1]
                        exact ih (k + 1) b I5 J5 (by omega) ⟨by omega, by omega, fun q q0 q1 => by rw [hf5 q q1, hf4 q (by omega), hf3 q q1, hf2 q (by omega)]; exact hfI q q0 q1, fun j j1 j2 j3 => by rw [hf5 0 (by omega), hf4 0 (by omega), hf3 0 (by omega), hf2 0 (by omega)]; exact hf0 j j1 j2 j3, fun q q1 q2 => by rw [hg5 q q1 q2, hg3 q q1 q2]; exact hfJ q q1 q2, hz5, by rw [spF_yes hsp, eb]; exact spN_4 (fun q => q.elim (by omega) (fun q => q.elim (by omega) (by omega))), fun e => by rw [hf5 0 (by omega), hf4 0 (by omega), hf3 0 (by omega), hf2 0 (by omega)]; exact hbv e⟩
                      · refine z_iconst (n := 193) (v := 1) C dX9_findSplit_192 rfl rfl ?_
                        refine z_istore (n := 195) (L' := [(5, _), (10, _), (9, _), (8, _), (7, _), (6, _), (0, _), (1, _), (2, _), (3, _), (4, _)]) C dX9_findSplit_193 rfl (by rw [hnL]; decide) rfl ?_
                        refine z_aload_n (n := 196) C 6 dX9_findSplit_195 rfl rfl ?_
                        refine z_iload (n := 198) C 4 dX9_findSplit_196 rfl rfl ?_
                        refine z_putI (n := 201) C K fF_RX9_81 dX9_findSplit_198 rfl sh_0 (by decide) ?_
                        refine z_aload_n (n := 202) C 6 dX9_findSplit_201 rfl rfl ?_
                        refine z_iload (n := 204) C 3 dX9_findSplit_202 rfl rfl ?_
                        refine z_putI (n := 207) C K fF_RX9_84 dX9_findSplit_204 rfl sh_0 (by decide) ?_
                        refine z_aload_n (n := 208) C 6 dX9_findSplit_207 rfl rfl ?_
                        refine z_iload (n := 210) C 2 dX9_findSplit_208 rfl rfl ?_
                        refine z_iload (n := 212) C 1 dX9_findSplit_210 rfl rfl ?_
                        refine z_iadd (n := 213) C dX9_findSplit_212 rfl ?_
                        rw [nI_add]
                        refine z_putI (n := 216) C K fF_RX9_87 dX9_findSplit_213 rfl sh_0 (by decide) ?_
                        refine z_iincG (n := 219) (c := 1) (L' := [(7, _), (5, _), (10, _), (9, _), (8, _), (6, _), (0, _), (1, _), (2, _), (3, _), (4, _)]) C 4 dX9_findSplit_216 rfl rfl rfl (by rw [hnL]; decide) rfl ?_
                        refine z_goto (n := 13) C dX9_findSplit_219 rfl ?_
                        refine z_sub (L' := [(7, _), (6, _), (5, _), (0, _), (1, _), (2, _), (3, _), (4, _)]) [0, 5, 1, 6, 7, 8, 9, 10] rfl ?_
                        rw [fa_le, nI_toInt (by omega), nI_toInt (by omega)] at c189
                        rw [nI_1]
                        exact ih (k + 1) (1, k, grS ki c hv0 k + grS ki c hv0 (clr set k), ((soF r rd C0 c co ki ag re s a bl h) k - 1) + ((soF r rd C0 c co ki ag re s a bl h) (clr set k) - 1)) _ J5 (by omega) ⟨by omega, by omega, fun q q0 q1 => by rw [upI_row _ _ q0, upI_row _ _ q0, upI_row _ _ q0, hf5 q q1, hf4 q (by omega), hf3 q q1, hf2 q (by omega)]; exact hfI q q0 q1, fun j j1 j2 j3 => by rw [upI_k _ _ j3, upI_k _ _ j2, upI_k _ _ j1, hf5 0 (by omega), hf4 0 (by omega), hf3 0 (by omega), hf2 0 (by omega)]; exact hf0 j j1 j2 j3, fun q q1 q2 => by rw [hg5 q q1 q2, hg3 q q1 q2]; exact hfJ q q1 q2, hz5.fr (by rw [upI_row _ _ (by decide), upI_row _ _ (by decide), upI_row _ _ (by decide)]) rfl, by rw [spF_yes hsp, eb]; exact spN_3 hn1 (fun q => q.elim hx1 hx2) (Or.inr (Or.inr (by omega))), fun _ => ⟨by rw [upI_k _ _ (by decide), upI_k _ _ (by decide), upI_same], by rw [upI_k _ _ (by decide), upI_same], upI_same _ _ _ _⟩⟩
                · refine z_goto (n := 216) C dX9_findSplit_163 rfl ?_
                  refine z_iincG (n := 219) (c := 1) (L' := [(7, _), (10, _), (9, _), (8, _), (6, _), (5, _), (0, _), (1, _), (2, _), (3, _), (4, _)]) C 3 dX9_findSplit_216 rfl rfl rfl (by rw [hnL]; decide) rfl ?_
                  refine z_goto (n := 13) C dX9_findSplit_219 rfl ?_
                  refine z_sub (L' := [(7, _), (6, _), (5, _), (0, _), (1, _), (2, _), (3, _), (4, _)]) [0, 4, 5, 6, 7, 8, 9, 10] rfl ?_
                  rw [nI_1]
                  exact ih (k + 1) b I5 J5 (by omega) ⟨by omega, by omega, fun q q0 q1 => by rw [hf5 q q1, hf4 q (by omega), hf3 q q1, hf2 q (by omega)]; exact hfI q q0 q1, fun j j1 j2 j3 => by rw [hf5 0 (by omega), hf4 0 (by omega), hf3 0 (by omega), hf2 0 (by omega)]; exact hf0 j j1 j2 j3, fun q q1 q2 => by rw [hg5 q q1 q2, hg3 q q1 q2]; exact hfJ q q1 q2, hz5, by rw [spF_yes hsp, eb]; exact spN_2 (Or.inr ((stI_eq hle2).mp c160)), fun e => by rw [hf5 0 (by omega), hf4 0 (by omega), hf3 0 (by omega), hf2 0 (by omega)]; exact hbv e⟩
            · rw [fa_le, nI_toInt (by omega), nI_toInt (by omega)] at c75
              refine z_goto (n := 216) C dX9_findSplit_78 rfl ?_
              refine z_iincG (n := 219) (c := 1) (L' := [(7, _), (8, _), (6, _), (5, _), (0, _), (1, _), (2, _), (3, _), (4, _)]) C 1 dX9_findSplit_216 rfl rfl rfl (by rw [hnL]; decide) rfl ?_
              refine z_goto (n := 13) C dX9_findSplit_219 rfl ?_
              refine z_sub (L' := [(7, _), (6, _), (5, _), (0, _), (1, _), (2, _), (3, _), (4, _)]) [0, 2, 3, 4, 5, 6, 7, 8] rfl ?_
              rw [nI_1]
              exact ih (k + 1) b I1 J1 (by omega) ⟨by omega, by omega, hfI, hf0, hfJ, hz, by rw [spF_yes hsp, eb]; exact spN_1 ⟨hb1, by omega⟩, hbv⟩
        · refine z_goto (n := 216) C dX9_findSplit_44 rfl ?_
          refine z_iincG (n := 219) (c := 1) (L' := [(7, _), (6, _), (5, _), (0, _), (1, _), (2, _), (3, _), (4, _)]) C 0 dX9_findSplit_216 rfl rfl rfl (by rw [hnL]; decide) rfl ?_
          refine z_goto (n := 13) C dX9_findSplit_219 rfl ?_
          rw [nI_1]
          exact ih (k + 1) b I1 J1 (by omega) ⟨by omega, by omega, hfI, hf0, hfJ, hz, by rw [spF_no (spT_f2 (nI_inj (b := 0) c41 (by have := Nat.and_le_left (n := k) (m := lbS set); omega) (by decide)))]; exact eb, hbv⟩
set_option maxHeartbeats 4000000 in
set_option maxRecDepth 100000 in
theorem c_X9_findSplit {ad : Nat → Nat} {I : KI} {J : KJ} {t : Nat} (ht : Tw t) {n r s : Nat} {rd : Nat → Nat → Nat} (hw : cTw t I n r s rd) (ok : okTw n r s rd) {C0 : Nat → Nat → Nat} (hc : okW n r rd C0) (hW : cWy t I n r rd C0) {c : Nat} {ki co ag re : Nat → Nat} {T : Nat → Nat → Nat} (hk : cKd I c ki co ag re T) (okk : okKd n c ki co ag re T) {hv0 hcn : Nat} {hdn : Nat → Nat} (hmi : cMi I hv0 hcn hdn) (oki : okMi hv0 hcn hdn) {set a bl h : Nat} (hset0 : 0 < set) (hset : set < 2 ^ c) (ha : a < n) (hbl : bl ≤ 200) (hh : h ≤ 100) (hz : cZs I J)  {Q : Int32 → KI → KJ → KR → Prop} (h1 : ∀ I' J' b, (∀ q, q ≠ 0 → ¬ (50 ≤ q ∧ q ≤ 56) → I' q = I q) → (∀ j, j ≠ 14 → j ≠ 15 → j ≠ 16 → I' 0 j = I 0 j) → (∀ q, q ≠ 54 → q ≠ 55 → J' q = J q) → cZs I' J' → spF (grS ki c hv0) (soF r rd C0 c co ki ag re s a bl h) set set = b → b.1 = 1 → I' 0 14 = nI b.2.1 → I' 0 15 = nI b.2.2.1 → I' 0 16 = nI b.2.2.2 → Q 1 I' J' (rf t)) (h0 : ∀ I' J' b, (∀ q, q ≠ 0 → ¬ (50 ≤ q ∧ q ≤ 56) → I' q = I q) → (∀ j, j ≠ 14 → j ≠ 15 → j ≠ 16 → I' 0 j = I 0 j) → (∀ q, q ≠ 54 → q ≠ 55 → J' q = J q) → cZs I' J' → spF (grS ki c hv0) (soF r rd C0 c co ki ag re s a bl h) set set = b → b.1 = 0 → Q 0 I' J' (rf t))  : Mi 6 yX9_findSplit (wm yX9_findSplit cX9_findSplit 11 (some .boolean)) [.ref (ad 0), .int (nI set), .int (nI a), .int (nI bl), .int (nI h)] ad I J (rf t) Q := by
  refine mi_of (own := RX9) yk_X9_findSplit rfl (Nat.le_of_ble_eq_true rfl) rfl (fun X hA hnL C K E => ?_)
  subst hA
  have h1024 : 2 ^ c ≤ 2 ^ 10 := Nat.pow_le_pow_right (by decide) okk.1
  obtain ⟨lb1, lb2, lb3, lb4⟩ := lbS_fact (m := set) (by omega) hset0
  refine z_iconst (n := 1) (v := 0) C dX9_findSplit_0 rfl rfl ?_
  refine z_istore (n := 3) (L' := [(5, _), (0, _), (1, _), (2, _), (3, _), (4, _)]) C dX9_findSplit_1 rfl (by rw [hnL]; decide) rfl ?_
  refine z_iload_n (n := 4) C 2 dX9_findSplit_3 rfl rfl ?_
  refine z_iload_n (n := 5) C 2 dX9_findSplit_4 rfl rfl ?_
  refine z_ineg (n := 6) C dX9_findSplit_5 rfl ?_
  refine z_iand (n := 7) C dX9_findSplit_6 rfl ?_
  rw [lb1]
  refine z_istore (n := 9) (L' := [(6, _), (5, _), (0, _), (1, _), (2, _), (3, _), (4, _)]) C dX9_findSplit_7 rfl (by rw [hnL]; decide) rfl ?_
  refine z_iload (n := 11) C 0 dX9_findSplit_9 rfl rfl ?_
  refine z_istore (n := 13) (L' := [(7, _), (6, _), (5, _), (0, _), (1, _), (2, _), (3, _), (4, _)]) C dX9_findSplit_11 rfl (by rw [hnL]; decide) rfl ?_
  exact l_X9_findSplit C K hnL E ht hw ok hc hW hk okk hmi oki hset0 hset ha hbl hh h1 h0 _ (lbS set) (0, 0, 0, 0) I J (Nat.lt_succ_self _) ⟨Nat.le_refl _, lb2, fun _ _ _ => rfl, fun _ _ _ _ => rfl, fun _ _ _ => rfl, hz, spF_low (by omega) hset0 _ (Nat.le_refl _), fun e => absurd e (by decide)⟩
set_option maxHeartbeats 4000000 in
set_option maxRecDepth 100000 in
theorem c_X9_split {ad : Nat → Nat} {I : KI} {J : KJ} {t : Nat} (ht : Tw t) {n r s : Nat} {rd : Nat → Nat → Nat} (hw : cTw t I n r s rd) (ok : okTw n r s rd) {C0 : Nat → Nat → Nat} (hc : okW n r rd C0) (hW : cWy t I n r rd C0) {c : Nat} {ki co ag re : Nat → Nat} {T : Nat → Nat → Nat} (hk : cKd I c ki co ag re T) (okk : okKd n c ki co ag re T) {hv0 hcn : Nat} {hdn : Nat → Nat} (hmi : cMi I hv0 hcn hdn) (oki : okMi hv0 hcn hdn) (hz : cZs I J) {setv cov bv hv wv : Int32} {Q : Int32 → KI → KJ → KR → Prop} (hR : ∀ v I', spR n c s C0 co ki ag setv cov bv hv wv = some v → (∀ q, ¬ (50 ≤ q ∧ q ≤ 53) → I' q = I q) → Q v I' J (rf t)) (hS : ∀ I' J', spR n c s C0 co ki ag setv cov bv hv wv = none → (∀ q, q ≠ 0 → ¬ (50 ≤ q ∧ q ≤ 56) → I' q = I q) → (∀ j, j ≠ 14 → j ≠ 15 → j ≠ 16 → I' 0 j = I 0 j) → (∀ q, q ≠ 54 → q ≠ 55 → J' q = J q) → cZs I' J' → Q (spV (splitB r s rd C0 c co ki ag re hv0 setv.toNatClampNeg cov.toNatClampNeg bv.toNatClampNeg hv.toNatClampNeg) (grS ki c hv0 setv.toNatClampNeg) wv) I' J' (rf t)) : Mi 7 yX9_split (wm yX9_split cX9_split 7 (some .int)) [.ref (ad 0), .int (setv), .int (cov), .int (bv), .int (hv), .int (wv)] ad I J (rf t) Q := by
  refine mi_of (own := RX9) yk_X9_split rfl (Nat.le_of_ble_eq_true rfl) rfl (fun X hA hnL C K E => ?_)
  subst hA
  refine z_aload_n (n := 1) C 0 dX9_split_0 rfl rfl ?_
  refine z_iload_n (n := 2) C 2 dX9_split_1 rfl rfl ?_
  refine z_vi_1 (n := 5) (d' := 1) C K dX9_split_2 rfl yk_X9_isCorner yv_X9_isCorner kM_RX9_128 (by decide) hR0 rfl rfl sh_0 (by decide) (by decide) ?_
  refine c_X9_isCorner ht hw.1 ok.1 (fun b2 => ?_) (fun b2 => ?_)
  · refine z_ifT_ne (tgt := 10) C (by decide) dX9_split_5 rfl ?_
    refine z_aload_n (n := 11) C 0 dX9_split_10 rfl rfl ?_
    refine z_iload_n (n := 12) C 1 dX9_split_11 rfl rfl ?_
    refine z_vi_1 (n := 15) (d' := 1) C K dX9_split_12 rfl yk_X9_isSet yv_X9_isSet kM_RX9_200 (by decide) hR0 rfl rfl sh_0 (by decide) (by decide) ?_
    refine c_X9_isSet hk.1 okk.1 (fun b12 => ?_) (fun b12 => ?_)
    · refine z_ifF_eq (n := 18) (tgt := 41) C (by decide) dX9_split_15 rfl rfl ?_
      obtain ⟨set, hset0, hset, rfl⟩ := b12
      have hS0 : isS c (nI set) := ⟨set, hset0, hset, rfl⟩
      have h1024 : 2 ^ c ≤ 2 ^ 10 := Nat.pow_le_pow_right (by decide) okk.1
      have e1c : (nI set).toNatClampNeg = set := nI_clamp (by omega)
      refine z_iload_n (n := 19) C 1 dX9_split_18 rfl rfl ?_
      refine z_si_1 (n := 22) (d' := 1) C K dX9_split_19 rfl yk_J6_bitCount_0f7a4 kT_yJ6_bitCount_0f7a4 kM_RX9_255 (by decide) hR0 rfl ?_
      refine c_J6_bitCount_0f7a4 (by omega) ?_
      refine z_iconst (n := 23) (v := 2) C dX9_split_22 rfl rfl ?_
      refine z_bipush (n := 25) (v := 6) C dX9_split_23 rfl rfl ?_
      refine z_si_3 (n := 28) (d' := 1) C K dX9_split_25 rfl yk_X9_isWithin kT_yX9_isWithin kM_RX9_131 (by decide) hR0 rfl ?_
      refine c_inB (lo := 2) (hi := 6) (by decide) (by decide) (fun b25 => ?_) (fun b25 => ?_)
      · refine z_ifF_eq (n := 31) (tgt := 41) C (by decide) dX9_split_28 rfl rfl ?_
        refine z_iload (n := 33) C 5 dX9_split_31 rfl rfl ?_
        refine z_iconst (n := 34) (v := 0) C dX9_split_33 rfl rfl ?_
        refine z_iconst (n := 35) (v := 3) C dX9_split_34 rfl rfl ?_
        refine z_si_3 (n := 38) (d' := 1) C K dX9_split_35 rfl yk_X9_isWithin kT_yX9_isWithin kM_RX9_131 (by decide) hR0 rfl ?_
        refine c_inB (lo := 0) (hi := 3) (by decide) (by decide) (fun b35 => ?_) (fun b35 => ?_)
        · refine z_ifT_ne (tgt := 44) C (by decide) dX9_split_38 rfl ?_
          have hspr := spR_eq (n := n) (c := c) (s := s) (C := C0) (co := co) (ki := ki) (ag := ag) (setv := nI set) (cov := cov) (bv := bv) (hv := hv) (wv := wv) (by rw [e1c]; exact b25) b35
          refine z_aload_n (n := 45) C 0 dX9_split_44 rfl rfl ?_
          refine z_iload_n (n := 46) C 1 dX9_split_45 rfl rfl ?_
          refine z_iload_n (n := 47) C 2 dX9_split_46 rfl rfl ?_
          refine z_iload_n (n := 48) C 3 dX9_split_47 rfl rfl ?_
          refine z_iload (n := 50) C 4 dX9_split_48 rfl rfl ?_
          refine z_vi_4 (n := 53) (d' := 4) C K dX9_split_50 rfl yk_X9_startRefusal yv_X9_startRefusal kM_RX9_232 (by decide) hR0 rfl rfl sh_0 (by decide) (by decide) ?_
          refine c_X9_startRefusal ht hw ok hc hW hk okk (fun v I1 hr hf1 => ?_) (fun set2 a bl h og I1 hn e1 hset02 hset2 e2 ha e3 hbl e4 hh hf1 hG1 hl1 hst => ?_)
          · refine z_istore (n := 55) (L' := [(6, _), (0, _), (1, _), (2, _), (3, _), (4, _), (5, _)]) C dX9_split_53 rfl (by rw [hnL]; decide) rfl ?_
            refine z_iload (n := 57) C 0 dX9_split_55 rfl rfl ?_
            refine z_ifF_eq (n := 60) (tgt := 63) C (fun e => by
  unfold stR at hr
  split at hr
  · cases hr; exact absurd e (by decide)
  · split at hr
    · cases hr; exact absurd e (by decide)
    · split at hr
      · cases hr; exact absurd e (by decide)
      · cases hr) dX9_split_57 rfl rfl ?_
            refine z_iload (n := 62) C 0 dX9_split_60 rfl rfl ?_
            refine z_iret C E dX9_split_62 ?_
            exact hR v I1 (by rw [hspr]; exact hr) hf1
          · refine z_istore (n := 55) (L' := [(6, _), (0, _), (1, _), (2, _), (3, _), (4, _), (5, _)]) C dX9_split_53 rfl (by rw [hnL]; decide) rfl ?_
            refine z_iload (n := 57) C 0 dX9_split_55 rfl rfl ?_
            refine z_ifT_eq (tgt := 63) C (by decide) dX9_split_57 rfl ?_
            have est := nI_inj e1 (by omega) (by omega)
            subst est
            subst e2
            subst e3
            subst e4
            have hn7 := ok.1
            have htq := ht
            unfold Tw at htq
            have e2c : (nI a).toNatClampNeg = a := nI_clamp (by omega)
            have e3c : (nI bl).toNatClampNeg = bl := nI_clamp (by omega)
            have e4c : (nI h).toNatClampNeg = h := nI_clamp (by omega)
            have hw1 : cTw t I1 n r s rd := hw.fr (fun q q1 q2 => hf1 q (by omega))
            have hW1 : cWy t I1 n r rd C0 := hW.fr hn7 (fun q q1 q2 => hf1 q (by omega))
            have hk1 : cKd I1 c ki co ag re T := hk.fr okk.1 (by rw [hf1 0 (by omega)]) (fun q q1 q2 => hf1 q (by omega))
            have hm1 : cMi I1 hv0 hcn hdn := hmi.fr (by rw [hf1 0 (by omega)]) (by rw [hf1 0 (by omega)]) (hf1 62 (by omega))
            refine z_aload_n (n := 64) C 1 dX9_split_63 rfl rfl ?_
            refine z_iload_n (n := 65) C 2 dX9_split_64 rfl rfl ?_
            refine z_iload_n (n := 66) C 3 dX9_split_65 rfl rfl ?_
            refine z_iload_n (n := 67) C 4 dX9_split_66 rfl rfl ?_
            refine z_iload (n := 69) C 5 dX9_split_67 rfl rfl ?_
            refine z_vi_4 (n := 72) (d' := 6) C K dX9_split_69 rfl yk_X9_findSplit yv_X9_findSplit kM_RX9_260 (by decide) hR0 rfl rfl sh_0 (by decide) (by decide) ?_
            refine c_X9_findSplit ht hw1 ok hc hW1 hk1 okk hm1 oki hset0 hset ha hbl hh (hz.fr (hf1 54 (by omega)) rfl) (fun I2 J2 b hf2 hj2 hg2 hz2 eb hb1 g14 g15 g16 => ?_) (fun I2 J2 b hf2 hj2 hg2 hz2 eb hb0 => ?_)
            · refine z_ifT_ne (tgt := 78) C (by decide) dX9_split_72 rfl ?_
              refine z_iload (n := 80) C 6 dX9_split_78 rfl rfl ?_
              refine z_sw C 0 3 [108, 113, 118] 123 dX9_split_80 rfl (by decide) (by decide) (fun i hi => ?_) rfl (fun i u hi hu hx0 => ?_) (fun hx0 => ?_)
              · match i, hi with
                | 0, _ => exact ⟨_, _, rfl, rfl, rfl⟩
                | 1, _ => exact ⟨_, _, rfl, rfl, rfl⟩
                | 2, _ => exact ⟨_, _, rfl, rfl, rfl⟩
              · match i, hi, hu, hx0 with
                | 0, _, hu, hx0 =>
                  cases hu
                  refine z_aload_n (n := 109) C 1 dX9_split_108 rfl rfl ?_
                  refine z_getI (n := 112) C K fF_RX9_81 dX9_split_109 rfl sh_0 (by decide) ?_
                  refine z_iret C E dX9_split_112 ?_
                  have hx := hS I2 J2 (by rw [hspr]; exact hn) (fun q q0 q1 => by rw [hf2 q q0 q1]; exact hf1 q (by omega)) (fun j j1 j2 j3 => by rw [hj2 j j1 j2 j3, hf1 0 (by omega)]) hg2 hz2
                  unfold splitB at hx
                  rw [e1c, e2c, e3c, e4c, eb] at hx
                  unfold spV at hx
                  rw [if_neg (by omega)] at hx
                  subst hx0
                  rw [if_pos (by decide)] at hx
                  rw [g14]
                  exact hx
                | 1, _, hu, hx0 =>
                  cases hu
                  refine z_aload_n (n := 114) C 1 dX9_split_113 rfl rfl ?_
                  refine z_getI (n := 117) C K fF_RX9_84 dX9_split_114 rfl sh_0 (by decide) ?_
                  refine z_iret C E dX9_split_117 ?_
                  have hx := hS I2 J2 (by rw [hspr]; exact hn) (fun q q0 q1 => by rw [hf2 q q0 q1]; exact hf1 q (by omega)) (fun j j1 j2 j3 => by rw [hj2 j j1 j2 j3, hf1 0 (by omega)]) hg2 hz2
                  unfold splitB at hx
                  rw [e1c, e2c, e3c, e4c, eb] at hx
                  unfold spV at hx
                  rw [if_neg (by omega)] at hx
                  subst hx0
                  rw [if_neg (by decide), if_pos (by decide)] at hx
                  rw [g15]
                  exact hx
                | 2, _, hu, hx0 =>
                  cases hu
                  refine z_aload_n (n := 119) C 1 dX9_split_118 rfl rfl ?_
                  refine z_getI (n := 122) C K fF_RX9_87 dX9_split_119 rfl sh_0 (by decide) ?_
                  refine z_iret C E dX9_split_122 ?_
                  have hx := hS I2 J2 (by rw [hspr]; exact hn) (fun q q0 q1 => by rw [hf2 q q0 q1]; exact hf1 q (by omega)) (fun j j1 j2 j3 => by rw [hj2 j j1 j2 j3, hf1 0 (by omega)]) hg2 hz2
                  unfold splitB at hx
                  rw [e1c, e2c, e3c, e4c, eb] at hx
                  unfold spV at hx
                  rw [if_neg (by omega)] at hx
                  subst hx0
                  rw [if_neg (by decide), if_neg (by decide), if_pos (by decide)] at hx
                  rw [g16]
                  exact hx
              · refine z_aload_n (n := 124) C 1 dX9_split_123 rfl rfl ?_
                refine z_getI (n := 127) C K fF_RX9_84 dX9_split_124 rfl sh_0 (by decide) ?_
                refine z_aload_n (n := 128) C 1 dX9_split_127 rfl rfl ?_
                refine z_iload_n (n := 129) C 2 dX9_split_128 rfl rfl ?_
                refine z_vi_1 (n := 132) (d' := 2) C K dX9_split_129 rfl yk_X9_grownFor yv_X9_grownFor kM_RX9_252 (by decide) hR0 rfl rfl sh_0 (by decide) (by decide) ?_
                have hk2 : cKd I2 c ki co ag re T := hk1.fr okk.1 (hj2 5 (by decide) (by decide) (by decide)) (fun q q1 q2 => hf2 q (by omega) (by omega))
                have hm2 : cMi I2 hv0 hcn hdn := hm1.fr (hj2 8 (by decide) (by decide) (by decide)) (hj2 10 (by decide) (by decide) (by decide)) (hf2 62 (by decide) (by decide))
                refine c_X9_grownFor hk2 okk hm2 oki (by omega) ?_
                refine z_isub (n := 133) C dX9_split_132 rfl ?_
                refine z_iret C E dX9_split_133 ?_
                have hx := hS I2 J2 (by rw [hspr]; exact hn) (fun q q0 q1 => by rw [hf2 q q0 q1]; exact hf1 q (by omega)) (fun j j1 j2 j3 => by rw [hj2 j j1 j2 j3, hf1 0 (by omega)]) hg2 hz2
                unfold splitB at hx
                rw [e1c, e2c, e3c, e4c, eb] at hx
                unfold spV at hx
                rw [if_neg (by omega)] at hx
                rw [if_neg (show ¬ wv = 0 from hx0 0 (by decide)), if_neg (show ¬ wv = 1 from hx0 1 (by decide)), if_neg (show ¬ wv = 2 from hx0 2 (by decide))] at hx
                rw [g15]
                exact hx
            · refine z_ifF_ne (n := 75) (tgt := 78) C (by decide) dX9_split_72 rfl rfl ?_
              refine z_bipush (n := 77) (v := (-9)) C dX9_split_75 rfl rfl ?_
              refine z_iret C E dX9_split_77 ?_
              have hx := hS I2 J2 (by rw [hspr]; exact hn) (fun q q0 q1 => by rw [hf2 q q0 q1]; exact hf1 q (by omega)) (fun j j1 j2 j3 => by rw [hj2 j j1 j2 j3, hf1 0 (by omega)]) hg2 hz2
              unfold splitB at hx
              rw [e1c, e2c, e3c, e4c, eb] at hx
              unfold spV at hx
              rw [if_pos hb0] at hx
              exact hx
        · refine z_ifF_ne (n := 41) (tgt := 44) C (by decide) dX9_split_38 rfl rfl ?_
          refine z_bipush (n := 43) (v := (-2)) C dX9_split_41 rfl rfl ?_
          refine z_iret C E dX9_split_43 ?_
          exact hR _ I (by unfold spR; rw [if_neg (fun q => q b2), if_pos (fun q => b35 q.2.2.2.2)]) (fun _ _ => rfl)
      · refine z_ifT_eq (tgt := 41) C (by decide) dX9_split_28 rfl ?_
        refine z_bipush (n := 43) (v := (-2)) C dX9_split_41 rfl rfl ?_
        refine z_iret C E dX9_split_43 ?_
        exact hR _ I (by unfold spR; rw [if_neg (fun q => q b2), if_pos (fun q => b25 (by have := q.2.1; rw [nI_clamp (by omega)] at this; exact this))]) (fun _ _ => rfl)
    · refine z_ifT_eq (tgt := 41) C (by decide) dX9_split_15 rfl ?_
      refine z_bipush (n := 43) (v := (-2)) C dX9_split_41 rfl rfl ?_
      refine z_iret C E dX9_split_43 ?_
      exact hR _ I (by unfold spR; rw [if_neg (fun q => q b2), if_pos (fun q => b12 ((isSB_t okk.1).mp q.1))]) (fun _ _ => rfl)
  · refine z_ifF_ne (n := 8) (tgt := 10) C (by decide) dX9_split_5 rfl rfl ?_
    refine z_iconst (n := 9) (v := (-1)) C dX9_split_8 rfl rfl ?_
    refine z_iret C E dX9_split_9 ?_
    exact hR _ I (by unfold spR; rw [if_pos b2]) (fun _ _ => rfl)
