set_option maxHeartbeats 4000000 in
set_option maxRecDepth 100000 in
theorem lay_W {X : KX} {t : Nat} (C : Cx X RX10 cX10_layRopes 2) (K : Kx X) (hnL : xnL X = 12) {I : KI} {J : KJ} {n c : Nat} {ki co ag re : Nat → Nat} {T : Nat → Nat → Nat} (hk : mKd I c ki co ag re T) (okk : okKd n c ki co ag re T) {set emp loops first m r cu u : Nat} {rs : List Nat} (hset : set < 2 ^ c) (hl8 : loops ≤ 8) (hL2 : 2 ≤ loops) (hLe : loops % 2 = 0) (hemp : emp = 98 ∨ emp + 2 = loops) (hr11 : r ≤ 11) (hf1 : first ≤ 1) (hr : rowA I 105 rs) (hrs : rsOk set emp rs) (hlen : rs.length < loops) (hu : u < 1024) (hub : ∀ y, y < 10 → u.testBit y = rs.contains y) (hN : ∀ x, x ≤ c → (x = c ∨ (x < c ∧ cdS set T ag r rs x = true)) → cu ≤ x → (∀ y, cu ≤ y → y < x → cdS set T ag r rs y = false) → Z X 0 0 (V X I J (rf t)) 213 ((9, .int (nI x)) :: (7, .int (nI rs.length)) :: (6, .int (nI u)) :: LyR X first emp loops m set r) []) : ∀ (f x : Nat), c - x < f → (cu ≤ x ∧ x ≤ c ∧ ∀ y, cu ≤ y → y < x → cdS set T ag r rs y = false) → Z X 0 0 (V X I J (rf t)) 153 ((9, .int (nI x)) :: (7, .int (nI rs.length)) :: (6, .int (nI u)) :: LyR X first emp loops m set r) [] := by
  intro f
  induction f with
  | zero => intro x h; omega
  | succ f ih =>
    intro x hf hi
    obtain ⟨hcx, hxc, hno⟩ := hi
    have h1024 : 2 ^ c ≤ 2 ^ 10 := Nat.pow_le_pow_right (by decide) okk.1
    have hc10 := okk.1
    have hs1024 : set < 1024 := by omega
    have hcb : ∀ y, set.testBit y = true → y < c := fun y hy => by
      by_cases e : y < c
      · exact e
      · rw [Nat.testBit_lt_two_pow (Nat.lt_of_lt_of_le hset (Nat.pow_le_pow_right (by decide) (by omega)))] at hy; cases hy
    have hgi := getD_in hrs.1
    refine z_iload (n := 155) C 0 dX10_layRopes_153 rfl rfl ?_
    refine z_aload_n (n := 156) C 7 dX10_layRopes_155 rfl rfl ?_
    refine z_getI (n := 159) C K fF_RX10_133 dX10_layRopes_156 rfl sh_85 (by decide) ?_
    rw [hk.1]
    refine z_icmp_ge (tgt := 213) (n := 162) C dX10_layRopes_159 rfl rfl (fun c159 => ?_) (fun c159 => ?_)
    · rw [fa_le, nI_toInt (by omega), nI_toInt (by omega)] at c159
      exact hN x hxc (Or.inl (by omega)) hcx hno
    · rw [fa_le, nI_toInt (by omega), nI_toInt (by omega)] at c159
      have hx : x < c := by omega
      refine z_iload_n (n := 163) C 8 dX10_layRopes_162 rfl rfl ?_
      refine z_iload (n := 165) C 0 dX10_layRopes_163 rfl rfl ?_
      refine z_si_2 (n := 168) (d' := 1) C K dX10_layRopes_165 rfl yk_X10_has kT_yX10_has kM_RX10_178 (by decide) hR0 rfl ?_
      refine c_X10_has (by omega) (by omega) (fun b165 => ?_) (fun b165 => ?_)
      · refine z_ifF_eq (n := 171) (tgt := 207) C (by decide) dX10_layRopes_168 rfl rfl ?_
        refine z_iload (n := 173) C 2 dX10_layRopes_171 rfl rfl ?_
        refine z_iload (n := 175) C 0 dX10_layRopes_173 rfl rfl ?_
        refine z_si_2 (n := 178) (d' := 1) C K dX10_layRopes_175 rfl yk_X10_has kT_yX10_has kM_RX10_178 (by decide) hR0 rfl ?_
        refine c_X10_has (by omega) (by omega) (fun b175 => ?_) (fun b175 => ?_)
        · refine z_ifT_ne (tgt := 207) C (by decide) dX10_layRopes_178 rfl ?_
          refine z_iincG (n := 210) (c := 1) (L' := [(9, _), (7, _), (6, _), (8, _), (5, _), (4, _), (3, _), (0, _), (1, _), (2, _)]) C 0 dX10_layRopes_207 rfl rfl rfl (by rw [hnL]; decide) rfl ?_
          refine z_goto (n := 153) C dX10_layRopes_210 rfl ?_
          rw [nI_1]
          exact ih (x + 1) (by omega) ⟨by omega, by omega, fun y h1 h2 => by
            by_cases e : y = x
            · subst e; exact eq_false_of_ne_true (fun q => by unfold cdS at q; rw [Bool.and_eq_true, Bool.and_eq_true, ← hub y (by omega), b175] at q; cases q.2.1)
            · exact hno y h1 (by omega)⟩
        · refine z_ifF_ne (n := 181) (tgt := 207) C (by decide) dX10_layRopes_178 rfl rfl ?_
          refine z_aload_n (n := 182) C 7 dX10_layRopes_181 rfl rfl ?_
          refine z_iload (n := 184) C 1 dX10_layRopes_182 rfl rfl ?_
          refine z_iload (n := 186) C 0 dX10_layRopes_184 rfl rfl ?_
          refine z_iload_n (n := 187) C 9 dX10_layRopes_186 rfl rfl ?_
          refine z_iload (n := 189) C 1 dX10_layRopes_187 rfl rfl ?_
          refine z_iconst (n := 190) (v := 1) C dX10_layRopes_189 rfl rfl ?_
          refine z_isub (n := 191) C dX10_layRopes_190 rfl ?_
          refine z_iload (n := 193) C 4 dX10_layRopes_191 rfl rfl ?_
          refine z_icmp_ne (tgt := 200) (n := 196) C dX10_layRopes_193 rfl rfl (fun c193 => ?_) (fun c193 => ?_)
          · refine z_iconst (n := 201) (v := 0) C dX10_layRopes_200 rfl rfl ?_
            refine z_vi_4 (n := 204) (d' := 1) C K dX10_layRopes_201 rfl yk_X10_mayBe yv_X10_mayBe kM_RX10_275 (by decide) hR0 rfl rfl sh_85 (by decide) (by decide) ?_
            refine c_X10_mayBe (al := 0) hk okk hset hr hrs hx hlen hl8 hemp hr11 (by decide) (fun h1 => ⟨fun q => absurd q (by decide), fun q => absurd ((atI_eq h1 (by omega) (by omega)).mpr ((hrs.h0 h1).mp q)) c193⟩) (fun b201 => ?_) (fun b201 => ?_)
            · refine z_ifT_ne (tgt := 213) C (by decide) dX10_layRopes_204 rfl ?_
              exact hN x hxc (Or.inr ⟨hx, by unfold cdS; rw [b165, ← hub x (by omega), b175, b201]; rfl⟩) hcx hno
            · refine z_ifF_ne (n := 207) (tgt := 213) C (by decide) dX10_layRopes_204 rfl rfl ?_
              refine z_iincG (n := 210) (c := 1) (L' := [(9, _), (7, _), (6, _), (8, _), (5, _), (4, _), (3, _), (0, _), (1, _), (2, _)]) C 0 dX10_layRopes_207 rfl rfl rfl (by rw [hnL]; decide) rfl ?_
              refine z_goto (n := 153) C dX10_layRopes_210 rfl ?_
              rw [nI_1]
              exact ih (x + 1) (by omega) ⟨by omega, by omega, fun y h1 h2 => by
                by_cases e : y = x
                · subst e; exact eq_false_of_ne_true (fun q => by unfold cdS at q; rw [Bool.and_eq_true, Bool.and_eq_true] at q; exact b201 q.2.2)
                · exact hno y h1 (by omega)⟩
          · refine z_iconst (n := 197) (v := 1) C dX10_layRopes_196 rfl rfl ?_
            refine z_goto (n := 201) C dX10_layRopes_197 rfl ?_
            refine z_vi_4 (n := 204) (d' := 1) C K dX10_layRopes_201 rfl yk_X10_mayBe yv_X10_mayBe kM_RX10_275 (by decide) hR0 rfl rfl sh_85 (by decide) (by decide) ?_
            refine c_X10_mayBe (al := 1) hk okk hset hr hrs hx hlen hl8 hemp hr11 (by decide) (fun h1 => ⟨fun _ => (hrs.h0 h1).mpr ((atI_eq h1 (by omega) (by omega)).mp c193), fun _ => rfl⟩) (fun b201 => ?_) (fun b201 => ?_)
            · refine z_ifT_ne (tgt := 213) C (by decide) dX10_layRopes_204 rfl ?_
              exact hN x hxc (Or.inr ⟨hx, by unfold cdS; rw [b165, ← hub x (by omega), b175, b201]; rfl⟩) hcx hno
            · refine z_ifF_ne (n := 207) (tgt := 213) C (by decide) dX10_layRopes_204 rfl rfl ?_
              refine z_iincG (n := 210) (c := 1) (L' := [(9, _), (7, _), (6, _), (8, _), (5, _), (4, _), (3, _), (0, _), (1, _), (2, _)]) C 0 dX10_layRopes_207 rfl rfl rfl (by rw [hnL]; decide) rfl ?_
              refine z_goto (n := 153) C dX10_layRopes_210 rfl ?_
              rw [nI_1]
              exact ih (x + 1) (by omega) ⟨by omega, by omega, fun y h1 h2 => by
                by_cases e : y = x
                · subst e; exact eq_false_of_ne_true (fun q => by unfold cdS at q; rw [Bool.and_eq_true, Bool.and_eq_true] at q; exact b201 q.2.2)
                · exact hno y h1 (by omega)⟩
      · refine z_ifT_eq (tgt := 207) C (by decide) dX10_layRopes_168 rfl ?_
        refine z_iincG (n := 210) (c := 1) (L' := [(9, _), (7, _), (6, _), (8, _), (5, _), (4, _), (3, _), (0, _), (1, _), (2, _)]) C 0 dX10_layRopes_207 rfl rfl rfl (by rw [hnL]; decide) rfl ?_
        refine z_goto (n := 153) C dX10_layRopes_210 rfl ?_
        rw [nI_1]
        exact ih (x + 1) (by omega) ⟨by omega, by omega, fun y h1 h2 => by
          by_cases e : y = x
          · subst e; exact eq_false_of_ne_true (fun q => by unfold cdS at q; rw [Bool.and_eq_true, b165] at q; cases q.1)
          · exact hno y h1 (by omega)⟩
set_option maxHeartbeats 4000000 in
set_option maxRecDepth 100000 in
theorem lay_C {X : KX} {t : Nat} (C : Cx X RX10 cX10_layRopes 2) (K : Kx X) (hnL : xnL X = 12) {I : KI} {J : KJ} {set emp loops first m r at1 u : Nat} {xv av : Int32} {rs : List Nat} (hl8 : loops ≤ 8) (hr : rowA I 105 rs) (hL : rs.length = loops) (hN : ∀ I1, (∀ q, q ≠ 106 → I1 q = I q) → (∀ i, i < 8 → I1 106 i = (if i < loops then seatI (rs.getD (loops - 1 - i) 99) else -9)) → Z X 0 0 (V X I1 J (rf t)) 353 ((7, .int (nI at1)) :: (6, .int (nI u)) :: LyR X first emp loops m set r) []) : ∀ (f i : Nat) (I1 : KI), 8 - i < f → (i ≤ 8 ∧ (∀ q, q ≠ 106 → I1 q = I q) ∧ ∀ j, j < i → I1 106 j = (if j < loops then seatI (rs.getD (loops - 1 - j) 99) else -9)) → Z X 0 0 (V X I1 J (rf t)) 314 ((11, .int (nI i)) :: (10, .int av) :: (9, .int xv) :: (7, .int (nI at1)) :: (6, .int (nI u)) :: LyR X first emp loops m set r) [] := by
  intro f
  induction f with
  | zero => intro i I1 h; omega
  | succ f ih =>
    intro i I1 hf hi
    obtain ⟨hi8, hfr, hv⟩ := hi
    refine z_iload (n := 316) C 0 dX10_layRopes_314 rfl rfl ?_
    refine z_bipush (n := 318) (v := 8) C dX10_layRopes_316 rfl rfl ?_
    refine z_icmp_ge (tgt := 353) (n := 321) C dX10_layRopes_318 rfl rfl (fun c318 => ?_) (fun c318 => ?_)
    · refine z_sub (L' := [(7, _), (6, _), (8, _), (5, _), (4, _), (3, _), (0, _), (1, _), (2, _)]) [3, 4, 5, 6, 7, 8, 9, 10, 11] rfl ?_
      rw [fa_le, nI_toInt (by omega)] at c318
      simp only [Int32.reduceToInt] at c318
      exact hN I1 hfr (fun j hj => hv j (by omega))
    · rw [fa_le, nI_toInt (by omega)] at c318
      simp only [Int32.reduceToInt] at c318
      refine z_aload_n (n := 322) C 9 dX10_layRopes_321 rfl rfl ?_
      refine z_getR (n := 325) (q := 106) C K fF_RX10_75 dX10_layRopes_322 rfl rfl sh_85 (by decide) rfl ?_
      refine z_iload (n := 327) C 0 dX10_layRopes_325 rfl rfl ?_
      refine z_iload (n := 329) C 0 dX10_layRopes_327 rfl rfl ?_
      refine z_iload (n := 331) C 7 dX10_layRopes_329 rfl rfl ?_
      refine z_icmp_ge (tgt := 344) (n := 334) C dX10_layRopes_331 rfl rfl (fun c331 => ?_) (fun c331 => ?_)
      · rw [fa_le, nI_toInt (by omega), nI_toInt (by omega)] at c331
        have ev : (-9 : Int32) = (if i < loops then seatI (rs.getD (loops - 1 - i) 99) else -9) := by rw [if_neg (by omega)]
        refine z_bipush (n := 346) (v := (-9)) C dX10_layRopes_344 rfl rfl ?_
        rw [ev]
        refine z_iastN (n := 347) C K i dX10_layRopes_346 rfl sh_106 (by decide) rfl (by omega) (by decide) ?_
        refine z_iincG (n := 350) (c := 1) (L' := [(11, _), (10, _), (9, _), (7, _), (6, _), (8, _), (5, _), (4, _), (3, _), (0, _), (1, _), (2, _)]) C 0 dX10_layRopes_347 rfl rfl rfl (by rw [hnL]; decide) rfl ?_
        refine z_goto (n := 314) C dX10_layRopes_350 rfl ?_
        rw [nI_1]
        exact ih (i + 1) _ (by omega) ⟨by omega, fun q hq => by rw [upI_row _ _ hq]; exact hfr q hq, fun j hj => by
          by_cases e : j = i
          · subst e; rw [upI_same]
          · rw [upI_k _ _ e]; exact hv j (by omega)⟩
      · rw [fa_le, nI_toInt (by omega), nI_toInt (by omega)] at c331
        have ev : I1 105 i = (if i < loops then seatI (rs.getD (loops - 1 - i) 99) else -9) := by rw [if_pos (by omega), hfr 105 (by decide), hr i (by omega), hL]
        refine z_aload_n (n := 335) C 9 dX10_layRopes_334 rfl rfl ?_
        refine z_getR (n := 338) (q := 105) C K fF_RX10_72 dX10_layRopes_335 rfl rfl sh_85 (by decide) rfl ?_
        refine z_iload (n := 340) C 0 dX10_layRopes_338 rfl rfl ?_
        refine z_ialdN (n := 341) C K i dX10_layRopes_340 rfl sh_105 (by decide) rfl (by omega) (by decide) ?_
        refine z_goto (n := 346) C dX10_layRopes_341 rfl ?_
        rw [ev]
        refine z_iastN (n := 347) C K i dX10_layRopes_346 rfl sh_106 (by decide) rfl (by omega) (by decide) ?_
        refine z_iincG (n := 350) (c := 1) (L' := [(11, _), (10, _), (9, _), (7, _), (6, _), (8, _), (5, _), (4, _), (3, _), (0, _), (1, _), (2, _)]) C 0 dX10_layRopes_347 rfl rfl rfl (by rw [hnL]; decide) rfl ?_
        refine z_goto (n := 314) C dX10_layRopes_350 rfl ?_
        rw [nI_1]
        exact ih (i + 1) _ (by omega) ⟨by omega, fun q hq => by rw [upI_row _ _ hq]; exact hfr q hq, fun j hj => by
          by_cases e : j = i
          · subst e; rw [upI_same]
          · rw [upI_k _ _ e]; exact hv j (by omega)⟩
set_option maxHeartbeats 4000000 in
set_option maxRecDepth 100000 in
theorem lay_I {X : KX} {t : Nat} (C : Cx X RX10 cX10_layRopes 2) (K : Kx X) (hnL : xnL X = 12) {I0 : KI} {J0 : KJ} {n c : Nat} {ki co ag re : Nat → Nat} {T : Nat → Nat → Nat} (hk : mKd I0 c ki co ag re T) (okk : okKd n c ki co ag re T) {set emp loops first m r k fz : Nat} {bz : Nat × List Nat} {rs : List Nat} (hset : set < 2 ^ c) (hl8 : loops ≤ 8) (hL2 : 2 ≤ loops) (hLe : loops % 2 = 0) (hemp : emp = 98 ∨ emp + 2 = loops) (hr11 : r ≤ 11) (hf1 : first ≤ 1) (hsub : ∀ j, j < k → layP X t I0 J0 c set emp loops first m r T ag j) (hkl : rs.length + (k + 1) = loops) (hne : rs.length ≠ emp) (hfl : first ≤ rs.length) (hrs : rsOk set emp rs) (hN : ∀ I' J' u' f' b', lyS I0 J0 loops I' J' rs 0 u' f' b' → f' = fz → b' = bz → Z X 0 0 (V X I' J' (rf t)) 91 ((7, .int (bk rs.length first emp)) :: (6, .int (nI u')) :: LyR X first emp loops m set r) []) : ∀ (g cu : Nat) (I : KI) (J : KJ) (u f : Nat) (b : Nat × List Nat), 10 - cu < g → (cu ≤ c ∧ lyS I0 J0 loops I J rs cu u f b ∧ f + (fillX (cdS set T ag r) emp k rs cu).length = fz ∧ bsF (rowF T) (fillX (cdS set T ag r) emp k rs cu) b = bz) → Z X 0 0 (V X I J (rf t)) 91 ((7, .int (nI rs.length)) :: (6, .int (nI u)) :: LyR X first emp loops m set r) [] := by
  intro g
  induction g with
  | zero => intro cu I J u f b h; omega
  | succ g ih =>
    intro cu I J u f b hf hi
    obtain ⟨hcuc, hly, hfz, hbz⟩ := hi
    have h1024 : 2 ^ c ≤ 2 ^ 10 := Nat.pow_le_pow_right (by decide) okk.1
    have hc10 := okk.1
    have hs1024 : set < 1024 := by omega
    have hcb : ∀ y, set.testBit y = true → y < c := fun y hy => by
      by_cases e : y < c
      · exact e
      · rw [Nat.testBit_lt_two_pow (Nat.lt_of_lt_of_le hset (Nat.pow_le_pow_right (by decide) (by omega)))] at hy; cases hy
    have hgi := getD_in hrs.1
    have hly2 := hly
    obtain ⟨a1, a2, a3, a4, hr, hcuR, a7, a8, a9, a10, hl36, hl35, hlb, hl106⟩ := hly2
    have hk1 : mKd I c ki co ag re T := hk.fr (a2 19 (by decide)) (fun q q1 q2 => a1 q (by omega) (by omega) (by omega))
    have hlen : rs.length < loops := by omega
    refine z_iload (n := 93) C 0 dX10_layRopes_91 rfl rfl ?_
    refine z_iload (n := 95) C 2 dX10_layRopes_93 rfl rfl ?_
    refine z_icmpF_lt (n := 98) (tgt := 387) C (by rw [fa_lt, nI_toInt (by omega), nI_toInt (by omega)]; omega) dX10_layRopes_95 rfl rfl ?_
    refine z_aload_n (n := 99) C 6 dX10_layRopes_98 rfl rfl ?_
    refine z_getR (n := 102) (q := 105) C K fF_RX10_72 dX10_layRopes_99 rfl rfl sh_85 (by decide) rfl ?_
    refine z_iload (n := 104) C 0 dX10_layRopes_102 rfl rfl ?_
    refine z_ialdN (n := 105) C K rs.length dX10_layRopes_104 rfl sh_105 (by decide) rfl (by omega) (by decide) ?_
    rw [hcuR]
    refine z_bipush (n := 107) (v := (-9)) C dX10_layRopes_105 rfl rfl ?_
    refine z_icmp_eq (tgt := 126) (n := 110) C dX10_layRopes_107 rfl rfl (fun c107 => ?_) (fun c107 => ?_)
    · have hcu0 : cu = 0 := (cuI (by omega)).mp c107
      subst hcu0
      have hd : I 105 rs.length = -9 := hcuR
      refine z_aload_n (n := 127) C 6 dX10_layRopes_126 rfl rfl ?_
      refine z_getR (n := 130) (q := 105) C K fF_RX10_72 dX10_layRopes_127 rfl rfl sh_85 (by decide) rfl ?_
      refine z_iload (n := 132) C 0 dX10_layRopes_130 rfl rfl ?_
      refine z_ialdN (n := 133) C K rs.length dX10_layRopes_132 rfl sh_105 (by decide) rfl (by omega) (by decide) ?_
      rw [hd]
      refine z_bipush (n := 135) (v := (-9)) C dX10_layRopes_133 rfl rfl ?_
      refine z_icmpF_ne (n := 138) (tgt := 142) C rfl dX10_layRopes_135 rfl rfl ?_
      refine z_iconst (n := 139) (v := 0) C dX10_layRopes_138 rfl rfl ?_
      refine z_goto (n := 151) C dX10_layRopes_139 rfl ?_
      refine z_istore (n := 153) (L' := [(9, _), (7, _), (6, _), (8, _), (5, _), (4, _), (3, _), (0, _), (1, _), (2, _)]) C dX10_layRopes_151 rfl (by rw [hnL]; decide) rfl ?_
      have huu : u < 1024 := a8
      have hub : ∀ y, y < 10 → u.testBit y = rs.contains y := fun y hy => a9 y hy (Or.inl rfl)
      refine lay_W C K hnL hk1 okk (cu := 0) (u := u) hset hl8 hL2 hLe hemp hr11 hf1 hr hrs hlen huu hub (fun x hxc hcase hcx hno => ?_) 11 (0) (by omega) ⟨Nat.le_refl _, hcuc, fun y h1 h2 => by omega⟩
      refine z_iload (n := 215) C 0 dX10_layRopes_213 rfl rfl ?_
      refine z_aload_n (n := 216) C 7 dX10_layRopes_215 rfl rfl ?_
      refine z_getI (n := 219) C K fF_RX10_133 dX10_layRopes_216 rfl sh_85 (by decide) ?_
      rw [hk1.1]
      refine z_icmp_ne (tgt := 260) (n := 222) C dX10_layRopes_219 rfl rfl (fun c219 => ?_) (fun c219 => ?_)
      · have hxy : x < c ∧ cdS set T ag r rs x = true := hcase.resolve_left (fun e => c219 (by rw [e]))
        have hx10 : x < 10 := by omega
        have hcd := hxy.2
        have hcd2 := hcd
        unfold cdS at hcd2
        rw [Bool.and_eq_true, Bool.and_eq_true, Bool.not_eq_true'] at hcd2
        have hsx := hcd2.1
        have hnx := hcd2.2.1
        have hr2 : rowA (upI I 105 rs.length (nI x)) 105 (x :: rs) := (hr.fr (fun i hi => upI_k _ _ (by omega))).cons (by rw [upI_same]; exact (if_neg (by omega)).symm)
        refine z_aload_n (n := 261) C 7 dX10_layRopes_260 rfl rfl ?_
        refine z_getR (n := 264) (q := 105) C K fF_RX10_72 dX10_layRopes_261 rfl rfl sh_85 (by decide) rfl ?_
        refine z_iload (n := 266) C 1 dX10_layRopes_264 rfl rfl ?_
        refine z_iload (n := 268) C 0 dX10_layRopes_266 rfl rfl ?_
        refine z_iastN (n := 269) C K rs.length dX10_layRopes_268 rfl sh_105 (by decide) rfl (by omega) (by decide) ?_
        refine z_iload (n := 271) C 1 dX10_layRopes_269 rfl rfl ?_
        refine z_iload (n := 273) C 5 dX10_layRopes_271 rfl rfl ?_
        refine z_iconst (n := 274) (v := 1) C dX10_layRopes_273 rfl rfl ?_
        refine z_isub (n := 275) C dX10_layRopes_274 rfl ?_
        rw [nI_s1 loops (by omega)]
        refine z_icmp_ne (tgt := 356) (n := 278) C dX10_layRopes_275 rfl rfl (fun c275 => ?_) (fun c275 => ?_)
        · have hk0 : k ≠ 0 := fun e => c275 (by congr 1; omega)
          refine z_iload (n := 358) C 2 dX10_layRopes_356 rfl rfl ?_
          refine z_iconst (n := 359) (v := 1) C dX10_layRopes_358 rfl rfl ?_
          refine z_iload (n := 361) C 0 dX10_layRopes_359 rfl rfl ?_
          refine z_ishl (n := 362) C dX10_layRopes_361 rfl ?_
          rw [one_shl x (by omega)]
          refine z_ior (n := 363) C dX10_layRopes_362 rfl ?_
          rw [or_nI]
          refine z_istore (n := 365) (L' := [(6, _), (9, _), (7, _), (8, _), (5, _), (4, _), (3, _), (0, _), (1, _), (2, _)]) C dX10_layRopes_363 rfl (by rw [hnL]; decide) rfl ?_
          refine z_iload (n := 367) C 2 dX10_layRopes_365 rfl rfl ?_
          refine z_iload (n := 369) C 2 dX10_layRopes_367 rfl rfl ?_
          refine z_iconst (n := 370) (v := 1) C dX10_layRopes_369 rfl rfl ?_
          refine z_iadd (n := 371) C dX10_layRopes_370 rfl ?_
          rw [nI_1]
          refine z_iload (n := 373) C 4 dX10_layRopes_371 rfl rfl ?_
          refine z_icmp_ne (tgt := 380) (n := 376) C dX10_layRopes_373 rfl rfl (fun c373 => ?_) (fun c373 => ?_)
          · refine z_iconst (n := 381) (v := 1) C dX10_layRopes_380 rfl rfl ?_
            refine z_iadd (n := 382) C dX10_layRopes_381 rfl ?_
            refine z_istore (n := 384) (L' := [(7, _), (6, _), (9, _), (8, _), (5, _), (4, _), (3, _), (0, _), (1, _), (2, _)]) C dX10_layRopes_382 rfl (by rw [hnL]; decide) rfl ?_
            refine z_goto (n := 91) C dX10_layRopes_384 rfl ?_
            refine z_sub (L' := [(7, _), (6, _), (8, _), (5, _), (4, _), (3, _), (0, _), (1, _), (2, _)]) [0, 1, 3, 4, 5, 6, 7, 8, 9] rfl ?_
            have hne2 : (x :: rs).length ≠ emp := fun e => c373 (by rw [← e, List.length_cons]; unfold empI; rw [if_neg (by omega)])
            obtain ⟨k2, rfl⟩ : ∃ k2, k = k2 + 1 := ⟨k - 1, by omega⟩
            have hst : fillX (cdS set T ag r) emp (k2 + 1) rs (0) = fillX (cdS set T ag r) emp k2 (x :: rs) 0 ++ fillX (cdS set T ag r) emp (k2 + 1) rs (x + 1) := by
              rw [fillX_to (by omega) 10 (0) (by omega) hcx hno, fillX_yes hx10 hcd, fillS_X hne2]
            rw [hst, List.length_append] at hfz
            rw [hst, bsF_app] at hbz
            rw [nI_1]
            refine hsub k2 (by omega) _ J (x :: rs) 0 ((u) ||| 2 ^ x) f b (by rw [List.length_cons]; omega) hne2 (by rw [List.length_cons]; omega) (hrs.cons hsx hs1024 hne) (Nat.zero_le _) (hly.deep hx10 (by omega) huu hub) (fun I4 J4 u4 f4 b4 hly4 hf4 hb4 => ?_)
            have hbk : bk (x :: rs).length first emp = nI rs.length := by
              unfold bk
              rw [List.length_cons, if_neg (by omega), nI_s1 _ (by omega), Nat.add_sub_cancel]
            rw [hbk]
            rw [← hb4] at hbz
            exact ih (x + 1) I4 J4 u4 f4 b4 (by omega) ⟨by omega, hly4.pop hx10 hnx, by omega, hbz⟩
          · refine z_iconst (n := 377) (v := 2) C dX10_layRopes_376 rfl rfl ?_
            refine z_goto (n := 381) C dX10_layRopes_377 rfl ?_
            refine z_iadd (n := 382) C dX10_layRopes_381 rfl ?_
            refine z_istore (n := 384) (L' := [(7, _), (6, _), (9, _), (8, _), (5, _), (4, _), (3, _), (0, _), (1, _), (2, _)]) C dX10_layRopes_382 rfl (by rw [hnL]; decide) rfl ?_
            refine z_goto (n := 91) C dX10_layRopes_384 rfl ?_
            refine z_sub (L' := [(7, _), (6, _), (8, _), (5, _), (4, _), (3, _), (0, _), (1, _), (2, _)]) [0, 1, 3, 4, 5, 6, 7, 8, 9] rfl ?_
            have hem1 : rs.length + 1 = emp := by
              unfold empI at c373
              by_cases e : emp = 98
              · rw [if_pos e] at c373
                have := congrArg Int32.toInt c373
                rw [nI_toInt (by omega)] at this
                simp only [Int32.reduceToInt] at this
                omega
              · rw [if_neg e] at c373
                exact nI_inj c373 (by omega) (by omega)
            obtain ⟨k2, rfl⟩ : ∃ k2, k = k2 + 2 := ⟨k - 2, by omega⟩
            have hst : fillX (cdS set T ag r) emp (k2 + 2) rs (0) = fillX (cdS set T ag r) emp k2 (99 :: x :: rs) 0 ++ fillX (cdS set T ag r) emp (k2 + 2) rs (x + 1) := by
              rw [fillX_to (by omega) 10 (0) (by omega) hcx hno, fillX_yes hx10 hcd, fillS_emp (by rw [List.length_cons]; exact hem1), fillS_X (by rw [List.length_cons, List.length_cons]; omega)]
            rw [hst, List.length_append] at hfz
            rw [hst, bsF_app] at hbz
            rw [show nI rs.length + 2 = nI (rs.length + 2) from nI_add _ 2]
            refine hsub k2 (by omega) _ J (99 :: x :: rs) 0 ((u) ||| 2 ^ x) f b (by rw [List.length_cons, List.length_cons]; omega) (by rw [List.length_cons, List.length_cons]; omega) (by rw [List.length_cons, List.length_cons]; omega) ((hrs.cons hsx hs1024 hne).none (by rw [List.length_cons]; exact hem1)) (Nat.zero_le _) ((hly.deep hx10 (by omega) huu hub).push99 (by rw [List.length_cons]; omega)) (fun I4 J4 u4 f4 b4 hly4 hf4 hb4 => ?_)
            have hbk : bk (99 :: x :: rs).length first emp = nI rs.length := by
              unfold bk
              rw [List.length_cons, List.length_cons, if_pos (by omega)]
              exact nI_sub (b := 2) (by omega) (by omega)
            rw [hbk]
            rw [← hb4] at hbz
            exact ih (x + 1) I4 J4 u4 f4 b4 (by omega) ⟨by omega, hly4.pop99.pop hx10 hnx, by omega, hbz⟩
        · have hk0 : k = 0 := by have := nI_inj c275 (by omega) (by omega); omega
          have hlx : (x :: rs).length = loops := by rw [List.length_cons]; omega
          have hrl := rowS_le T (x :: rs)
          have hrf1 : rowS T (x :: rs) + 1 ≤ 201 := by omega
          refine z_aload_n (n := 279) C 7 dX10_layRopes_278 rfl rfl ?_
          refine z_dup (n := 280) C dX10_layRopes_279 rfl rfl ?_
          refine z_getJ (n := 283) C K fF_RX10_268 dX10_layRopes_280 rfl sh_85 (by decide) ?_
          rw [hl36]
          refine z_lconst (n := 284) (v := 1) C dX10_layRopes_283 rfl rfl ?_
          refine z_ladd (n := 285) C dX10_layRopes_284 rfl ?_
          rw [show (1 : Int64) = lN 1 from rfl, lN_add]
          refine z_putJ (n := 288) C K fF_RX10_268 dX10_layRopes_285 rfl sh_85 (by decide) ?_
          refine z_aload_n (n := 289) C 7 dX10_layRopes_288 rfl rfl ?_
          refine z_iload (n := 291) C 5 dX10_layRopes_289 rfl rfl ?_
          refine z_vi_1 (n := 294) (d' := 1) C K dX10_layRopes_291 rfl yk_X10_friendRows yv_X10_friendRows kM_RX10_279 (by decide) hR0 rfl rfl sh_85 (by decide) (by decide) ?_
          have hk2 : mKd (upI I 105 rs.length (nI x)) c ki co ag re T := hk1.fr (by rw [upI_row _ _ (show 85 ≠ 105 by decide)]) (fun q q1 q2 => upI_row _ _ (by omega))
          refine c_X10_friendRows hk2 okk hset hr2 (hrs.cons hsx hs1024 hne) hlx hl8 hemp hLe hL2 ?_
          refine z_istore (n := 296) (L' := [(10, _), (9, _), (7, _), (6, _), (8, _), (5, _), (4, _), (3, _), (0, _), (1, _), (2, _)]) C dX10_layRopes_294 rfl (by rw [hnL]; decide) rfl ?_
          refine z_iload (n := 298) C 0 dX10_layRopes_296 rfl rfl ?_
          refine z_aload_n (n := 299) C 8 dX10_layRopes_298 rfl rfl ?_
          refine z_getI (n := 302) C K fF_RX10_272 dX10_layRopes_299 rfl sh_85 (by decide) ?_
          rw [upI_row _ _ (by decide), hl35, stI_row (rowS T (x :: rs))]
          refine z_icmp_le (tgt := 91) (n := 305) C dX10_layRopes_302 rfl rfl (fun c302 => ?_) (fun c302 => ?_)
          · refine z_sub (L' := [(7, _), (6, _), (8, _), (5, _), (4, _), (3, _), (0, _), (1, _), (2, _)]) [2, 3, 4, 5, 6, 7, 8, 9, 10] rfl ?_
            rw [stI_le hrf1 (by omega)] at c302
            have hst : fillX (cdS set T ag r) emp k rs (0) = [x :: rs] ++ fillX (cdS set T ag r) emp k rs (x + 1) := by
              rw [fillX_to (by omega) 10 (0) (by omega) hcx hno, fillX_yes hx10 hcd, hk0, fillS]
            rw [hst, List.length_append] at hfz
            rw [hst, bsF_app] at hbz
            have hbn : bsF (rowF T) [x :: rs] b = b := by rw [bsF, if_neg (by unfold rowF; omega)]; rfl
            rw [hbn] at hbz
            exact ih (x + 1) _ _ _ (f + 1) b (by omega) ⟨by omega, hly.took hx10 hnx huu hub (fun q q1 q2 q3 => upI_row _ _ q2) (fun j hj => by rw [upI_row _ _ (show 85 ≠ 105 by decide)]) (fun i hi => upI_k _ _ hi) (upI_same _ _ _ _) (fun q hq => upJ_row _ _ hq) (fun j hj => upJ_k _ _ hj) (upJ_same _ _ _ _) (by rw [upI_row _ _ (by decide)]; exact hl35) hlb (fun e => ⟨(hl106 e).1, fun i hi => by rw [upI_row _ _ (by decide)]; exact (hl106 e).2 i hi⟩), by rw [← hfz]; show f + 1 + _ = f + (1 + _); omega, hbz⟩
          · rw [← stI_row (rowS T (x :: rs))]
            refine z_aload_n (n := 306) C 8 dX10_layRopes_305 rfl rfl ?_
            refine z_iload (n := 308) C 0 dX10_layRopes_306 rfl rfl ?_
            refine z_putI (n := 311) C K fF_RX10_272 dX10_layRopes_308 rfl sh_85 (by decide) ?_
            refine z_iconst (n := 312) (v := 0) C dX10_layRopes_311 rfl rfl ?_
            refine z_istore (n := 314) (L' := [(11, _), (10, _), (9, _), (7, _), (6, _), (8, _), (5, _), (4, _), (3, _), (0, _), (1, _), (2, _)]) C dX10_layRopes_312 rfl (by rw [hnL]; decide) rfl ?_
            refine lay_C C K hnL (I := upI (upI I 105 rs.length (nI x)) 85 35 (nI (rowS T (x :: rs)))) (rs := x :: rs) hl8 (hr2.fr (fun i _ => by rw [upI_row _ _ (by decide)])) hlx (fun I3 hf3 hv3 => ?_) 9 0 _ (by omega) ⟨Nat.zero_le _, fun _ _ => rfl, fun j hj => by omega⟩
            refine z_goto (n := 91) C dX10_layRopes_353 rfl ?_
            rw [stI_le hrf1 (by omega)] at c302
            have hst : fillX (cdS set T ag r) emp k rs (0) = [x :: rs] ++ fillX (cdS set T ag r) emp k rs (x + 1) := by
              rw [fillX_to (by omega) 10 (0) (by omega) hcx hno, fillX_yes hx10 hcd, hk0, fillS]
            rw [hst, List.length_append] at hfz
            rw [hst, bsF_app] at hbz
            have hbn : bsF (rowF T) [x :: rs] b = (rowF T (x :: rs), x :: rs) := by rw [bsF, if_pos (by unfold rowF; omega)]; rfl
            rw [hbn] at hbz
            exact ih (x + 1) I3 _ _ (f + 1) (rowF T (x :: rs), x :: rs) (by omega) ⟨by omega, hly.took hx10 hnx huu hub (fun q q1 q2 q3 => by rw [hf3 q q3, upI_row _ _ q1, upI_row _ _ q2]) (fun j hj => by rw [hf3 85 (by decide), upI_k _ _ hj, upI_row _ _ (by decide)]) (fun i hi => by rw [hf3 105 (by decide), upI_row _ _ (by decide), upI_k _ _ hi]) (by rw [hf3 105 (by decide), upI_row _ _ (by decide), upI_same]) (fun q hq => upJ_row _ _ hq) (fun j hj => upJ_k _ _ hj) (upJ_same _ _ _ _) (by rw [hf3 85 (by decide), upI_same]; exact stI_row _) (by show rowF T (x :: rs) ≤ 10; unfold rowF; omega) (fun _ => ⟨hlx, hv3⟩), by rw [← hfz]; show f + 1 + _ = f + (1 + _); omega, hbz⟩
      · have hxe : x = c := nI_inj c219 (by omega) (by omega)
        refine z_aload_n (n := 223) C 7 dX10_layRopes_222 rfl rfl ?_
        refine z_getR (n := 226) (q := 105) C K fF_RX10_72 dX10_layRopes_223 rfl rfl sh_85 (by decide) rfl ?_
        refine z_iload (n := 228) C 1 dX10_layRopes_226 rfl rfl ?_
        refine z_bipush (n := 230) (v := (-9)) C dX10_layRopes_228 rfl rfl ?_
        refine z_iastN (n := 231) C K rs.length dX10_layRopes_230 rfl sh_105 (by decide) rfl (by omega) (by decide) ?_
        refine z_iload (n := 233) C 1 dX10_layRopes_231 rfl rfl ?_
        refine z_iload (n := 235) C 1 dX10_layRopes_233 rfl rfl ?_
        refine z_iconst (n := 236) (v := 1) C dX10_layRopes_235 rfl rfl ?_
        refine z_isub (n := 237) C dX10_layRopes_236 rfl ?_
        refine z_iload (n := 239) C 4 dX10_layRopes_237 rfl rfl ?_
        refine z_icmp_ne (tgt := 253) (n := 242) C dX10_layRopes_239 rfl rfl (fun c239 => ?_) (fun c239 => ?_)
        · refine z_iconst (n := 254) (v := 1) C dX10_layRopes_253 rfl rfl ?_
          refine z_isub (n := 255) C dX10_layRopes_254 rfl ?_
          refine z_istore (n := 257) (L' := [(7, _), (9, _), (6, _), (8, _), (5, _), (4, _), (3, _), (0, _), (1, _), (2, _)]) C dX10_layRopes_255 rfl (by rw [hnL]; decide) rfl ?_
          refine z_goto (n := 91) C dX10_layRopes_257 rfl ?_
          refine z_sub (L' := [(7, _), (6, _), (8, _), (5, _), (4, _), (3, _), (0, _), (1, _), (2, _)]) [0, 2, 3, 4, 5, 6, 7, 8, 9] rfl ?_
          have hbk : bk rs.length first emp = nI rs.length - 1 := by unfold bk; rw [if_neg (fun q => c239 ((atI_eq (by omega) (by omega) (by omega)).mpr (by omega)))]
          rw [← hbk]
          have hnil : fillX (cdS set T ag r) emp k rs (0) = [] := fillX_none 10 _ (by omega) (fun y h1 h2 => by
            by_cases e : y < c
            · exact hno y h1 (by omega)
            · exact eq_false_of_ne_true (fun q => by unfold cdS at q; rw [Bool.and_eq_true] at q; exact e (hcb y q.1)))
          rw [hnil] at hfz hbz
          exact hN _ _ _ f b (hly.exh huu hub) hfz hbz
        · refine z_iload (n := 244) C 1 dX10_layRopes_242 rfl rfl ?_
          refine z_iload (n := 246) C 3 dX10_layRopes_244 rfl rfl ?_
          refine z_icmp_le (tgt := 253) (n := 249) C dX10_layRopes_246 rfl rfl (fun c246 => ?_) (fun c246 => ?_)
          · refine z_iconst (n := 254) (v := 1) C dX10_layRopes_253 rfl rfl ?_
            refine z_isub (n := 255) C dX10_layRopes_254 rfl ?_
            refine z_istore (n := 257) (L' := [(7, _), (9, _), (6, _), (8, _), (5, _), (4, _), (3, _), (0, _), (1, _), (2, _)]) C dX10_layRopes_255 rfl (by rw [hnL]; decide) rfl ?_
            refine z_goto (n := 91) C dX10_layRopes_257 rfl ?_
            refine z_sub (L' := [(7, _), (6, _), (8, _), (5, _), (4, _), (3, _), (0, _), (1, _), (2, _)]) [0, 2, 3, 4, 5, 6, 7, 8, 9] rfl ?_
            rw [fa_le, nI_toInt (by omega), nI_toInt (by omega)] at c246
            have hbk : bk rs.length first emp = nI rs.length - 1 := by unfold bk; rw [if_neg (by omega)]
            rw [← hbk]
            have hnil : fillX (cdS set T ag r) emp k rs (0) = [] := fillX_none 10 _ (by omega) (fun y h1 h2 => by
              by_cases e : y < c
              · exact hno y h1 (by omega)
              · exact eq_false_of_ne_true (fun q => by unfold cdS at q; rw [Bool.and_eq_true] at q; exact e (hcb y q.1)))
            rw [hnil] at hfz hbz
            exact hN _ _ _ f b (hly.exh huu hub) hfz hbz
          · refine z_iconst (n := 250) (v := 2) C dX10_layRopes_249 rfl rfl ?_
            refine z_goto (n := 254) C dX10_layRopes_250 rfl ?_
            refine z_isub (n := 255) C dX10_layRopes_254 rfl ?_
            refine z_istore (n := 257) (L' := [(7, _), (9, _), (6, _), (8, _), (5, _), (4, _), (3, _), (0, _), (1, _), (2, _)]) C dX10_layRopes_255 rfl (by rw [hnL]; decide) rfl ?_
            refine z_goto (n := 91) C dX10_layRopes_257 rfl ?_
            refine z_sub (L' := [(7, _), (6, _), (8, _), (5, _), (4, _), (3, _), (0, _), (1, _), (2, _)]) [0, 2, 3, 4, 5, 6, 7, 8, 9] rfl ?_
            rw [fa_le, nI_toInt (by omega), nI_toInt (by omega)] at c246
            have hbk : bk rs.length first emp = nI rs.length - 2 := by
              have := (atI_eq (by omega) (by omega) (by omega)).mp c239
              unfold bk; rw [if_pos (by omega)]
            rw [← hbk]
            have hnil : fillX (cdS set T ag r) emp k rs (0) = [] := fillX_none 10 _ (by omega) (fun y h1 h2 => by
              by_cases e : y < c
              · exact hno y h1 (by omega)
              · exact eq_false_of_ne_true (fun q => by unfold cdS at q; rw [Bool.and_eq_true] at q; exact e (hcb y q.1)))
            rw [hnil] at hfz hbz
            exact hN _ _ _ f b (hly.exh huu hub) hfz hbz
    · have hcu0 : cu ≠ 0 := fun e => c107 ((cuI (by omega)).mpr e)
      obtain ⟨d, rfl⟩ : ∃ d, cu = d + 1 := ⟨cu - 1, by omega⟩
      have hd : I 105 rs.length = nI d := by rw [hcuR, if_neg (by omega)]; rfl
      refine z_iload (n := 112) C 1 dX10_layRopes_110 rfl rfl ?_
      refine z_iconst (n := 113) (v := 1) C dX10_layRopes_112 rfl rfl ?_
      refine z_aload_n (n := 114) C 6 dX10_layRopes_113 rfl rfl ?_
      refine z_getR (n := 117) (q := 105) C K fF_RX10_72 dX10_layRopes_114 rfl rfl sh_85 (by decide) rfl ?_
      refine z_iload (n := 119) C 0 dX10_layRopes_117 rfl rfl ?_
      refine z_ialdN (n := 120) C K rs.length dX10_layRopes_119 rfl sh_105 (by decide) rfl (by omega) (by decide) ?_
      rw [hd]
      refine z_ishl (n := 121) C dX10_layRopes_120 rfl ?_
      rw [one_shl d (by omega)]
      refine z_iconst (n := 122) (v := (-1)) C dX10_layRopes_121 rfl rfl ?_
      refine z_ixor (n := 123) C dX10_layRopes_122 rfl ?_
      refine z_iand (n := 124) C dX10_layRopes_123 rfl ?_
      rw [clr_nI]
      refine z_istore (n := 126) (L' := [(6, _), (7, _), (8, _), (5, _), (4, _), (3, _), (0, _), (1, _), (2, _)]) C dX10_layRopes_124 rfl (by rw [hnL]; decide) rfl ?_
      refine z_aload_n (n := 127) C 6 dX10_layRopes_126 rfl rfl ?_
      refine z_getR (n := 130) (q := 105) C K fF_RX10_72 dX10_layRopes_127 rfl rfl sh_85 (by decide) rfl ?_
      refine z_iload (n := 132) C 1 dX10_layRopes_130 rfl rfl ?_
      refine z_ialdN (n := 133) C K rs.length dX10_layRopes_132 rfl sh_105 (by decide) rfl (by omega) (by decide) ?_
      rw [hd]
      refine z_bipush (n := 135) (v := (-9)) C dX10_layRopes_133 rfl rfl ?_
      refine z_icmpT_ne (tgt := 142) C (fun e => by have := congrArg Int32.toInt e; rw [nI_toInt (by omega)] at this; simp only [Int32.reduceToInt] at this; omega) dX10_layRopes_135 rfl ?_
      refine z_aload_n (n := 143) C 6 dX10_layRopes_142 rfl rfl ?_
      refine z_getR (n := 146) (q := 105) C K fF_RX10_72 dX10_layRopes_143 rfl rfl sh_85 (by decide) rfl ?_
      refine z_iload (n := 148) C 1 dX10_layRopes_146 rfl rfl ?_
      refine z_ialdN (n := 149) C K rs.length dX10_layRopes_148 rfl sh_105 (by decide) rfl (by omega) (by decide) ?_
      rw [hd]
      refine z_iconst (n := 150) (v := 1) C dX10_layRopes_149 rfl rfl ?_
      refine z_iadd (n := 151) C dX10_layRopes_150 rfl ?_
      rw [nI_1]
      refine z_istore (n := 153) (L' := [(9, _), (6, _), (7, _), (8, _), (5, _), (4, _), (3, _), (0, _), (1, _), (2, _)]) C dX10_layRopes_151 rfl (by rw [hnL]; decide) rfl ?_
      refine z_sub (L' := [(9, _), (7, _), (6, _), (8, _), (5, _), (4, _), (3, _), (0, _), (1, _), (2, _)]) [0, 2, 1, 3, 4, 5, 6, 7, 8, 9] rfl ?_
      obtain ⟨huu, hub⟩ := hly.clr (d := d) rfl
      refine lay_W C K hnL hk1 okk (cu := d + 1) (u := clr u (2 ^ d)) hset hl8 hL2 hLe hemp hr11 hf1 hr hrs hlen huu hub (fun x hxc hcase hcx hno => ?_) 11 (d + 1) (by omega) ⟨Nat.le_refl _, hcuc, fun y h1 h2 => by omega⟩
      refine z_iload (n := 215) C 0 dX10_layRopes_213 rfl rfl ?_
      refine z_aload_n (n := 216) C 7 dX10_layRopes_215 rfl rfl ?_
      refine z_getI (n := 219) C K fF_RX10_133 dX10_layRopes_216 rfl sh_85 (by decide) ?_
      rw [hk1.1]
      refine z_icmp_ne (tgt := 260) (n := 222) C dX10_layRopes_219 rfl rfl (fun c219 => ?_) (fun c219 => ?_)
      · have hxy : x < c ∧ cdS set T ag r rs x = true := hcase.resolve_left (fun e => c219 (by rw [e]))
        have hx10 : x < 10 := by omega
        have hcd := hxy.2
        have hcd2 := hcd
        unfold cdS at hcd2
        rw [Bool.and_eq_true, Bool.and_eq_true, Bool.not_eq_true'] at hcd2
        have hsx := hcd2.1
        have hnx := hcd2.2.1
        have hr2 : rowA (upI I 105 rs.length (nI x)) 105 (x :: rs) := (hr.fr (fun i hi => upI_k _ _ (by omega))).cons (by rw [upI_same]; exact (if_neg (by omega)).symm)
        refine z_aload_n (n := 261) C 7 dX10_layRopes_260 rfl rfl ?_
        refine z_getR (n := 264) (q := 105) C K fF_RX10_72 dX10_layRopes_261 rfl rfl sh_85 (by decide) rfl ?_
        refine z_iload (n := 266) C 1 dX10_layRopes_264 rfl rfl ?_
        refine z_iload (n := 268) C 0 dX10_layRopes_266 rfl rfl ?_
        refine z_iastN (n := 269) C K rs.length dX10_layRopes_268 rfl sh_105 (by decide) rfl (by omega) (by decide) ?_
        refine z_iload (n := 271) C 1 dX10_layRopes_269 rfl rfl ?_
        refine z_iload (n := 273) C 5 dX10_layRopes_271 rfl rfl ?_
        refine z_iconst (n := 274) (v := 1) C dX10_layRopes_273 rfl rfl ?_
        refine z_isub (n := 275) C dX10_layRopes_274 rfl ?_
        rw [nI_s1 loops (by omega)]
        refine z_icmp_ne (tgt := 356) (n := 278) C dX10_layRopes_275 rfl rfl (fun c275 => ?_) (fun c275 => ?_)
        · have hk0 : k ≠ 0 := fun e => c275 (by congr 1; omega)
          refine z_iload (n := 358) C 2 dX10_layRopes_356 rfl rfl ?_
          refine z_iconst (n := 359) (v := 1) C dX10_layRopes_358 rfl rfl ?_
          refine z_iload (n := 361) C 0 dX10_layRopes_359 rfl rfl ?_
          refine z_ishl (n := 362) C dX10_layRopes_361 rfl ?_
          rw [one_shl x (by omega)]
          refine z_ior (n := 363) C dX10_layRopes_362 rfl ?_
          rw [or_nI]
          refine z_istore (n := 365) (L' := [(6, _), (9, _), (7, _), (8, _), (5, _), (4, _), (3, _), (0, _), (1, _), (2, _)]) C dX10_layRopes_363 rfl (by rw [hnL]; decide) rfl ?_
          refine z_iload (n := 367) C 2 dX10_layRopes_365 rfl rfl ?_
          refine z_iload (n := 369) C 2 dX10_layRopes_367 rfl rfl ?_
          refine z_iconst (n := 370) (v := 1) C dX10_layRopes_369 rfl rfl ?_
          refine z_iadd (n := 371) C dX10_layRopes_370 rfl ?_
          rw [nI_1]
          refine z_iload (n := 373) C 4 dX10_layRopes_371 rfl rfl ?_
          refine z_icmp_ne (tgt := 380) (n := 376) C dX10_layRopes_373 rfl rfl (fun c373 => ?_) (fun c373 => ?_)
          · refine z_iconst (n := 381) (v := 1) C dX10_layRopes_380 rfl rfl ?_
            refine z_iadd (n := 382) C dX10_layRopes_381 rfl ?_
            refine z_istore (n := 384) (L' := [(7, _), (6, _), (9, _), (8, _), (5, _), (4, _), (3, _), (0, _), (1, _), (2, _)]) C dX10_layRopes_382 rfl (by rw [hnL]; decide) rfl ?_
            refine z_goto (n := 91) C dX10_layRopes_384 rfl ?_
            refine z_sub (L' := [(7, _), (6, _), (8, _), (5, _), (4, _), (3, _), (0, _), (1, _), (2, _)]) [0, 1, 3, 4, 5, 6, 7, 8, 9] rfl ?_
            have hne2 : (x :: rs).length ≠ emp := fun e => c373 (by rw [← e, List.length_cons]; unfold empI; rw [if_neg (by omega)])
            obtain ⟨k2, rfl⟩ : ∃ k2, k = k2 + 1 := ⟨k - 1, by omega⟩
            have hst : fillX (cdS set T ag r) emp (k2 + 1) rs (d + 1) = fillX (cdS set T ag r) emp k2 (x :: rs) 0 ++ fillX (cdS set T ag r) emp (k2 + 1) rs (x + 1) := by
              rw [fillX_to (by omega) 10 (d + 1) (by omega) hcx hno, fillX_yes hx10 hcd, fillS_X hne2]
            rw [hst, List.length_append] at hfz
            rw [hst, bsF_app] at hbz
            rw [nI_1]
            refine hsub k2 (by omega) _ J (x :: rs) 0 ((clr u (2 ^ d)) ||| 2 ^ x) f b (by rw [List.length_cons]; omega) hne2 (by rw [List.length_cons]; omega) (hrs.cons hsx hs1024 hne) (Nat.zero_le _) (hly.deep hx10 (by omega) huu hub) (fun I4 J4 u4 f4 b4 hly4 hf4 hb4 => ?_)
            have hbk : bk (x :: rs).length first emp = nI rs.length := by
              unfold bk
              rw [List.length_cons, if_neg (by omega), nI_s1 _ (by omega), Nat.add_sub_cancel]
            rw [hbk]
            rw [← hb4] at hbz
            exact ih (x + 1) I4 J4 u4 f4 b4 (by omega) ⟨by omega, hly4.pop hx10 hnx, by omega, hbz⟩
          · refine z_iconst (n := 377) (v := 2) C dX10_layRopes_376 rfl rfl ?_
            refine z_goto (n := 381) C dX10_layRopes_377 rfl ?_
            refine z_iadd (n := 382) C dX10_layRopes_381 rfl ?_
            refine z_istore (n := 384) (L' := [(7, _), (6, _), (9, _), (8, _), (5, _), (4, _), (3, _), (0, _), (1, _), (2, _)]) C dX10_layRopes_382 rfl (by rw [hnL]; decide) rfl ?_
            refine z_goto (n := 91) C dX10_layRopes_384 rfl ?_
            refine z_sub (L' := [(7, _), (6, _), (8, _), (5, _), (4, _), (3, _), (0, _), (1, _), (2, _)]) [0, 1, 3, 4, 5, 6, 7, 8, 9] rfl ?_
            have hem1 : rs.length + 1 = emp := by
              unfold empI at c373
              by_cases e : emp = 98
              · rw [if_pos e] at c373
                have := congrArg Int32.toInt c373
                rw [nI_toInt (by omega)] at this
                simp only [Int32.reduceToInt] at this
                omega
              · rw [if_neg e] at c373
                exact nI_inj c373 (by omega) (by omega)
            obtain ⟨k2, rfl⟩ : ∃ k2, k = k2 + 2 := ⟨k - 2, by omega⟩
            have hst : fillX (cdS set T ag r) emp (k2 + 2) rs (d + 1) = fillX (cdS set T ag r) emp k2 (99 :: x :: rs) 0 ++ fillX (cdS set T ag r) emp (k2 + 2) rs (x + 1) := by
              rw [fillX_to (by omega) 10 (d + 1) (by omega) hcx hno, fillX_yes hx10 hcd, fillS_emp (by rw [List.length_cons]; exact hem1), fillS_X (by rw [List.length_cons, List.length_cons]; omega)]
            rw [hst, List.length_append] at hfz
            rw [hst, bsF_app] at hbz
            rw [show nI rs.length + 2 = nI (rs.length + 2) from nI_add _ 2]
            refine hsub k2 (by omega) _ J (99 :: x :: rs) 0 ((clr u (2 ^ d)) ||| 2 ^ x) f b (by rw [List.length_cons, List.length_cons]; omega) (by rw [List.length_cons, List.length_cons]; omega) (by rw [List.length_cons, List.length_cons]; omega) ((hrs.cons hsx hs1024 hne).none (by rw [List.length_cons]; exact hem1)) (Nat.zero_le _) ((hly.deep hx10 (by omega) huu hub).push99 (by rw [List.length_cons]; omega)) (fun I4 J4 u4 f4 b4 hly4 hf4 hb4 => ?_)
            have hbk : bk (99 :: x :: rs).length first emp = nI rs.length := by
              unfold bk
              rw [List.length_cons, List.length_cons, if_pos (by omega)]
              exact nI_sub (b := 2) (by omega) (by omega)
            rw [hbk]
            rw [← hb4] at hbz
            exact ih (x + 1) I4 J4 u4 f4 b4 (by omega) ⟨by omega, hly4.pop99.pop hx10 hnx, by omega, hbz⟩
        · have hk0 : k = 0 := by have := nI_inj c275 (by omega) (by omega); omega
          have hlx : (x :: rs).length = loops := by rw [List.length_cons]; omega
          have hrl := rowS_le T (x :: rs)
          have hrf1 : rowS T (x :: rs) + 1 ≤ 201 := by omega
          refine z_aload_n (n := 279) C 7 dX10_layRopes_278 rfl rfl ?_
          refine z_dup (n := 280) C dX10_layRopes_279 rfl rfl ?_
          refine z_getJ (n := 283) C K fF_RX10_268 dX10_layRopes_280 rfl sh_85 (by decide) ?_
          rw [hl36]
          refine z_lconst (n := 284) (v := 1) C dX10_layRopes_283 rfl rfl ?_
          refine z_ladd (n := 285) C dX10_layRopes_284 rfl ?_
          rw [show (1 : Int64) = lN 1 from rfl, lN_add]
          refine z_putJ (n := 288) C K fF_RX10_268 dX10_layRopes_285 rfl sh_85 (by decide) ?_
          refine z_aload_n (n := 289) C 7 dX10_layRopes_288 rfl rfl ?_
          refine z_iload (n := 291) C 5 dX10_layRopes_289 rfl rfl ?_
          refine z_vi_1 (n := 294) (d' := 1) C K dX10_layRopes_291 rfl yk_X10_friendRows yv_X10_friendRows kM_RX10_279 (by decide) hR0 rfl rfl sh_85 (by decide) (by decide) ?_
          have hk2 : mKd (upI I 105 rs.length (nI x)) c ki co ag re T := hk1.fr (by rw [upI_row _ _ (show 85 ≠ 105 by decide)]) (fun q q1 q2 => upI_row _ _ (by omega))
          refine c_X10_friendRows hk2 okk hset hr2 (hrs.cons hsx hs1024 hne) hlx hl8 hemp hLe hL2 ?_
          refine z_istore (n := 296) (L' := [(10, _), (9, _), (7, _), (6, _), (8, _), (5, _), (4, _), (3, _), (0, _), (1, _), (2, _)]) C dX10_layRopes_294 rfl (by rw [hnL]; decide) rfl ?_
          refine z_iload (n := 298) C 0 dX10_layRopes_296 rfl rfl ?_
          refine z_aload_n (n := 299) C 8 dX10_layRopes_298 rfl rfl ?_
          refine z_getI (n := 302) C K fF_RX10_272 dX10_layRopes_299 rfl sh_85 (by decide) ?_
          rw [upI_row _ _ (by decide), hl35, stI_row (rowS T (x :: rs))]
          refine z_icmp_le (tgt := 91) (n := 305) C dX10_layRopes_302 rfl rfl (fun c302 => ?_) (fun c302 => ?_)
          · refine z_sub (L' := [(7, _), (6, _), (8, _), (5, _), (4, _), (3, _), (0, _), (1, _), (2, _)]) [2, 3, 4, 5, 6, 7, 8, 9, 10] rfl ?_
            rw [stI_le hrf1 (by omega)] at c302
            have hst : fillX (cdS set T ag r) emp k rs (d + 1) = [x :: rs] ++ fillX (cdS set T ag r) emp k rs (x + 1) := by
              rw [fillX_to (by omega) 10 (d + 1) (by omega) hcx hno, fillX_yes hx10 hcd, hk0, fillS]
            rw [hst, List.length_append] at hfz
            rw [hst, bsF_app] at hbz
            have hbn : bsF (rowF T) [x :: rs] b = b := by rw [bsF, if_neg (by unfold rowF; omega)]; rfl
            rw [hbn] at hbz
            exact ih (x + 1) _ _ _ (f + 1) b (by omega) ⟨by omega, hly.took hx10 hnx huu hub (fun q q1 q2 q3 => upI_row _ _ q2) (fun j hj => by rw [upI_row _ _ (show 85 ≠ 105 by decide)]) (fun i hi => upI_k _ _ hi) (upI_same _ _ _ _) (fun q hq => upJ_row _ _ hq) (fun j hj => upJ_k _ _ hj) (upJ_same _ _ _ _) (by rw [upI_row _ _ (by decide)]; exact hl35) hlb (fun e => ⟨(hl106 e).1, fun i hi => by rw [upI_row _ _ (by decide)]; exact (hl106 e).2 i hi⟩), by rw [← hfz]; show f + 1 + _ = f + (1 + _); omega, hbz⟩
          · rw [← stI_row (rowS T (x :: rs))]
            refine z_aload_n (n := 306) C 8 dX10_layRopes_305 rfl rfl ?_
            refine z_iload (n := 308) C 0 dX10_layRopes_306 rfl rfl ?_
            refine z_putI (n := 311) C K fF_RX10_272 dX10_layRopes_308 rfl sh_85 (by decide) ?_
            refine z_iconst (n := 312) (v := 0) C dX10_layRopes_311 rfl rfl ?_
            refine z_istore (n := 314) (L' := [(11, _), (10, _), (9, _), (7, _), (6, _), (8, _), (5, _), (4, _), (3, _), (0, _), (1, _), (2, _)]) C dX10_layRopes_312 rfl (by rw [hnL]; decide) rfl ?_
            refine lay_C C K hnL (I := upI (upI I 105 rs.length (nI x)) 85 35 (nI (rowS T (x :: rs)))) (rs := x :: rs) hl8 (hr2.fr (fun i _ => by rw [upI_row _ _ (by decide)])) hlx (fun I3 hf3 hv3 => ?_) 9 0 _ (by omega) ⟨Nat.zero_le _, fun _ _ => rfl, fun j hj => by omega⟩
            refine z_goto (n := 91) C dX10_layRopes_353 rfl ?_
            rw [stI_le hrf1 (by omega)] at c302
            have hst : fillX (cdS set T ag r) emp k rs (d + 1) = [x :: rs] ++ fillX (cdS set T ag r) emp k rs (x + 1) := by
              rw [fillX_to (by omega) 10 (d + 1) (by omega) hcx hno, fillX_yes hx10 hcd, hk0, fillS]
            rw [hst, List.length_append] at hfz
            rw [hst, bsF_app] at hbz
            have hbn : bsF (rowF T) [x :: rs] b = (rowF T (x :: rs), x :: rs) := by rw [bsF, if_pos (by unfold rowF; omega)]; rfl
            rw [hbn] at hbz
            exact ih (x + 1) I3 _ _ (f + 1) (rowF T (x :: rs), x :: rs) (by omega) ⟨by omega, hly.took hx10 hnx huu hub (fun q q1 q2 q3 => by rw [hf3 q q3, upI_row _ _ q1, upI_row _ _ q2]) (fun j hj => by rw [hf3 85 (by decide), upI_k _ _ hj, upI_row _ _ (by decide)]) (fun i hi => by rw [hf3 105 (by decide), upI_row _ _ (by decide), upI_k _ _ hi]) (by rw [hf3 105 (by decide), upI_row _ _ (by decide), upI_same]) (fun q hq => upJ_row _ _ hq) (fun j hj => upJ_k _ _ hj) (upJ_same _ _ _ _) (by rw [hf3 85 (by decide), upI_same]; exact stI_row _) (by show rowF T (x :: rs) ≤ 10; unfold rowF; omega) (fun _ => ⟨hlx, hv3⟩), by rw [← hfz]; show f + 1 + _ = f + (1 + _); omega, hbz⟩
      · have hxe : x = c := nI_inj c219 (by omega) (by omega)
        refine z_aload_n (n := 223) C 7 dX10_layRopes_222 rfl rfl ?_
        refine z_getR (n := 226) (q := 105) C K fF_RX10_72 dX10_layRopes_223 rfl rfl sh_85 (by decide) rfl ?_
        refine z_iload (n := 228) C 1 dX10_layRopes_226 rfl rfl ?_
        refine z_bipush (n := 230) (v := (-9)) C dX10_layRopes_228 rfl rfl ?_
        refine z_iastN (n := 231) C K rs.length dX10_layRopes_230 rfl sh_105 (by decide) rfl (by omega) (by decide) ?_
        refine z_iload (n := 233) C 1 dX10_layRopes_231 rfl rfl ?_
        refine z_iload (n := 235) C 1 dX10_layRopes_233 rfl rfl ?_
        refine z_iconst (n := 236) (v := 1) C dX10_layRopes_235 rfl rfl ?_
        refine z_isub (n := 237) C dX10_layRopes_236 rfl ?_
        refine z_iload (n := 239) C 4 dX10_layRopes_237 rfl rfl ?_
        refine z_icmp_ne (tgt := 253) (n := 242) C dX10_layRopes_239 rfl rfl (fun c239 => ?_) (fun c239 => ?_)
        · refine z_iconst (n := 254) (v := 1) C dX10_layRopes_253 rfl rfl ?_
          refine z_isub (n := 255) C dX10_layRopes_254 rfl ?_
          refine z_istore (n := 257) (L' := [(7, _), (9, _), (6, _), (8, _), (5, _), (4, _), (3, _), (0, _), (1, _), (2, _)]) C dX10_layRopes_255 rfl (by rw [hnL]; decide) rfl ?_
          refine z_goto (n := 91) C dX10_layRopes_257 rfl ?_
          refine z_sub (L' := [(7, _), (6, _), (8, _), (5, _), (4, _), (3, _), (0, _), (1, _), (2, _)]) [0, 2, 3, 4, 5, 6, 7, 8, 9] rfl ?_
          have hbk : bk rs.length first emp = nI rs.length - 1 := by unfold bk; rw [if_neg (fun q => c239 ((atI_eq (by omega) (by omega) (by omega)).mpr (by omega)))]
          rw [← hbk]
          have hnil : fillX (cdS set T ag r) emp k rs (d + 1) = [] := fillX_none 10 _ (by omega) (fun y h1 h2 => by
            by_cases e : y < c
            · exact hno y h1 (by omega)
            · exact eq_false_of_ne_true (fun q => by unfold cdS at q; rw [Bool.and_eq_true] at q; exact e (hcb y q.1)))
          rw [hnil] at hfz hbz
          exact hN _ _ _ f b (hly.exh huu hub) hfz hbz
        · refine z_iload (n := 244) C 1 dX10_layRopes_242 rfl rfl ?_
          refine z_iload (n := 246) C 3 dX10_layRopes_244 rfl rfl ?_
          refine z_icmp_le (tgt := 253) (n := 249) C dX10_layRopes_246 rfl rfl (fun c246 => ?_) (fun c246 => ?_)
          · refine z_iconst (n := 254) (v := 1) C dX10_layRopes_253 rfl rfl ?_
            refine z_isub (n := 255) C dX10_layRopes_254 rfl ?_
            refine z_istore (n := 257) (L' := [(7, _), (9, _), (6, _), (8, _), (5, _), (4, _), (3, _), (0, _), (1, _), (2, _)]) C dX10_layRopes_255 rfl (by rw [hnL]; decide) rfl ?_
            refine z_goto (n := 91) C dX10_layRopes_257 rfl ?_
            refine z_sub (L' := [(7, _), (6, _), (8, _), (5, _), (4, _), (3, _), (0, _), (1, _), (2, _)]) [0, 2, 3, 4, 5, 6, 7, 8, 9] rfl ?_
            rw [fa_le, nI_toInt (by omega), nI_toInt (by omega)] at c246
            have hbk : bk rs.length first emp = nI rs.length - 1 := by unfold bk; rw [if_neg (by omega)]
            rw [← hbk]
            have hnil : fillX (cdS set T ag r) emp k rs (d + 1) = [] := fillX_none 10 _ (by omega) (fun y h1 h2 => by
              by_cases e : y < c
              · exact hno y h1 (by omega)
              · exact eq_false_of_ne_true (fun q => by unfold cdS at q; rw [Bool.and_eq_true] at q; exact e (hcb y q.1)))
            rw [hnil] at hfz hbz
            exact hN _ _ _ f b (hly.exh huu hub) hfz hbz
          · refine z_iconst (n := 250) (v := 2) C dX10_layRopes_249 rfl rfl ?_
            refine z_goto (n := 254) C dX10_layRopes_250 rfl ?_
            refine z_isub (n := 255) C dX10_layRopes_254 rfl ?_
            refine z_istore (n := 257) (L' := [(7, _), (9, _), (6, _), (8, _), (5, _), (4, _), (3, _), (0, _), (1, _), (2, _)]) C dX10_layRopes_255 rfl (by rw [hnL]; decide) rfl ?_
            refine z_goto (n := 91) C dX10_layRopes_257 rfl ?_
            refine z_sub (L' := [(7, _), (6, _), (8, _), (5, _), (4, _), (3, _), (0, _), (1, _), (2, _)]) [0, 2, 3, 4, 5, 6, 7, 8, 9] rfl ?_
            rw [fa_le, nI_toInt (by omega), nI_toInt (by omega)] at c246
            have hbk : bk rs.length first emp = nI rs.length - 2 := by
              have := (atI_eq (by omega) (by omega) (by omega)).mp c239
              unfold bk; rw [if_pos (by omega)]
            rw [← hbk]
            have hnil : fillX (cdS set T ag r) emp k rs (d + 1) = [] := fillX_none 10 _ (by omega) (fun y h1 h2 => by
              by_cases e : y < c
              · exact hno y h1 (by omega)
              · exact eq_false_of_ne_true (fun q => by unfold cdS at q; rw [Bool.and_eq_true] at q; exact e (hcb y q.1)))
            rw [hnil] at hfz hbz
            exact hN _ _ _ f b (hly.exh huu hub) hfz hbz
theorem lay_all {X : KX} {t : Nat} (C : Cx X RX10 cX10_layRopes 2) (K : Kx X) (hnL : xnL X = 12) {I0 : KI} {J0 : KJ} {n c : Nat} {ki co ag re : Nat → Nat} {T : Nat → Nat → Nat} (hk : mKd I0 c ki co ag re T) (okk : okKd n c ki co ag re T) {set emp loops first m r : Nat} (hset : set < 2 ^ c) (hl8 : loops ≤ 8) (hL2 : 2 ≤ loops) (hLe : loops % 2 = 0) (hemp : emp = 98 ∨ emp + 2 = loops) (hr11 : r ≤ 11) (hf1 : first ≤ 1) : ∀ (q k : Nat), k < q → layP X t I0 J0 c set emp loops first m r T ag k := by
  intro q
  induction q with
  | zero => intro k h; omega
  | succ q ih =>
    intro k hkq I J rs cu u f b h1 h2 h3 h4 h5 h6 hN
    exact lay_I C K hnL hk okk hset hl8 hL2 hLe hemp hr11 hf1 (fun j hj => ih j (by omega)) h1 h2 h3 h4 (fun I' J' u' f' b' g1 g2 g3 => hN I' J' u' f' b' g1 g2 g3) 11 cu I J u f b (by omega) ⟨h5, h6, rfl, rfl⟩
